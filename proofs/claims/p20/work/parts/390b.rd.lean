/-! the law's rounds, further -/
set_option maxRecDepth 100000 in
set_option maxHeartbeats 8000000 in
theorem ck59 {s0 L : Nat} {xs : Nat → Int32} {a : Nat → Nat} {c : Nat → ClassId} {b : Nat → Nat} {d : Nat → ClassId} (hL : L ≤ 260) (h16 : 80 ≤ L) (hx : ∀ j, j < 80 → xs j = 31) : ∀ (S : St) (F : Nat → Nat → Int32) (g : Nat → Nat), Iv S F 4 → sK S 0 = 0 → (∀ j, g j < 4096) → VB 123 RL cL_law 17 (some .boolean) wsL_law roomB (vXL s0 L xs) (tyl c d) (qF 123) (7582) (45492 + 1250) (wal a c S b d F g) 783 [(0, .ref (s0)), (1, .ref (a 0)), (2, .ref (b 0)), (3, .ref (b 1)), (4, .ref (b 2)), (5, .ref (b 3)), (6, .ref (b 4)), (7, .int (iZ 1)), (8, .int (iZ 59)), (9, .int (iZ 31)), (10, .int (iZ 0))] [] := by
  intro S F g hI hK hg
  obtain ⟨ho, hn, hm4, hM0, hG, hC⟩ := id hI
  refine VB_iload (q := 785) dL_law_783 7 rfl rfl ?_
  refine VB_if_eq (q := 788) (tgt := 968) dL_law_785 (by decide) (by decide) (fun hc => absurd hc (by decide)) (fun _ => ?_)
  refine VB_aload_n (q := 789) dL_law_788 1 rfl rfl ?_
  refine VB_aload_n (q := 790) dL_law_789 2 rfl rfl ?_
  refine VB_aload_n (q := 791) dL_law_790 3 rfl rfl ?_
  refine VB_aload (q := 793) dL_law_791 6 rfl rfl ?_
  refine VB_callU (q := 796) dL_law_793 (u_areThings (a := a) (c := c) (S := S) (b := b) (d := d) (F := F) hI hg) yv_L_areThings rfl gL_law_L_areThings xU_L rfl (Nat.le_of_ble_eq_true rfl) (by decide) ⟨by show _ ≤ 20000; omega, by show _ ≤ 130000; omega⟩ (fun x793 g793 hP793 hg793 => ?_)
  refine VB_lo (lo' := 123) (Nat.le_add_right _ _) ?_
  have J968 : ∀ (gj968 : Nat → Nat), (∀ j, gj968 j < 4096) → VB 123 RL cL_law 17 (some .boolean) wsL_law roomB (vXL s0 L xs) (tyl c d) (qF 123) (7602) (45612 + 1250) (wal a c S b d F gj968) 968 [(0, .ref (s0)), (1, .ref (a 0)), (2, .ref (b 0)), (3, .ref (b 1)), (4, .ref (b 2)), (5, .ref (b 3)), (6, .ref (b 4)), (7, .int (iZ 1)), (8, .int (iZ 59)), (9, .int (iZ 31)), (10, .int (iZ 0))] [] := by
    intro gj968 hgj968
    refine VB_iconst (q := 969) dL_law_968 rfl ?_
    refine VB_istore (q := 971) (lv' := [(0, _), (1, _), (2, _), (3, _), (4, _), (5, _), (6, _), (7, _), (8, _), (9, _), (10, _)]) dL_law_969 (by decide) rfl rfl ?_
    refine VB_iinc (q := 974) (y := 60) (lv' := [(0, _), (1, _), (2, _), (3, _), (4, _), (5, _), (6, _), (7, _), (8, _), (9, _), (10, _)]) dL_law_971 8 rfl (by omega) (by decide) rfl rfl ?_
    refine VB_goto (tgt := 64) dL_law_974 (by decide) ?_
    refine VB_iload (q := 66) dL_law_64 8 rfl rfl ?_
    refine VB_bipush (q := 68) dL_law_66 (by decide) rfl ?_
    refine VB_icmp_ge (q := 71) (tgt := 977) dL_law_68 (by decide) (by decide) (by decide) (fun hc => absurd hc (by decide)) (fun _ => ?_)
    refine VB_iload (q := 73) dL_law_71 7 rfl rfl ?_
    refine VB_if_eq (q := 76) (tgt := 977) dL_law_73 (by decide) (by decide) (fun _ => ?_) (fun hc => absurd hc (by decide))
    refine VB_iload (q := 979) dL_law_977 7 rfl rfl ?_
    exact VB_ret0 dL_law_979 rfl
  refine VB_uif_eq (q := 799) (tgt := 968) dL_law_796 (by decide) ?_ ?_
  · skip
    exact VB_widen (by omega) (by omega) (J968 g793 hg793)
  · skip
    refine VB_iload (q := 801) dL_law_799 8 rfl rfl ?_
    refine VB_iconst (q := 802) dL_law_801 rfl ?_
    refine VB_irem (q := 803) (a := 59) (b := 2) dL_law_802 (by omega) (by decide) (by decide) rfl ?_
    refine VB_top (y := iZ 1) rfl ?_
    refine VB_if_gt (q := 806) (tgt := 833) dL_law_803 (by decide) (by decide) (fun _ => ?_) (fun hc => absurd hc (by decide))
    refine VB_aload_n (q := 834) dL_law_833 1 rfl rfl ?_
    refine VB_aload_n (q := 835) dL_law_834 2 rfl rfl ?_
    refine VB_aload_n (q := 836) dL_law_835 3 rfl rfl ?_
    refine VB_aload (q := 838) dL_law_836 4 rfl rfl ?_
    refine VB_aload (q := 840) dL_law_838 6 rfl rfl ?_
    refine VB_callU (q := 843) dL_law_840 (u_isMissing (a := a) (c := c) (S := S) (b := b) (d := d) (F := F) hI hg793) yv_L_isMissing rfl gL_law_L_isMissing xU_L rfl (Nat.le_of_ble_eq_true rfl) (by decide) ⟨by show _ ≤ 20000; omega, by show _ ≤ 130000; omega⟩ (fun x840 g840 hP840 hg840 => ?_)
    refine VB_lo (lo' := 123) (Nat.le_add_right _ _) ?_
    refine VB_uif_eq (q := 846) (tgt := 968) dL_law_843 (by decide) ?_ ?_
    · skip
      exact VB_widen (by omega) (by omega) (J968 g840 hg840)
    · skip
      refine VB_aload_n (q := 847) dL_law_846 1 rfl rfl ?_
      refine VB_aload_n (q := 848) dL_law_847 2 rfl rfl ?_
      refine VB_aload (q := 850) dL_law_848 6 rfl rfl ?_
      refine VB_iload (q := 852) dL_law_850 10 rfl rfl ?_
      refine VB_aload (q := 854) dL_law_852 6 rfl rfl ?_
      refine VB_iconst (q := 855) dL_law_854 rfl ?_
      refine VB_iald (q := 856) (v := (iZ 4)) dL_law_855 13 12 rfl rfl (0) (by omega) (by omega) (by decide) (hM0) rfl ?_
      refine VB_iconst (q := 857) dL_law_856 rfl ?_
      refine VB_iadd (q := 858) dL_law_857 rfl ?_
      refine VB_top (y := iZ 5) rfl ?_
      refine VB_irem (q := 859) (a := 0) (b := 5) dL_law_858 (by omega) (by decide) (by decide) rfl ?_
      refine VB_top (y := iZ 0) rfl ?_
      refine VB_iload (q := 861) dL_law_859 10 rfl rfl ?_
      refine VB_bipush (q := 863) dL_law_861 (by decide) rfl ?_
      refine VB_idiv (q := 864) (a := 0) (b := 13) dL_law_863 (by omega) (by decide) (by decide) rfl ?_
      refine VB_top (y := iZ 0) rfl ?_
      refine VB_aload (q := 866) dL_law_864 6 rfl rfl ?_
      refine VB_iconst (q := 867) dL_law_866 rfl ?_
      refine VB_iald (q := 868) (v := (iZ 4)) dL_law_867 13 12 rfl rfl (0) (by omega) (by omega) (by decide) (hM0) rfl ?_
      refine VB_iconst (q := 869) dL_law_868 rfl ?_
      refine VB_iadd (q := 870) dL_law_869 rfl ?_
      refine VB_top (y := iZ 5) rfl ?_
      refine VB_irem (q := 871) (a := 0) (b := 5) dL_law_870 (by omega) (by decide) (by decide) rfl ?_
      refine VB_top (y := iZ 0) rfl ?_
      refine VB_iload (q := 873) dL_law_871 10 rfl rfl ?_
      refine VB_sipush (q := 876) dL_law_873 (by decide) rfl ?_
      refine VB_idiv (q := 877) (a := 0) (b := 169) dL_law_876 (by omega) (by decide) (by decide) rfl ?_
      refine VB_top (y := iZ 0) rfl ?_
      refine VB_aload (q := 879) dL_law_877 6 rfl rfl ?_
      refine VB_iconst (q := 880) dL_law_879 rfl ?_
      refine VB_iald (q := 881) (v := (iZ 4)) dL_law_880 13 12 rfl rfl (0) (by omega) (by omega) (by decide) (hM0) rfl ?_
      refine VB_iconst (q := 882) dL_law_881 rfl ?_
      refine VB_iadd (q := 883) dL_law_882 rfl ?_
      refine VB_top (y := iZ 6) rfl ?_
      refine VB_irem (q := 884) (a := 0) (b := 6) dL_law_883 (by omega) (by decide) (by decide) rfl ?_
      refine VB_top (y := iZ 0) rfl ?_
      refine VB_iconst (q := 885) dL_law_884 rfl ?_
      refine VB_isub (q := 886) dL_law_885 rfl ?_
      refine VB_top (y := iZ (-1)) rfl ?_
      refine VB_callU (q := 889) dL_law_886 (u_isWrong (a := a) (c := c) (S := S) (b := b) (d := d) (F := F) hI (wr0 hI (by decide) hK) hg840) yv_L_isWrong rfl gL_law_L_isWrong xU_L rfl (Nat.le_of_ble_eq_true rfl) (by decide) ⟨by show _ ≤ 20000; omega, by show _ ≤ 130000; omega⟩ (fun x886 g886 hP886 hg886 => ?_)
      refine VB_em (x := x886) (fun e886 => VB_lo (lo' := 123) (Nat.le_add_right _ _) (VB_top (y := iZ 0) e886 ?_)) (fun e886 => VB_lo (lo' := 125) (by show 125 ≤ 123 + (if x886 = 0 then 0 else 2); rw [if_neg e886]; omega) ?_)
      · skip
        refine VB_if_eq (q := 892) (tgt := 968) dL_law_889 (by decide) (by decide) (fun _ => ?_) (fun hc => absurd hc (by decide))
        exact VB_widen (by omega) (by omega) (J968 g886 hg886)
      · skip
        refine VB_uif_eq (q := 892) (tgt := 968) dL_law_889 (by decide) ?_ ?_
        · skip
          refine VB_lo (lo' := 123) (by omega) ?_
          exact VB_widen (by omega) (by omega) (J968 g886 hg886)
        · skip
          refine VB_iload (q := 894) dL_law_892 8 rfl rfl ?_
          refine VB_bipush (q := 896) dL_law_894 (by decide) rfl ?_
          refine VB_irem (q := 897) (a := 59) (b := 16) dL_law_896 (by omega) (by decide) (by decide) rfl ?_
          refine VB_top (y := iZ 11) rfl ?_
          refine VB_if_gt (q := 900) (tgt := 943) dL_law_897 (by decide) (by decide) (fun _ => ?_) (fun hc => absurd hc (by decide))
          refine VB_iload (q := 945) dL_law_943 8 rfl rfl ?_
          refine VB_bipush (q := 947) dL_law_945 (by decide) rfl ?_
          refine VB_irem (q := 948) (a := 59) (b := 20) dL_law_947 (by omega) (by decide) (by decide) rfl ?_
          refine VB_top (y := iZ 19) rfl ?_
          refine VB_if_gt (q := 951) (tgt := 964) dL_law_948 (by decide) (by decide) (fun _ => ?_) (fun hc => absurd hc (by decide))
          refine VB_iconst (q := 965) dL_law_964 rfl ?_
          refine VB_goto (tgt := 969) dL_law_965 (by decide) ?_
          refine VB_istore (q := 971) (lv' := [(0, _), (1, _), (2, _), (3, _), (4, _), (5, _), (6, _), (7, _), (8, _), (9, _), (10, _)]) dL_law_969 (by decide) rfl rfl ?_
          refine VB_iinc (q := 974) (y := 60) (lv' := [(0, _), (1, _), (2, _), (3, _), (4, _), (5, _), (6, _), (7, _), (8, _), (9, _), (10, _)]) dL_law_971 8 rfl (by omega) (by decide) rfl rfl ?_
          refine VB_goto (tgt := 64) dL_law_974 (by decide) ?_
          refine VB_loc (lv' := [(0, _), (1, _), (2, _), (3, _), (4, _), (5, _), (6, _), (7, _), (8, _)]) [0, 1, 2, 3, 4, 5, 6, 7, 8] rfl ?_
          refine VB_lo (lo' := 123) (by omega) ?_
          exact VB_widen (by omega) (by omega) (rd60 hL h16 hx S F g886 hI (fun _ => hK) hg886)
set_option maxRecDepth 100000 in
set_option maxHeartbeats 8000000 in
theorem rd59 {s0 L : Nat} {xs : Nat → Int32} {a : Nat → Nat} {c : Nat → ClassId} {b : Nat → Nat} {d : Nat → ClassId} (hL : L ≤ 260) (h16 : 80 ≤ L) (hx : ∀ j, j < 80 → xs j = 31) : ∀ (S : St) (F : Nat → Nat → Int32) (g : Nat → Nat), Iv S F 4 → (0 < 59 → sK S 0 = 0) → (∀ j, g j < 4096) → VB 123 RL cL_law 17 (some .boolean) wsL_law roomB (vXL s0 L xs) (tyl c d) (qF 123) (7582) (45492 + 1250) (wal a c S b d F g) 64 [(0, .ref (s0)), (1, .ref (a 0)), (2, .ref (b 0)), (3, .ref (b 1)), (4, .ref (b 2)), (5, .ref (b 3)), (6, .ref (b 4)), (7, .int (iZ 1)), (8, .int (iZ 59))] [] := by
  intro S F g hI hK hg
  obtain ⟨ho, hn, hm4, hM0, hG, hC⟩ := id hI
  refine VB_iload (q := 66) dL_law_64 8 rfl rfl ?_
  refine VB_bipush (q := 68) dL_law_66 (by decide) rfl ?_
  refine VB_icmp_ge (q := 71) (tgt := 977) dL_law_68 (by decide) (by decide) (by decide) (fun hc => absurd hc (by decide)) (fun _ => ?_)
  refine VB_iload (q := 73) dL_law_71 7 rfl rfl ?_
  refine VB_if_eq (q := 76) (tgt := 977) dL_law_73 (by decide) (by decide) (fun hc => absurd hc (by decide)) (fun _ => ?_)
  refine VB_aload_n (q := 77) dL_law_76 0 rfl rfl ?_
  refine VB_iload (q := 79) dL_law_77 8 rfl rfl ?_
  refine VB_callD (q := 82) dL_law_79 (u_dice (b := s0) (L := L) (xs := xs) 59 (by omega) hL (hx 59 (by omega))) yv_L_dice rfl gL_law_L_dice xL_s rfl (Nat.le_of_ble_eq_true rfl) (by decide) ⟨by show _ ≤ 20000; omega, by show _ ≤ 130000; omega⟩ ?_
  refine VB_istore (q := 84) (lv' := [(0, _), (1, _), (2, _), (3, _), (4, _), (5, _), (6, _), (7, _), (8, _), (9, _)]) dL_law_82 (by decide) rfl rfl ?_
  refine VB_iload (q := 86) dL_law_84 9 rfl rfl ?_
  refine VB_bipush (q := 88) dL_law_86 (by decide) rfl ?_
  refine VB_idiv (q := 89) (a := 31) (b := 32) dL_law_88 (by omega) (by decide) (by decide) rfl ?_
  refine VB_top (y := iZ 0) rfl ?_
  refine VB_istore (q := 91) (lv' := [(0, _), (1, _), (2, _), (3, _), (4, _), (5, _), (6, _), (7, _), (8, _), (9, _), (10, _)]) dL_law_89 (by decide) rfl rfl ?_
  refine VB_iload (q := 93) dL_law_91 9 rfl rfl ?_
  refine VB_bipush (q := 95) dL_law_93 (by decide) rfl ?_
  refine VB_irem (q := 96) (a := 31) (b := 32) dL_law_95 (by omega) (by decide) (by decide) rfl ?_
  refine VB_top (y := iZ 31) rfl ?_
  refine VB_istore (q := 98) (lv' := [(0, _), (1, _), (2, _), (3, _), (4, _), (5, _), (6, _), (7, _), (8, _), (9, _), (10, _), (11, _)]) dL_law_96 (by decide) rfl rfl ?_
  refine VB_aload (q := 100) dL_law_98 6 rfl rfl ?_
  refine VB_iconst (q := 101) dL_law_100 rfl ?_
  refine VB_iald (q := 102) (v := (iZ 4)) dL_law_101 13 12 rfl rfl (0) (by omega) (by omega) (by decide) (hM0) rfl ?_
  refine VB_if_ne (q := 105) (tgt := 109) dL_law_102 (by decide) (by decide) (fun _ => ?_) (fun hc => absurd hc (by decide))
  refine VB_iload (q := 111) dL_law_109 10 rfl rfl ?_
  refine VB_aload (q := 113) dL_law_111 6 rfl rfl ?_
  refine VB_iconst (q := 114) dL_law_113 rfl ?_
  refine VB_iald (q := 115) (v := (iZ 4)) dL_law_114 13 12 rfl rfl (0) (by omega) (by omega) (by decide) (hM0) rfl ?_
  refine VB_irem (q := 116) (a := 0) (b := 4) dL_law_115 (by omega) (by decide) (by decide) rfl ?_
  refine VB_top (y := iZ 0) rfl ?_
  refine VB_istore (q := 118) (lv' := [(0, _), (1, _), (2, _), (3, _), (4, _), (5, _), (6, _), (7, _), (8, _), (9, _), (10, _), (11, _), (12, _)]) dL_law_116 (by decide) rfl rfl ?_
  refine VB_aload (q := 120) dL_law_118 6 rfl rfl ?_
  refine VB_iconst (q := 121) dL_law_120 rfl ?_
  refine VB_iald (q := 122) (v := (iZ 4)) dL_law_121 13 12 rfl rfl (0) (by omega) (by omega) (by decide) (hM0) rfl ?_
  refine VB_iconst (q := 123) dL_law_122 rfl ?_
  refine VB_icmp_lt (q := 126) (tgt := 141) dL_law_123 (by decide) (by decide) (by decide) (fun hc => absurd hc (by decide)) (fun _ => ?_)
  refine VB_iload (q := 128) dL_law_126 11 rfl rfl ?_
  refine VB_iconst (q := 129) dL_law_128 rfl ?_
  refine VB_icmp_ge (q := 132) (tgt := 326) dL_law_129 (by decide) (by decide) (by decide) (fun _ => ?_) (fun hc => absurd hc (by decide))
  refine VB_iload (q := 328) dL_law_326 11 rfl rfl ?_
  refine VB_bipush (q := 330) dL_law_328 (by decide) rfl ?_
  refine VB_icmp_ge (q := 333) (tgt := 451) dL_law_330 (by decide) (by decide) (by decide) (fun _ => ?_) (fun hc => absurd hc (by decide))
  refine VB_iload (q := 453) dL_law_451 11 rfl rfl ?_
  refine VB_bipush (q := 455) dL_law_453 (by decide) rfl ?_
  refine VB_icmp_ge (q := 458) (tgt := 603) dL_law_455 (by decide) (by decide) (by decide) (fun _ => ?_) (fun hc => absurd hc (by decide))
  refine VB_iload (q := 605) dL_law_603 11 rfl rfl ?_
  refine VB_bipush (q := 607) dL_law_605 (by decide) rfl ?_
  refine VB_icmp_ge (q := 610) (tgt := 633) dL_law_607 (by decide) (by decide) (by decide) (fun _ => ?_) (fun hc => absurd hc (by decide))
  refine VB_iload (q := 635) dL_law_633 11 rfl rfl ?_
  refine VB_bipush (q := 637) dL_law_635 (by decide) rfl ?_
  refine VB_icmp_ge (q := 640) (tgt := 677) dL_law_637 (by decide) (by decide) (by decide) (fun _ => ?_) (fun hc => absurd hc (by decide))
  refine VB_iload (q := 679) dL_law_677 11 rfl rfl ?_
  refine VB_bipush (q := 681) dL_law_679 (by decide) rfl ?_
  refine VB_icmp_ne (q := 684) (tgt := 783) dL_law_681 (by decide) (by decide) (by decide) (fun _ => ?_) (fun hc => absurd hc (by decide))
  refine VB_loc (lv' := [(0, _), (1, _), (2, _), (3, _), (4, _), (5, _), (6, _), (7, _), (8, _), (9, _), (10, _)]) [0, 1, 2, 3, 4, 5, 6, 7, 8, 9, 10] rfl ?_
  exact VB_widen (by omega) (by omega) (ck59 hL h16 hx S F g hI (hK (by decide)) hg)
set_option maxRecDepth 100000 in
set_option maxHeartbeats 8000000 in
theorem ck58 {s0 L : Nat} {xs : Nat → Int32} {a : Nat → Nat} {c : Nat → ClassId} {b : Nat → Nat} {d : Nat → ClassId} (hL : L ≤ 260) (h16 : 80 ≤ L) (hx : ∀ j, j < 80 → xs j = 31) : ∀ (S : St) (F : Nat → Nat → Int32) (g : Nat → Nat), Iv S F 4 → sK S 0 = 0 → (∀ j, g j < 4096) → VB 123 RL cL_law 17 (some .boolean) wsL_law roomB (vXL s0 L xs) (tyl c d) (qF 123) (7362) (44172 + 1250) (wal a c S b d F g) 783 [(0, .ref (s0)), (1, .ref (a 0)), (2, .ref (b 0)), (3, .ref (b 1)), (4, .ref (b 2)), (5, .ref (b 3)), (6, .ref (b 4)), (7, .int (iZ 1)), (8, .int (iZ 58)), (9, .int (iZ 31)), (10, .int (iZ 0))] [] := by
  intro S F g hI hK hg
  obtain ⟨ho, hn, hm4, hM0, hG, hC⟩ := id hI
  refine VB_iload (q := 785) dL_law_783 7 rfl rfl ?_
  refine VB_if_eq (q := 788) (tgt := 968) dL_law_785 (by decide) (by decide) (fun hc => absurd hc (by decide)) (fun _ => ?_)
  refine VB_aload_n (q := 789) dL_law_788 1 rfl rfl ?_
  refine VB_aload_n (q := 790) dL_law_789 2 rfl rfl ?_
  refine VB_aload_n (q := 791) dL_law_790 3 rfl rfl ?_
  refine VB_aload (q := 793) dL_law_791 6 rfl rfl ?_
  refine VB_callU (q := 796) dL_law_793 (u_areThings (a := a) (c := c) (S := S) (b := b) (d := d) (F := F) hI hg) yv_L_areThings rfl gL_law_L_areThings xU_L rfl (Nat.le_of_ble_eq_true rfl) (by decide) ⟨by show _ ≤ 20000; omega, by show _ ≤ 130000; omega⟩ (fun x793 g793 hP793 hg793 => ?_)
  refine VB_lo (lo' := 123) (Nat.le_add_right _ _) ?_
  have J968 : ∀ (gj968 : Nat → Nat), (∀ j, gj968 j < 4096) → VB 123 RL cL_law 17 (some .boolean) wsL_law roomB (vXL s0 L xs) (tyl c d) (qF 123) (7582) (45492 + 1250) (wal a c S b d F gj968) 968 [(0, .ref (s0)), (1, .ref (a 0)), (2, .ref (b 0)), (3, .ref (b 1)), (4, .ref (b 2)), (5, .ref (b 3)), (6, .ref (b 4)), (7, .int (iZ 1)), (8, .int (iZ 58)), (9, .int (iZ 31)), (10, .int (iZ 0))] [] := by
    intro gj968 hgj968
    refine VB_iconst (q := 969) dL_law_968 rfl ?_
    refine VB_istore (q := 971) (lv' := [(0, _), (1, _), (2, _), (3, _), (4, _), (5, _), (6, _), (7, _), (8, _), (9, _), (10, _)]) dL_law_969 (by decide) rfl rfl ?_
    refine VB_iinc (q := 974) (y := 59) (lv' := [(0, _), (1, _), (2, _), (3, _), (4, _), (5, _), (6, _), (7, _), (8, _), (9, _), (10, _)]) dL_law_971 8 rfl (by omega) (by decide) rfl rfl ?_
    refine VB_goto (tgt := 64) dL_law_974 (by decide) ?_
    refine VB_iload (q := 66) dL_law_64 8 rfl rfl ?_
    refine VB_bipush (q := 68) dL_law_66 (by decide) rfl ?_
    refine VB_icmp_ge (q := 71) (tgt := 977) dL_law_68 (by decide) (by decide) (by decide) (fun hc => absurd hc (by decide)) (fun _ => ?_)
    refine VB_iload (q := 73) dL_law_71 7 rfl rfl ?_
    refine VB_if_eq (q := 76) (tgt := 977) dL_law_73 (by decide) (by decide) (fun _ => ?_) (fun hc => absurd hc (by decide))
    refine VB_iload (q := 979) dL_law_977 7 rfl rfl ?_
    exact VB_ret0 dL_law_979 rfl
  refine VB_uif_eq (q := 799) (tgt := 968) dL_law_796 (by decide) ?_ ?_
  · skip
    exact VB_widen (by omega) (by omega) (J968 g793 hg793)
  · skip
    refine VB_iload (q := 801) dL_law_799 8 rfl rfl ?_
    refine VB_iconst (q := 802) dL_law_801 rfl ?_
    refine VB_irem (q := 803) (a := 58) (b := 2) dL_law_802 (by omega) (by decide) (by decide) rfl ?_
    refine VB_top (y := iZ 0) rfl ?_
    refine VB_if_gt (q := 806) (tgt := 833) dL_law_803 (by decide) (by decide) (fun hc => absurd hc (by decide)) (fun _ => ?_)
    refine VB_aload_n (q := 807) dL_law_806 1 rfl rfl ?_
    refine VB_aload_n (q := 808) dL_law_807 2 rfl rfl ?_
    refine VB_aload_n (q := 809) dL_law_808 3 rfl rfl ?_
    refine VB_aload (q := 811) dL_law_809 4 rfl rfl ?_
    refine VB_aload (q := 813) dL_law_811 6 rfl rfl ?_
    refine VB_iload (q := 815) dL_law_813 10 rfl rfl ?_
    refine VB_bipush (q := 817) dL_law_815 (by decide) rfl ?_
    refine VB_irem (q := 818) (a := 0) (b := 31) dL_law_817 (by omega) (by decide) (by decide) rfl ?_
    refine VB_top (y := iZ 0) rfl ?_
    refine VB_iload (q := 820) dL_law_818 10 rfl rfl ?_
    refine VB_bipush (q := 822) dL_law_820 (by decide) rfl ?_
    refine VB_idiv (q := 823) (a := 0) (b := 31) dL_law_822 (by omega) (by decide) (by decide) rfl ?_
    refine VB_top (y := iZ 0) rfl ?_
    refine VB_sipush (q := 826) dL_law_823 (by decide) rfl ?_
    refine VB_irem (q := 827) (a := 0) (b := 256) dL_law_826 (by omega) (by decide) (by decide) rfl ?_
    refine VB_top (y := iZ 0) rfl ?_
    refine VB_callU (q := 830) dL_law_827 (u_areOutfits (a := a) (c := c) (S := S) (b := b) (d := d) (F := F) hI hg793) yv_L_areOutfits rfl gL_law_L_areOutfits xU_L rfl (Nat.le_of_ble_eq_true rfl) (by decide) ⟨by show _ ≤ 20000; omega, by show _ ≤ 130000; omega⟩ (fun x827 g827 hP827 hg827 => ?_)
    refine VB_lo (lo' := 123) (Nat.le_add_right _ _) ?_
    refine VB_uif_eq (q := 833) (tgt := 968) dL_law_830 (by decide) ?_ ?_
    · skip
      exact VB_widen (by omega) (by omega) (J968 g827 hg827)
    · skip
      refine VB_aload_n (q := 834) dL_law_833 1 rfl rfl ?_
      refine VB_aload_n (q := 835) dL_law_834 2 rfl rfl ?_
      refine VB_aload_n (q := 836) dL_law_835 3 rfl rfl ?_
      refine VB_aload (q := 838) dL_law_836 4 rfl rfl ?_
      refine VB_aload (q := 840) dL_law_838 6 rfl rfl ?_
      refine VB_callU (q := 843) dL_law_840 (u_isMissing (a := a) (c := c) (S := S) (b := b) (d := d) (F := F) hI hg827) yv_L_isMissing rfl gL_law_L_isMissing xU_L rfl (Nat.le_of_ble_eq_true rfl) (by decide) ⟨by show _ ≤ 20000; omega, by show _ ≤ 130000; omega⟩ (fun x840 g840 hP840 hg840 => ?_)
      refine VB_lo (lo' := 123) (Nat.le_add_right _ _) ?_
      refine VB_uif_eq (q := 846) (tgt := 968) dL_law_843 (by decide) ?_ ?_
      · skip
        exact VB_widen (by omega) (by omega) (J968 g840 hg840)
      · skip
        refine VB_aload_n (q := 847) dL_law_846 1 rfl rfl ?_
        refine VB_aload_n (q := 848) dL_law_847 2 rfl rfl ?_
        refine VB_aload (q := 850) dL_law_848 6 rfl rfl ?_
        refine VB_iload (q := 852) dL_law_850 10 rfl rfl ?_
        refine VB_aload (q := 854) dL_law_852 6 rfl rfl ?_
        refine VB_iconst (q := 855) dL_law_854 rfl ?_
        refine VB_iald (q := 856) (v := (iZ 4)) dL_law_855 13 12 rfl rfl (0) (by omega) (by omega) (by decide) (hM0) rfl ?_
        refine VB_iconst (q := 857) dL_law_856 rfl ?_
        refine VB_iadd (q := 858) dL_law_857 rfl ?_
        refine VB_top (y := iZ 5) rfl ?_
        refine VB_irem (q := 859) (a := 0) (b := 5) dL_law_858 (by omega) (by decide) (by decide) rfl ?_
        refine VB_top (y := iZ 0) rfl ?_
        refine VB_iload (q := 861) dL_law_859 10 rfl rfl ?_
        refine VB_bipush (q := 863) dL_law_861 (by decide) rfl ?_
        refine VB_idiv (q := 864) (a := 0) (b := 13) dL_law_863 (by omega) (by decide) (by decide) rfl ?_
        refine VB_top (y := iZ 0) rfl ?_
        refine VB_aload (q := 866) dL_law_864 6 rfl rfl ?_
        refine VB_iconst (q := 867) dL_law_866 rfl ?_
        refine VB_iald (q := 868) (v := (iZ 4)) dL_law_867 13 12 rfl rfl (0) (by omega) (by omega) (by decide) (hM0) rfl ?_
        refine VB_iconst (q := 869) dL_law_868 rfl ?_
        refine VB_iadd (q := 870) dL_law_869 rfl ?_
        refine VB_top (y := iZ 5) rfl ?_
        refine VB_irem (q := 871) (a := 0) (b := 5) dL_law_870 (by omega) (by decide) (by decide) rfl ?_
        refine VB_top (y := iZ 0) rfl ?_
        refine VB_iload (q := 873) dL_law_871 10 rfl rfl ?_
        refine VB_sipush (q := 876) dL_law_873 (by decide) rfl ?_
        refine VB_idiv (q := 877) (a := 0) (b := 169) dL_law_876 (by omega) (by decide) (by decide) rfl ?_
        refine VB_top (y := iZ 0) rfl ?_
        refine VB_aload (q := 879) dL_law_877 6 rfl rfl ?_
        refine VB_iconst (q := 880) dL_law_879 rfl ?_
        refine VB_iald (q := 881) (v := (iZ 4)) dL_law_880 13 12 rfl rfl (0) (by omega) (by omega) (by decide) (hM0) rfl ?_
        refine VB_iconst (q := 882) dL_law_881 rfl ?_
        refine VB_iadd (q := 883) dL_law_882 rfl ?_
        refine VB_top (y := iZ 6) rfl ?_
        refine VB_irem (q := 884) (a := 0) (b := 6) dL_law_883 (by omega) (by decide) (by decide) rfl ?_
        refine VB_top (y := iZ 0) rfl ?_
        refine VB_iconst (q := 885) dL_law_884 rfl ?_
        refine VB_isub (q := 886) dL_law_885 rfl ?_
        refine VB_top (y := iZ (-1)) rfl ?_
        refine VB_callU (q := 889) dL_law_886 (u_isWrong (a := a) (c := c) (S := S) (b := b) (d := d) (F := F) hI (wr0 hI (by decide) hK) hg840) yv_L_isWrong rfl gL_law_L_isWrong xU_L rfl (Nat.le_of_ble_eq_true rfl) (by decide) ⟨by show _ ≤ 20000; omega, by show _ ≤ 130000; omega⟩ (fun x886 g886 hP886 hg886 => ?_)
        refine VB_em (x := x886) (fun e886 => VB_lo (lo' := 123) (Nat.le_add_right _ _) (VB_top (y := iZ 0) e886 ?_)) (fun e886 => VB_lo (lo' := 125) (by show 125 ≤ 123 + (if x886 = 0 then 0 else 2); rw [if_neg e886]; omega) ?_)
        · skip
          refine VB_if_eq (q := 892) (tgt := 968) dL_law_889 (by decide) (by decide) (fun _ => ?_) (fun hc => absurd hc (by decide))
          exact VB_widen (by omega) (by omega) (J968 g886 hg886)
        · skip
          refine VB_uif_eq (q := 892) (tgt := 968) dL_law_889 (by decide) ?_ ?_
          · skip
            refine VB_lo (lo' := 123) (by omega) ?_
            exact VB_widen (by omega) (by omega) (J968 g886 hg886)
          · skip
            refine VB_iload (q := 894) dL_law_892 8 rfl rfl ?_
            refine VB_bipush (q := 896) dL_law_894 (by decide) rfl ?_
            refine VB_irem (q := 897) (a := 58) (b := 16) dL_law_896 (by omega) (by decide) (by decide) rfl ?_
            refine VB_top (y := iZ 10) rfl ?_
            refine VB_if_gt (q := 900) (tgt := 943) dL_law_897 (by decide) (by decide) (fun _ => ?_) (fun hc => absurd hc (by decide))
            refine VB_iload (q := 945) dL_law_943 8 rfl rfl ?_
            refine VB_bipush (q := 947) dL_law_945 (by decide) rfl ?_
            refine VB_irem (q := 948) (a := 58) (b := 20) dL_law_947 (by omega) (by decide) (by decide) rfl ?_
            refine VB_top (y := iZ 18) rfl ?_
            refine VB_if_gt (q := 951) (tgt := 964) dL_law_948 (by decide) (by decide) (fun _ => ?_) (fun hc => absurd hc (by decide))
            refine VB_iconst (q := 965) dL_law_964 rfl ?_
            refine VB_goto (tgt := 969) dL_law_965 (by decide) ?_
            refine VB_istore (q := 971) (lv' := [(0, _), (1, _), (2, _), (3, _), (4, _), (5, _), (6, _), (7, _), (8, _), (9, _), (10, _)]) dL_law_969 (by decide) rfl rfl ?_
            refine VB_iinc (q := 974) (y := 59) (lv' := [(0, _), (1, _), (2, _), (3, _), (4, _), (5, _), (6, _), (7, _), (8, _), (9, _), (10, _)]) dL_law_971 8 rfl (by omega) (by decide) rfl rfl ?_
            refine VB_goto (tgt := 64) dL_law_974 (by decide) ?_
            refine VB_loc (lv' := [(0, _), (1, _), (2, _), (3, _), (4, _), (5, _), (6, _), (7, _), (8, _)]) [0, 1, 2, 3, 4, 5, 6, 7, 8] rfl ?_
            refine VB_lo (lo' := 123) (by omega) ?_
            exact VB_widen (by omega) (by omega) (rd59 hL h16 hx S F g886 hI (fun _ => hK) hg886)
set_option maxRecDepth 100000 in
set_option maxHeartbeats 8000000 in
theorem rd58 {s0 L : Nat} {xs : Nat → Int32} {a : Nat → Nat} {c : Nat → ClassId} {b : Nat → Nat} {d : Nat → ClassId} (hL : L ≤ 260) (h16 : 80 ≤ L) (hx : ∀ j, j < 80 → xs j = 31) : ∀ (S : St) (F : Nat → Nat → Int32) (g : Nat → Nat), Iv S F 4 → (0 < 58 → sK S 0 = 0) → (∀ j, g j < 4096) → VB 123 RL cL_law 17 (some .boolean) wsL_law roomB (vXL s0 L xs) (tyl c d) (qF 123) (7362) (44172 + 1250) (wal a c S b d F g) 64 [(0, .ref (s0)), (1, .ref (a 0)), (2, .ref (b 0)), (3, .ref (b 1)), (4, .ref (b 2)), (5, .ref (b 3)), (6, .ref (b 4)), (7, .int (iZ 1)), (8, .int (iZ 58))] [] := by
  intro S F g hI hK hg
  obtain ⟨ho, hn, hm4, hM0, hG, hC⟩ := id hI
  refine VB_iload (q := 66) dL_law_64 8 rfl rfl ?_
  refine VB_bipush (q := 68) dL_law_66 (by decide) rfl ?_
  refine VB_icmp_ge (q := 71) (tgt := 977) dL_law_68 (by decide) (by decide) (by decide) (fun hc => absurd hc (by decide)) (fun _ => ?_)
  refine VB_iload (q := 73) dL_law_71 7 rfl rfl ?_
  refine VB_if_eq (q := 76) (tgt := 977) dL_law_73 (by decide) (by decide) (fun hc => absurd hc (by decide)) (fun _ => ?_)
  refine VB_aload_n (q := 77) dL_law_76 0 rfl rfl ?_
  refine VB_iload (q := 79) dL_law_77 8 rfl rfl ?_
  refine VB_callD (q := 82) dL_law_79 (u_dice (b := s0) (L := L) (xs := xs) 58 (by omega) hL (hx 58 (by omega))) yv_L_dice rfl gL_law_L_dice xL_s rfl (Nat.le_of_ble_eq_true rfl) (by decide) ⟨by show _ ≤ 20000; omega, by show _ ≤ 130000; omega⟩ ?_
  refine VB_istore (q := 84) (lv' := [(0, _), (1, _), (2, _), (3, _), (4, _), (5, _), (6, _), (7, _), (8, _), (9, _)]) dL_law_82 (by decide) rfl rfl ?_
  refine VB_iload (q := 86) dL_law_84 9 rfl rfl ?_
  refine VB_bipush (q := 88) dL_law_86 (by decide) rfl ?_
  refine VB_idiv (q := 89) (a := 31) (b := 32) dL_law_88 (by omega) (by decide) (by decide) rfl ?_
  refine VB_top (y := iZ 0) rfl ?_
  refine VB_istore (q := 91) (lv' := [(0, _), (1, _), (2, _), (3, _), (4, _), (5, _), (6, _), (7, _), (8, _), (9, _), (10, _)]) dL_law_89 (by decide) rfl rfl ?_
  refine VB_iload (q := 93) dL_law_91 9 rfl rfl ?_
  refine VB_bipush (q := 95) dL_law_93 (by decide) rfl ?_
  refine VB_irem (q := 96) (a := 31) (b := 32) dL_law_95 (by omega) (by decide) (by decide) rfl ?_
  refine VB_top (y := iZ 31) rfl ?_
  refine VB_istore (q := 98) (lv' := [(0, _), (1, _), (2, _), (3, _), (4, _), (5, _), (6, _), (7, _), (8, _), (9, _), (10, _), (11, _)]) dL_law_96 (by decide) rfl rfl ?_
  refine VB_aload (q := 100) dL_law_98 6 rfl rfl ?_
  refine VB_iconst (q := 101) dL_law_100 rfl ?_
  refine VB_iald (q := 102) (v := (iZ 4)) dL_law_101 13 12 rfl rfl (0) (by omega) (by omega) (by decide) (hM0) rfl ?_
  refine VB_if_ne (q := 105) (tgt := 109) dL_law_102 (by decide) (by decide) (fun _ => ?_) (fun hc => absurd hc (by decide))
  refine VB_iload (q := 111) dL_law_109 10 rfl rfl ?_
  refine VB_aload (q := 113) dL_law_111 6 rfl rfl ?_
  refine VB_iconst (q := 114) dL_law_113 rfl ?_
  refine VB_iald (q := 115) (v := (iZ 4)) dL_law_114 13 12 rfl rfl (0) (by omega) (by omega) (by decide) (hM0) rfl ?_
  refine VB_irem (q := 116) (a := 0) (b := 4) dL_law_115 (by omega) (by decide) (by decide) rfl ?_
  refine VB_top (y := iZ 0) rfl ?_
  refine VB_istore (q := 118) (lv' := [(0, _), (1, _), (2, _), (3, _), (4, _), (5, _), (6, _), (7, _), (8, _), (9, _), (10, _), (11, _), (12, _)]) dL_law_116 (by decide) rfl rfl ?_
  refine VB_aload (q := 120) dL_law_118 6 rfl rfl ?_
  refine VB_iconst (q := 121) dL_law_120 rfl ?_
  refine VB_iald (q := 122) (v := (iZ 4)) dL_law_121 13 12 rfl rfl (0) (by omega) (by omega) (by decide) (hM0) rfl ?_
  refine VB_iconst (q := 123) dL_law_122 rfl ?_
  refine VB_icmp_lt (q := 126) (tgt := 141) dL_law_123 (by decide) (by decide) (by decide) (fun hc => absurd hc (by decide)) (fun _ => ?_)
  refine VB_iload (q := 128) dL_law_126 11 rfl rfl ?_
  refine VB_iconst (q := 129) dL_law_128 rfl ?_
  refine VB_icmp_ge (q := 132) (tgt := 326) dL_law_129 (by decide) (by decide) (by decide) (fun _ => ?_) (fun hc => absurd hc (by decide))
  refine VB_iload (q := 328) dL_law_326 11 rfl rfl ?_
  refine VB_bipush (q := 330) dL_law_328 (by decide) rfl ?_
  refine VB_icmp_ge (q := 333) (tgt := 451) dL_law_330 (by decide) (by decide) (by decide) (fun _ => ?_) (fun hc => absurd hc (by decide))
  refine VB_iload (q := 453) dL_law_451 11 rfl rfl ?_
  refine VB_bipush (q := 455) dL_law_453 (by decide) rfl ?_
  refine VB_icmp_ge (q := 458) (tgt := 603) dL_law_455 (by decide) (by decide) (by decide) (fun _ => ?_) (fun hc => absurd hc (by decide))
  refine VB_iload (q := 605) dL_law_603 11 rfl rfl ?_
  refine VB_bipush (q := 607) dL_law_605 (by decide) rfl ?_
  refine VB_icmp_ge (q := 610) (tgt := 633) dL_law_607 (by decide) (by decide) (by decide) (fun _ => ?_) (fun hc => absurd hc (by decide))
  refine VB_iload (q := 635) dL_law_633 11 rfl rfl ?_
  refine VB_bipush (q := 637) dL_law_635 (by decide) rfl ?_
  refine VB_icmp_ge (q := 640) (tgt := 677) dL_law_637 (by decide) (by decide) (by decide) (fun _ => ?_) (fun hc => absurd hc (by decide))
  refine VB_iload (q := 679) dL_law_677 11 rfl rfl ?_
  refine VB_bipush (q := 681) dL_law_679 (by decide) rfl ?_
  refine VB_icmp_ne (q := 684) (tgt := 783) dL_law_681 (by decide) (by decide) (by decide) (fun _ => ?_) (fun hc => absurd hc (by decide))
  refine VB_loc (lv' := [(0, _), (1, _), (2, _), (3, _), (4, _), (5, _), (6, _), (7, _), (8, _), (9, _), (10, _)]) [0, 1, 2, 3, 4, 5, 6, 7, 8, 9, 10] rfl ?_
  exact VB_widen (by omega) (by omega) (ck58 hL h16 hx S F g hI (hK (by decide)) hg)
set_option maxRecDepth 100000 in
set_option maxHeartbeats 8000000 in
theorem ck57 {s0 L : Nat} {xs : Nat → Int32} {a : Nat → Nat} {c : Nat → ClassId} {b : Nat → Nat} {d : Nat → ClassId} (hL : L ≤ 260) (h16 : 80 ≤ L) (hx : ∀ j, j < 80 → xs j = 31) : ∀ (S : St) (F : Nat → Nat → Int32) (g : Nat → Nat), Iv S F 4 → sK S 0 = 0 → (∀ j, g j < 4096) → VB 123 RL cL_law 17 (some .boolean) wsL_law roomB (vXL s0 L xs) (tyl c d) (qF 123) (7342) (44052 + 1250) (wal a c S b d F g) 783 [(0, .ref (s0)), (1, .ref (a 0)), (2, .ref (b 0)), (3, .ref (b 1)), (4, .ref (b 2)), (5, .ref (b 3)), (6, .ref (b 4)), (7, .int (iZ 1)), (8, .int (iZ 57)), (9, .int (iZ 31)), (10, .int (iZ 0))] [] := by
  intro S F g hI hK hg
  obtain ⟨ho, hn, hm4, hM0, hG, hC⟩ := id hI
  refine VB_iload (q := 785) dL_law_783 7 rfl rfl ?_
  refine VB_if_eq (q := 788) (tgt := 968) dL_law_785 (by decide) (by decide) (fun hc => absurd hc (by decide)) (fun _ => ?_)
  refine VB_aload_n (q := 789) dL_law_788 1 rfl rfl ?_
  refine VB_aload_n (q := 790) dL_law_789 2 rfl rfl ?_
  refine VB_aload_n (q := 791) dL_law_790 3 rfl rfl ?_
  refine VB_aload (q := 793) dL_law_791 6 rfl rfl ?_
  refine VB_callU (q := 796) dL_law_793 (u_areThings (a := a) (c := c) (S := S) (b := b) (d := d) (F := F) hI hg) yv_L_areThings rfl gL_law_L_areThings xU_L rfl (Nat.le_of_ble_eq_true rfl) (by decide) ⟨by show _ ≤ 20000; omega, by show _ ≤ 130000; omega⟩ (fun x793 g793 hP793 hg793 => ?_)
  refine VB_lo (lo' := 123) (Nat.le_add_right _ _) ?_
  have J968 : ∀ (gj968 : Nat → Nat), (∀ j, gj968 j < 4096) → VB 123 RL cL_law 17 (some .boolean) wsL_law roomB (vXL s0 L xs) (tyl c d) (qF 123) (7362) (44172 + 1250) (wal a c S b d F gj968) 968 [(0, .ref (s0)), (1, .ref (a 0)), (2, .ref (b 0)), (3, .ref (b 1)), (4, .ref (b 2)), (5, .ref (b 3)), (6, .ref (b 4)), (7, .int (iZ 1)), (8, .int (iZ 57)), (9, .int (iZ 31)), (10, .int (iZ 0))] [] := by
    intro gj968 hgj968
    refine VB_iconst (q := 969) dL_law_968 rfl ?_
    refine VB_istore (q := 971) (lv' := [(0, _), (1, _), (2, _), (3, _), (4, _), (5, _), (6, _), (7, _), (8, _), (9, _), (10, _)]) dL_law_969 (by decide) rfl rfl ?_
    refine VB_iinc (q := 974) (y := 58) (lv' := [(0, _), (1, _), (2, _), (3, _), (4, _), (5, _), (6, _), (7, _), (8, _), (9, _), (10, _)]) dL_law_971 8 rfl (by omega) (by decide) rfl rfl ?_
    refine VB_goto (tgt := 64) dL_law_974 (by decide) ?_
    refine VB_iload (q := 66) dL_law_64 8 rfl rfl ?_
    refine VB_bipush (q := 68) dL_law_66 (by decide) rfl ?_
    refine VB_icmp_ge (q := 71) (tgt := 977) dL_law_68 (by decide) (by decide) (by decide) (fun hc => absurd hc (by decide)) (fun _ => ?_)
    refine VB_iload (q := 73) dL_law_71 7 rfl rfl ?_
    refine VB_if_eq (q := 76) (tgt := 977) dL_law_73 (by decide) (by decide) (fun _ => ?_) (fun hc => absurd hc (by decide))
    refine VB_iload (q := 979) dL_law_977 7 rfl rfl ?_
    exact VB_ret0 dL_law_979 rfl
  refine VB_uif_eq (q := 799) (tgt := 968) dL_law_796 (by decide) ?_ ?_
  · skip
    exact VB_widen (by omega) (by omega) (J968 g793 hg793)
  · skip
    refine VB_iload (q := 801) dL_law_799 8 rfl rfl ?_
    refine VB_iconst (q := 802) dL_law_801 rfl ?_
    refine VB_irem (q := 803) (a := 57) (b := 2) dL_law_802 (by omega) (by decide) (by decide) rfl ?_
    refine VB_top (y := iZ 1) rfl ?_
    refine VB_if_gt (q := 806) (tgt := 833) dL_law_803 (by decide) (by decide) (fun _ => ?_) (fun hc => absurd hc (by decide))
    refine VB_aload_n (q := 834) dL_law_833 1 rfl rfl ?_
    refine VB_aload_n (q := 835) dL_law_834 2 rfl rfl ?_
    refine VB_aload_n (q := 836) dL_law_835 3 rfl rfl ?_
    refine VB_aload (q := 838) dL_law_836 4 rfl rfl ?_
    refine VB_aload (q := 840) dL_law_838 6 rfl rfl ?_
    refine VB_callU (q := 843) dL_law_840 (u_isMissing (a := a) (c := c) (S := S) (b := b) (d := d) (F := F) hI hg793) yv_L_isMissing rfl gL_law_L_isMissing xU_L rfl (Nat.le_of_ble_eq_true rfl) (by decide) ⟨by show _ ≤ 20000; omega, by show _ ≤ 130000; omega⟩ (fun x840 g840 hP840 hg840 => ?_)
    refine VB_lo (lo' := 123) (Nat.le_add_right _ _) ?_
    refine VB_uif_eq (q := 846) (tgt := 968) dL_law_843 (by decide) ?_ ?_
    · skip
      exact VB_widen (by omega) (by omega) (J968 g840 hg840)
    · skip
      refine VB_aload_n (q := 847) dL_law_846 1 rfl rfl ?_
      refine VB_aload_n (q := 848) dL_law_847 2 rfl rfl ?_
      refine VB_aload (q := 850) dL_law_848 6 rfl rfl ?_
      refine VB_iload (q := 852) dL_law_850 10 rfl rfl ?_
      refine VB_aload (q := 854) dL_law_852 6 rfl rfl ?_
      refine VB_iconst (q := 855) dL_law_854 rfl ?_
      refine VB_iald (q := 856) (v := (iZ 4)) dL_law_855 13 12 rfl rfl (0) (by omega) (by omega) (by decide) (hM0) rfl ?_
      refine VB_iconst (q := 857) dL_law_856 rfl ?_
      refine VB_iadd (q := 858) dL_law_857 rfl ?_
      refine VB_top (y := iZ 5) rfl ?_
      refine VB_irem (q := 859) (a := 0) (b := 5) dL_law_858 (by omega) (by decide) (by decide) rfl ?_
      refine VB_top (y := iZ 0) rfl ?_
      refine VB_iload (q := 861) dL_law_859 10 rfl rfl ?_
      refine VB_bipush (q := 863) dL_law_861 (by decide) rfl ?_
      refine VB_idiv (q := 864) (a := 0) (b := 13) dL_law_863 (by omega) (by decide) (by decide) rfl ?_
      refine VB_top (y := iZ 0) rfl ?_
      refine VB_aload (q := 866) dL_law_864 6 rfl rfl ?_
      refine VB_iconst (q := 867) dL_law_866 rfl ?_
      refine VB_iald (q := 868) (v := (iZ 4)) dL_law_867 13 12 rfl rfl (0) (by omega) (by omega) (by decide) (hM0) rfl ?_
      refine VB_iconst (q := 869) dL_law_868 rfl ?_
      refine VB_iadd (q := 870) dL_law_869 rfl ?_
      refine VB_top (y := iZ 5) rfl ?_
      refine VB_irem (q := 871) (a := 0) (b := 5) dL_law_870 (by omega) (by decide) (by decide) rfl ?_
      refine VB_top (y := iZ 0) rfl ?_
      refine VB_iload (q := 873) dL_law_871 10 rfl rfl ?_
      refine VB_sipush (q := 876) dL_law_873 (by decide) rfl ?_
      refine VB_idiv (q := 877) (a := 0) (b := 169) dL_law_876 (by omega) (by decide) (by decide) rfl ?_
      refine VB_top (y := iZ 0) rfl ?_
      refine VB_aload (q := 879) dL_law_877 6 rfl rfl ?_
      refine VB_iconst (q := 880) dL_law_879 rfl ?_
      refine VB_iald (q := 881) (v := (iZ 4)) dL_law_880 13 12 rfl rfl (0) (by omega) (by omega) (by decide) (hM0) rfl ?_
      refine VB_iconst (q := 882) dL_law_881 rfl ?_
      refine VB_iadd (q := 883) dL_law_882 rfl ?_
      refine VB_top (y := iZ 6) rfl ?_
      refine VB_irem (q := 884) (a := 0) (b := 6) dL_law_883 (by omega) (by decide) (by decide) rfl ?_
      refine VB_top (y := iZ 0) rfl ?_
      refine VB_iconst (q := 885) dL_law_884 rfl ?_
      refine VB_isub (q := 886) dL_law_885 rfl ?_
      refine VB_top (y := iZ (-1)) rfl ?_
      refine VB_callU (q := 889) dL_law_886 (u_isWrong (a := a) (c := c) (S := S) (b := b) (d := d) (F := F) hI (wr0 hI (by decide) hK) hg840) yv_L_isWrong rfl gL_law_L_isWrong xU_L rfl (Nat.le_of_ble_eq_true rfl) (by decide) ⟨by show _ ≤ 20000; omega, by show _ ≤ 130000; omega⟩ (fun x886 g886 hP886 hg886 => ?_)
      refine VB_em (x := x886) (fun e886 => VB_lo (lo' := 123) (Nat.le_add_right _ _) (VB_top (y := iZ 0) e886 ?_)) (fun e886 => VB_lo (lo' := 125) (by show 125 ≤ 123 + (if x886 = 0 then 0 else 2); rw [if_neg e886]; omega) ?_)
      · skip
        refine VB_if_eq (q := 892) (tgt := 968) dL_law_889 (by decide) (by decide) (fun _ => ?_) (fun hc => absurd hc (by decide))
        exact VB_widen (by omega) (by omega) (J968 g886 hg886)
      · skip
        refine VB_uif_eq (q := 892) (tgt := 968) dL_law_889 (by decide) ?_ ?_
        · skip
          refine VB_lo (lo' := 123) (by omega) ?_
          exact VB_widen (by omega) (by omega) (J968 g886 hg886)
        · skip
          refine VB_iload (q := 894) dL_law_892 8 rfl rfl ?_
          refine VB_bipush (q := 896) dL_law_894 (by decide) rfl ?_
          refine VB_irem (q := 897) (a := 57) (b := 16) dL_law_896 (by omega) (by decide) (by decide) rfl ?_
          refine VB_top (y := iZ 9) rfl ?_
          refine VB_if_gt (q := 900) (tgt := 943) dL_law_897 (by decide) (by decide) (fun _ => ?_) (fun hc => absurd hc (by decide))
          refine VB_iload (q := 945) dL_law_943 8 rfl rfl ?_
          refine VB_bipush (q := 947) dL_law_945 (by decide) rfl ?_
          refine VB_irem (q := 948) (a := 57) (b := 20) dL_law_947 (by omega) (by decide) (by decide) rfl ?_
          refine VB_top (y := iZ 17) rfl ?_
          refine VB_if_gt (q := 951) (tgt := 964) dL_law_948 (by decide) (by decide) (fun _ => ?_) (fun hc => absurd hc (by decide))
          refine VB_iconst (q := 965) dL_law_964 rfl ?_
          refine VB_goto (tgt := 969) dL_law_965 (by decide) ?_
          refine VB_istore (q := 971) (lv' := [(0, _), (1, _), (2, _), (3, _), (4, _), (5, _), (6, _), (7, _), (8, _), (9, _), (10, _)]) dL_law_969 (by decide) rfl rfl ?_
          refine VB_iinc (q := 974) (y := 58) (lv' := [(0, _), (1, _), (2, _), (3, _), (4, _), (5, _), (6, _), (7, _), (8, _), (9, _), (10, _)]) dL_law_971 8 rfl (by omega) (by decide) rfl rfl ?_
          refine VB_goto (tgt := 64) dL_law_974 (by decide) ?_
          refine VB_loc (lv' := [(0, _), (1, _), (2, _), (3, _), (4, _), (5, _), (6, _), (7, _), (8, _)]) [0, 1, 2, 3, 4, 5, 6, 7, 8] rfl ?_
          refine VB_lo (lo' := 123) (by omega) ?_
          exact VB_widen (by omega) (by omega) (rd58 hL h16 hx S F g886 hI (fun _ => hK) hg886)
set_option maxRecDepth 100000 in
set_option maxHeartbeats 8000000 in
theorem rd57 {s0 L : Nat} {xs : Nat → Int32} {a : Nat → Nat} {c : Nat → ClassId} {b : Nat → Nat} {d : Nat → ClassId} (hL : L ≤ 260) (h16 : 80 ≤ L) (hx : ∀ j, j < 80 → xs j = 31) : ∀ (S : St) (F : Nat → Nat → Int32) (g : Nat → Nat), Iv S F 4 → (0 < 57 → sK S 0 = 0) → (∀ j, g j < 4096) → VB 123 RL cL_law 17 (some .boolean) wsL_law roomB (vXL s0 L xs) (tyl c d) (qF 123) (7342) (44052 + 1250) (wal a c S b d F g) 64 [(0, .ref (s0)), (1, .ref (a 0)), (2, .ref (b 0)), (3, .ref (b 1)), (4, .ref (b 2)), (5, .ref (b 3)), (6, .ref (b 4)), (7, .int (iZ 1)), (8, .int (iZ 57))] [] := by
  intro S F g hI hK hg
  obtain ⟨ho, hn, hm4, hM0, hG, hC⟩ := id hI
  refine VB_iload (q := 66) dL_law_64 8 rfl rfl ?_
  refine VB_bipush (q := 68) dL_law_66 (by decide) rfl ?_
  refine VB_icmp_ge (q := 71) (tgt := 977) dL_law_68 (by decide) (by decide) (by decide) (fun hc => absurd hc (by decide)) (fun _ => ?_)
  refine VB_iload (q := 73) dL_law_71 7 rfl rfl ?_
  refine VB_if_eq (q := 76) (tgt := 977) dL_law_73 (by decide) (by decide) (fun hc => absurd hc (by decide)) (fun _ => ?_)
  refine VB_aload_n (q := 77) dL_law_76 0 rfl rfl ?_
  refine VB_iload (q := 79) dL_law_77 8 rfl rfl ?_
  refine VB_callD (q := 82) dL_law_79 (u_dice (b := s0) (L := L) (xs := xs) 57 (by omega) hL (hx 57 (by omega))) yv_L_dice rfl gL_law_L_dice xL_s rfl (Nat.le_of_ble_eq_true rfl) (by decide) ⟨by show _ ≤ 20000; omega, by show _ ≤ 130000; omega⟩ ?_
  refine VB_istore (q := 84) (lv' := [(0, _), (1, _), (2, _), (3, _), (4, _), (5, _), (6, _), (7, _), (8, _), (9, _)]) dL_law_82 (by decide) rfl rfl ?_
  refine VB_iload (q := 86) dL_law_84 9 rfl rfl ?_
  refine VB_bipush (q := 88) dL_law_86 (by decide) rfl ?_
  refine VB_idiv (q := 89) (a := 31) (b := 32) dL_law_88 (by omega) (by decide) (by decide) rfl ?_
  refine VB_top (y := iZ 0) rfl ?_
  refine VB_istore (q := 91) (lv' := [(0, _), (1, _), (2, _), (3, _), (4, _), (5, _), (6, _), (7, _), (8, _), (9, _), (10, _)]) dL_law_89 (by decide) rfl rfl ?_
  refine VB_iload (q := 93) dL_law_91 9 rfl rfl ?_
  refine VB_bipush (q := 95) dL_law_93 (by decide) rfl ?_
  refine VB_irem (q := 96) (a := 31) (b := 32) dL_law_95 (by omega) (by decide) (by decide) rfl ?_
  refine VB_top (y := iZ 31) rfl ?_
  refine VB_istore (q := 98) (lv' := [(0, _), (1, _), (2, _), (3, _), (4, _), (5, _), (6, _), (7, _), (8, _), (9, _), (10, _), (11, _)]) dL_law_96 (by decide) rfl rfl ?_
  refine VB_aload (q := 100) dL_law_98 6 rfl rfl ?_
  refine VB_iconst (q := 101) dL_law_100 rfl ?_
  refine VB_iald (q := 102) (v := (iZ 4)) dL_law_101 13 12 rfl rfl (0) (by omega) (by omega) (by decide) (hM0) rfl ?_
  refine VB_if_ne (q := 105) (tgt := 109) dL_law_102 (by decide) (by decide) (fun _ => ?_) (fun hc => absurd hc (by decide))
  refine VB_iload (q := 111) dL_law_109 10 rfl rfl ?_
  refine VB_aload (q := 113) dL_law_111 6 rfl rfl ?_
  refine VB_iconst (q := 114) dL_law_113 rfl ?_
  refine VB_iald (q := 115) (v := (iZ 4)) dL_law_114 13 12 rfl rfl (0) (by omega) (by omega) (by decide) (hM0) rfl ?_
  refine VB_irem (q := 116) (a := 0) (b := 4) dL_law_115 (by omega) (by decide) (by decide) rfl ?_
  refine VB_top (y := iZ 0) rfl ?_
  refine VB_istore (q := 118) (lv' := [(0, _), (1, _), (2, _), (3, _), (4, _), (5, _), (6, _), (7, _), (8, _), (9, _), (10, _), (11, _), (12, _)]) dL_law_116 (by decide) rfl rfl ?_
  refine VB_aload (q := 120) dL_law_118 6 rfl rfl ?_
  refine VB_iconst (q := 121) dL_law_120 rfl ?_
  refine VB_iald (q := 122) (v := (iZ 4)) dL_law_121 13 12 rfl rfl (0) (by omega) (by omega) (by decide) (hM0) rfl ?_
  refine VB_iconst (q := 123) dL_law_122 rfl ?_
  refine VB_icmp_lt (q := 126) (tgt := 141) dL_law_123 (by decide) (by decide) (by decide) (fun hc => absurd hc (by decide)) (fun _ => ?_)
  refine VB_iload (q := 128) dL_law_126 11 rfl rfl ?_
  refine VB_iconst (q := 129) dL_law_128 rfl ?_
  refine VB_icmp_ge (q := 132) (tgt := 326) dL_law_129 (by decide) (by decide) (by decide) (fun _ => ?_) (fun hc => absurd hc (by decide))
  refine VB_iload (q := 328) dL_law_326 11 rfl rfl ?_
  refine VB_bipush (q := 330) dL_law_328 (by decide) rfl ?_
  refine VB_icmp_ge (q := 333) (tgt := 451) dL_law_330 (by decide) (by decide) (by decide) (fun _ => ?_) (fun hc => absurd hc (by decide))
  refine VB_iload (q := 453) dL_law_451 11 rfl rfl ?_
  refine VB_bipush (q := 455) dL_law_453 (by decide) rfl ?_
  refine VB_icmp_ge (q := 458) (tgt := 603) dL_law_455 (by decide) (by decide) (by decide) (fun _ => ?_) (fun hc => absurd hc (by decide))
  refine VB_iload (q := 605) dL_law_603 11 rfl rfl ?_
  refine VB_bipush (q := 607) dL_law_605 (by decide) rfl ?_
  refine VB_icmp_ge (q := 610) (tgt := 633) dL_law_607 (by decide) (by decide) (by decide) (fun _ => ?_) (fun hc => absurd hc (by decide))
  refine VB_iload (q := 635) dL_law_633 11 rfl rfl ?_
  refine VB_bipush (q := 637) dL_law_635 (by decide) rfl ?_
  refine VB_icmp_ge (q := 640) (tgt := 677) dL_law_637 (by decide) (by decide) (by decide) (fun _ => ?_) (fun hc => absurd hc (by decide))
  refine VB_iload (q := 679) dL_law_677 11 rfl rfl ?_
  refine VB_bipush (q := 681) dL_law_679 (by decide) rfl ?_
  refine VB_icmp_ne (q := 684) (tgt := 783) dL_law_681 (by decide) (by decide) (by decide) (fun _ => ?_) (fun hc => absurd hc (by decide))
  refine VB_loc (lv' := [(0, _), (1, _), (2, _), (3, _), (4, _), (5, _), (6, _), (7, _), (8, _), (9, _), (10, _)]) [0, 1, 2, 3, 4, 5, 6, 7, 8, 9, 10] rfl ?_
  exact VB_widen (by omega) (by omega) (ck57 hL h16 hx S F g hI (hK (by decide)) hg)
set_option maxRecDepth 100000 in
set_option maxHeartbeats 8000000 in
theorem ck56 {s0 L : Nat} {xs : Nat → Int32} {a : Nat → Nat} {c : Nat → ClassId} {b : Nat → Nat} {d : Nat → ClassId} (hL : L ≤ 260) (h16 : 80 ≤ L) (hx : ∀ j, j < 80 → xs j = 31) : ∀ (S : St) (F : Nat → Nat → Int32) (g : Nat → Nat), Iv S F 4 → sK S 0 = 0 → (∀ j, g j < 4096) → VB 123 RL cL_law 17 (some .boolean) wsL_law roomB (vXL s0 L xs) (tyl c d) (qF 123) (7122) (42732 + 1250) (wal a c S b d F g) 783 [(0, .ref (s0)), (1, .ref (a 0)), (2, .ref (b 0)), (3, .ref (b 1)), (4, .ref (b 2)), (5, .ref (b 3)), (6, .ref (b 4)), (7, .int (iZ 1)), (8, .int (iZ 56)), (9, .int (iZ 31)), (10, .int (iZ 0))] [] := by
  intro S F g hI hK hg
  obtain ⟨ho, hn, hm4, hM0, hG, hC⟩ := id hI
  refine VB_iload (q := 785) dL_law_783 7 rfl rfl ?_
  refine VB_if_eq (q := 788) (tgt := 968) dL_law_785 (by decide) (by decide) (fun hc => absurd hc (by decide)) (fun _ => ?_)
  refine VB_aload_n (q := 789) dL_law_788 1 rfl rfl ?_
  refine VB_aload_n (q := 790) dL_law_789 2 rfl rfl ?_
  refine VB_aload_n (q := 791) dL_law_790 3 rfl rfl ?_
  refine VB_aload (q := 793) dL_law_791 6 rfl rfl ?_
  refine VB_callU (q := 796) dL_law_793 (u_areThings (a := a) (c := c) (S := S) (b := b) (d := d) (F := F) hI hg) yv_L_areThings rfl gL_law_L_areThings xU_L rfl (Nat.le_of_ble_eq_true rfl) (by decide) ⟨by show _ ≤ 20000; omega, by show _ ≤ 130000; omega⟩ (fun x793 g793 hP793 hg793 => ?_)
  refine VB_lo (lo' := 123) (Nat.le_add_right _ _) ?_
  have J968 : ∀ (gj968 : Nat → Nat), (∀ j, gj968 j < 4096) → VB 123 RL cL_law 17 (some .boolean) wsL_law roomB (vXL s0 L xs) (tyl c d) (qF 123) (7342) (44052 + 1250) (wal a c S b d F gj968) 968 [(0, .ref (s0)), (1, .ref (a 0)), (2, .ref (b 0)), (3, .ref (b 1)), (4, .ref (b 2)), (5, .ref (b 3)), (6, .ref (b 4)), (7, .int (iZ 1)), (8, .int (iZ 56)), (9, .int (iZ 31)), (10, .int (iZ 0))] [] := by
    intro gj968 hgj968
    refine VB_iconst (q := 969) dL_law_968 rfl ?_
    refine VB_istore (q := 971) (lv' := [(0, _), (1, _), (2, _), (3, _), (4, _), (5, _), (6, _), (7, _), (8, _), (9, _), (10, _)]) dL_law_969 (by decide) rfl rfl ?_
    refine VB_iinc (q := 974) (y := 57) (lv' := [(0, _), (1, _), (2, _), (3, _), (4, _), (5, _), (6, _), (7, _), (8, _), (9, _), (10, _)]) dL_law_971 8 rfl (by omega) (by decide) rfl rfl ?_
    refine VB_goto (tgt := 64) dL_law_974 (by decide) ?_
    refine VB_iload (q := 66) dL_law_64 8 rfl rfl ?_
    refine VB_bipush (q := 68) dL_law_66 (by decide) rfl ?_
    refine VB_icmp_ge (q := 71) (tgt := 977) dL_law_68 (by decide) (by decide) (by decide) (fun hc => absurd hc (by decide)) (fun _ => ?_)
    refine VB_iload (q := 73) dL_law_71 7 rfl rfl ?_
    refine VB_if_eq (q := 76) (tgt := 977) dL_law_73 (by decide) (by decide) (fun _ => ?_) (fun hc => absurd hc (by decide))
    refine VB_iload (q := 979) dL_law_977 7 rfl rfl ?_
    exact VB_ret0 dL_law_979 rfl
  refine VB_uif_eq (q := 799) (tgt := 968) dL_law_796 (by decide) ?_ ?_
  · skip
    exact VB_widen (by omega) (by omega) (J968 g793 hg793)
  · skip
    refine VB_iload (q := 801) dL_law_799 8 rfl rfl ?_
    refine VB_iconst (q := 802) dL_law_801 rfl ?_
    refine VB_irem (q := 803) (a := 56) (b := 2) dL_law_802 (by omega) (by decide) (by decide) rfl ?_
    refine VB_top (y := iZ 0) rfl ?_
    refine VB_if_gt (q := 806) (tgt := 833) dL_law_803 (by decide) (by decide) (fun hc => absurd hc (by decide)) (fun _ => ?_)
    refine VB_aload_n (q := 807) dL_law_806 1 rfl rfl ?_
    refine VB_aload_n (q := 808) dL_law_807 2 rfl rfl ?_
    refine VB_aload_n (q := 809) dL_law_808 3 rfl rfl ?_
    refine VB_aload (q := 811) dL_law_809 4 rfl rfl ?_
    refine VB_aload (q := 813) dL_law_811 6 rfl rfl ?_
    refine VB_iload (q := 815) dL_law_813 10 rfl rfl ?_
    refine VB_bipush (q := 817) dL_law_815 (by decide) rfl ?_
    refine VB_irem (q := 818) (a := 0) (b := 31) dL_law_817 (by omega) (by decide) (by decide) rfl ?_
    refine VB_top (y := iZ 0) rfl ?_
    refine VB_iload (q := 820) dL_law_818 10 rfl rfl ?_
    refine VB_bipush (q := 822) dL_law_820 (by decide) rfl ?_
    refine VB_idiv (q := 823) (a := 0) (b := 31) dL_law_822 (by omega) (by decide) (by decide) rfl ?_
    refine VB_top (y := iZ 0) rfl ?_
    refine VB_sipush (q := 826) dL_law_823 (by decide) rfl ?_
    refine VB_irem (q := 827) (a := 0) (b := 256) dL_law_826 (by omega) (by decide) (by decide) rfl ?_
    refine VB_top (y := iZ 0) rfl ?_
    refine VB_callU (q := 830) dL_law_827 (u_areOutfits (a := a) (c := c) (S := S) (b := b) (d := d) (F := F) hI hg793) yv_L_areOutfits rfl gL_law_L_areOutfits xU_L rfl (Nat.le_of_ble_eq_true rfl) (by decide) ⟨by show _ ≤ 20000; omega, by show _ ≤ 130000; omega⟩ (fun x827 g827 hP827 hg827 => ?_)
    refine VB_lo (lo' := 123) (Nat.le_add_right _ _) ?_
    refine VB_uif_eq (q := 833) (tgt := 968) dL_law_830 (by decide) ?_ ?_
    · skip
      exact VB_widen (by omega) (by omega) (J968 g827 hg827)
    · skip
      refine VB_aload_n (q := 834) dL_law_833 1 rfl rfl ?_
      refine VB_aload_n (q := 835) dL_law_834 2 rfl rfl ?_
      refine VB_aload_n (q := 836) dL_law_835 3 rfl rfl ?_
      refine VB_aload (q := 838) dL_law_836 4 rfl rfl ?_
      refine VB_aload (q := 840) dL_law_838 6 rfl rfl ?_
      refine VB_callU (q := 843) dL_law_840 (u_isMissing (a := a) (c := c) (S := S) (b := b) (d := d) (F := F) hI hg827) yv_L_isMissing rfl gL_law_L_isMissing xU_L rfl (Nat.le_of_ble_eq_true rfl) (by decide) ⟨by show _ ≤ 20000; omega, by show _ ≤ 130000; omega⟩ (fun x840 g840 hP840 hg840 => ?_)
      refine VB_lo (lo' := 123) (Nat.le_add_right _ _) ?_
      refine VB_uif_eq (q := 846) (tgt := 968) dL_law_843 (by decide) ?_ ?_
      · skip
        exact VB_widen (by omega) (by omega) (J968 g840 hg840)
      · skip
        refine VB_aload_n (q := 847) dL_law_846 1 rfl rfl ?_
        refine VB_aload_n (q := 848) dL_law_847 2 rfl rfl ?_
        refine VB_aload (q := 850) dL_law_848 6 rfl rfl ?_
        refine VB_iload (q := 852) dL_law_850 10 rfl rfl ?_
        refine VB_aload (q := 854) dL_law_852 6 rfl rfl ?_
        refine VB_iconst (q := 855) dL_law_854 rfl ?_
        refine VB_iald (q := 856) (v := (iZ 4)) dL_law_855 13 12 rfl rfl (0) (by omega) (by omega) (by decide) (hM0) rfl ?_
        refine VB_iconst (q := 857) dL_law_856 rfl ?_
        refine VB_iadd (q := 858) dL_law_857 rfl ?_
        refine VB_top (y := iZ 5) rfl ?_
        refine VB_irem (q := 859) (a := 0) (b := 5) dL_law_858 (by omega) (by decide) (by decide) rfl ?_
        refine VB_top (y := iZ 0) rfl ?_
        refine VB_iload (q := 861) dL_law_859 10 rfl rfl ?_
        refine VB_bipush (q := 863) dL_law_861 (by decide) rfl ?_
        refine VB_idiv (q := 864) (a := 0) (b := 13) dL_law_863 (by omega) (by decide) (by decide) rfl ?_
        refine VB_top (y := iZ 0) rfl ?_
        refine VB_aload (q := 866) dL_law_864 6 rfl rfl ?_
        refine VB_iconst (q := 867) dL_law_866 rfl ?_
        refine VB_iald (q := 868) (v := (iZ 4)) dL_law_867 13 12 rfl rfl (0) (by omega) (by omega) (by decide) (hM0) rfl ?_
        refine VB_iconst (q := 869) dL_law_868 rfl ?_
        refine VB_iadd (q := 870) dL_law_869 rfl ?_
        refine VB_top (y := iZ 5) rfl ?_
        refine VB_irem (q := 871) (a := 0) (b := 5) dL_law_870 (by omega) (by decide) (by decide) rfl ?_
        refine VB_top (y := iZ 0) rfl ?_
        refine VB_iload (q := 873) dL_law_871 10 rfl rfl ?_
        refine VB_sipush (q := 876) dL_law_873 (by decide) rfl ?_
        refine VB_idiv (q := 877) (a := 0) (b := 169) dL_law_876 (by omega) (by decide) (by decide) rfl ?_
        refine VB_top (y := iZ 0) rfl ?_
        refine VB_aload (q := 879) dL_law_877 6 rfl rfl ?_
        refine VB_iconst (q := 880) dL_law_879 rfl ?_
        refine VB_iald (q := 881) (v := (iZ 4)) dL_law_880 13 12 rfl rfl (0) (by omega) (by omega) (by decide) (hM0) rfl ?_
        refine VB_iconst (q := 882) dL_law_881 rfl ?_
        refine VB_iadd (q := 883) dL_law_882 rfl ?_
        refine VB_top (y := iZ 6) rfl ?_
        refine VB_irem (q := 884) (a := 0) (b := 6) dL_law_883 (by omega) (by decide) (by decide) rfl ?_
        refine VB_top (y := iZ 0) rfl ?_
        refine VB_iconst (q := 885) dL_law_884 rfl ?_
        refine VB_isub (q := 886) dL_law_885 rfl ?_
        refine VB_top (y := iZ (-1)) rfl ?_
        refine VB_callU (q := 889) dL_law_886 (u_isWrong (a := a) (c := c) (S := S) (b := b) (d := d) (F := F) hI (wr0 hI (by decide) hK) hg840) yv_L_isWrong rfl gL_law_L_isWrong xU_L rfl (Nat.le_of_ble_eq_true rfl) (by decide) ⟨by show _ ≤ 20000; omega, by show _ ≤ 130000; omega⟩ (fun x886 g886 hP886 hg886 => ?_)
        refine VB_em (x := x886) (fun e886 => VB_lo (lo' := 123) (Nat.le_add_right _ _) (VB_top (y := iZ 0) e886 ?_)) (fun e886 => VB_lo (lo' := 125) (by show 125 ≤ 123 + (if x886 = 0 then 0 else 2); rw [if_neg e886]; omega) ?_)
        · skip
          refine VB_if_eq (q := 892) (tgt := 968) dL_law_889 (by decide) (by decide) (fun _ => ?_) (fun hc => absurd hc (by decide))
          exact VB_widen (by omega) (by omega) (J968 g886 hg886)
        · skip
          refine VB_uif_eq (q := 892) (tgt := 968) dL_law_889 (by decide) ?_ ?_
          · skip
            refine VB_lo (lo' := 123) (by omega) ?_
            exact VB_widen (by omega) (by omega) (J968 g886 hg886)
          · skip
            refine VB_iload (q := 894) dL_law_892 8 rfl rfl ?_
            refine VB_bipush (q := 896) dL_law_894 (by decide) rfl ?_
            refine VB_irem (q := 897) (a := 56) (b := 16) dL_law_896 (by omega) (by decide) (by decide) rfl ?_
            refine VB_top (y := iZ 8) rfl ?_
            refine VB_if_gt (q := 900) (tgt := 943) dL_law_897 (by decide) (by decide) (fun _ => ?_) (fun hc => absurd hc (by decide))
            refine VB_iload (q := 945) dL_law_943 8 rfl rfl ?_
            refine VB_bipush (q := 947) dL_law_945 (by decide) rfl ?_
            refine VB_irem (q := 948) (a := 56) (b := 20) dL_law_947 (by omega) (by decide) (by decide) rfl ?_
            refine VB_top (y := iZ 16) rfl ?_
            refine VB_if_gt (q := 951) (tgt := 964) dL_law_948 (by decide) (by decide) (fun _ => ?_) (fun hc => absurd hc (by decide))
            refine VB_iconst (q := 965) dL_law_964 rfl ?_
            refine VB_goto (tgt := 969) dL_law_965 (by decide) ?_
            refine VB_istore (q := 971) (lv' := [(0, _), (1, _), (2, _), (3, _), (4, _), (5, _), (6, _), (7, _), (8, _), (9, _), (10, _)]) dL_law_969 (by decide) rfl rfl ?_
            refine VB_iinc (q := 974) (y := 57) (lv' := [(0, _), (1, _), (2, _), (3, _), (4, _), (5, _), (6, _), (7, _), (8, _), (9, _), (10, _)]) dL_law_971 8 rfl (by omega) (by decide) rfl rfl ?_
            refine VB_goto (tgt := 64) dL_law_974 (by decide) ?_
            refine VB_loc (lv' := [(0, _), (1, _), (2, _), (3, _), (4, _), (5, _), (6, _), (7, _), (8, _)]) [0, 1, 2, 3, 4, 5, 6, 7, 8] rfl ?_
            refine VB_lo (lo' := 123) (by omega) ?_
            exact VB_widen (by omega) (by omega) (rd57 hL h16 hx S F g886 hI (fun _ => hK) hg886)
set_option maxRecDepth 100000 in
set_option maxHeartbeats 8000000 in
theorem rd56 {s0 L : Nat} {xs : Nat → Int32} {a : Nat → Nat} {c : Nat → ClassId} {b : Nat → Nat} {d : Nat → ClassId} (hL : L ≤ 260) (h16 : 80 ≤ L) (hx : ∀ j, j < 80 → xs j = 31) : ∀ (S : St) (F : Nat → Nat → Int32) (g : Nat → Nat), Iv S F 4 → (0 < 56 → sK S 0 = 0) → (∀ j, g j < 4096) → VB 123 RL cL_law 17 (some .boolean) wsL_law roomB (vXL s0 L xs) (tyl c d) (qF 123) (7122) (42732 + 1250) (wal a c S b d F g) 64 [(0, .ref (s0)), (1, .ref (a 0)), (2, .ref (b 0)), (3, .ref (b 1)), (4, .ref (b 2)), (5, .ref (b 3)), (6, .ref (b 4)), (7, .int (iZ 1)), (8, .int (iZ 56))] [] := by
  intro S F g hI hK hg
  obtain ⟨ho, hn, hm4, hM0, hG, hC⟩ := id hI
  refine VB_iload (q := 66) dL_law_64 8 rfl rfl ?_
  refine VB_bipush (q := 68) dL_law_66 (by decide) rfl ?_
  refine VB_icmp_ge (q := 71) (tgt := 977) dL_law_68 (by decide) (by decide) (by decide) (fun hc => absurd hc (by decide)) (fun _ => ?_)
  refine VB_iload (q := 73) dL_law_71 7 rfl rfl ?_
  refine VB_if_eq (q := 76) (tgt := 977) dL_law_73 (by decide) (by decide) (fun hc => absurd hc (by decide)) (fun _ => ?_)
  refine VB_aload_n (q := 77) dL_law_76 0 rfl rfl ?_
  refine VB_iload (q := 79) dL_law_77 8 rfl rfl ?_
  refine VB_callD (q := 82) dL_law_79 (u_dice (b := s0) (L := L) (xs := xs) 56 (by omega) hL (hx 56 (by omega))) yv_L_dice rfl gL_law_L_dice xL_s rfl (Nat.le_of_ble_eq_true rfl) (by decide) ⟨by show _ ≤ 20000; omega, by show _ ≤ 130000; omega⟩ ?_
  refine VB_istore (q := 84) (lv' := [(0, _), (1, _), (2, _), (3, _), (4, _), (5, _), (6, _), (7, _), (8, _), (9, _)]) dL_law_82 (by decide) rfl rfl ?_
  refine VB_iload (q := 86) dL_law_84 9 rfl rfl ?_
  refine VB_bipush (q := 88) dL_law_86 (by decide) rfl ?_
  refine VB_idiv (q := 89) (a := 31) (b := 32) dL_law_88 (by omega) (by decide) (by decide) rfl ?_
  refine VB_top (y := iZ 0) rfl ?_
  refine VB_istore (q := 91) (lv' := [(0, _), (1, _), (2, _), (3, _), (4, _), (5, _), (6, _), (7, _), (8, _), (9, _), (10, _)]) dL_law_89 (by decide) rfl rfl ?_
  refine VB_iload (q := 93) dL_law_91 9 rfl rfl ?_
  refine VB_bipush (q := 95) dL_law_93 (by decide) rfl ?_
  refine VB_irem (q := 96) (a := 31) (b := 32) dL_law_95 (by omega) (by decide) (by decide) rfl ?_
  refine VB_top (y := iZ 31) rfl ?_
  refine VB_istore (q := 98) (lv' := [(0, _), (1, _), (2, _), (3, _), (4, _), (5, _), (6, _), (7, _), (8, _), (9, _), (10, _), (11, _)]) dL_law_96 (by decide) rfl rfl ?_
  refine VB_aload (q := 100) dL_law_98 6 rfl rfl ?_
  refine VB_iconst (q := 101) dL_law_100 rfl ?_
  refine VB_iald (q := 102) (v := (iZ 4)) dL_law_101 13 12 rfl rfl (0) (by omega) (by omega) (by decide) (hM0) rfl ?_
  refine VB_if_ne (q := 105) (tgt := 109) dL_law_102 (by decide) (by decide) (fun _ => ?_) (fun hc => absurd hc (by decide))
  refine VB_iload (q := 111) dL_law_109 10 rfl rfl ?_
  refine VB_aload (q := 113) dL_law_111 6 rfl rfl ?_
  refine VB_iconst (q := 114) dL_law_113 rfl ?_
  refine VB_iald (q := 115) (v := (iZ 4)) dL_law_114 13 12 rfl rfl (0) (by omega) (by omega) (by decide) (hM0) rfl ?_
  refine VB_irem (q := 116) (a := 0) (b := 4) dL_law_115 (by omega) (by decide) (by decide) rfl ?_
  refine VB_top (y := iZ 0) rfl ?_
  refine VB_istore (q := 118) (lv' := [(0, _), (1, _), (2, _), (3, _), (4, _), (5, _), (6, _), (7, _), (8, _), (9, _), (10, _), (11, _), (12, _)]) dL_law_116 (by decide) rfl rfl ?_
  refine VB_aload (q := 120) dL_law_118 6 rfl rfl ?_
  refine VB_iconst (q := 121) dL_law_120 rfl ?_
  refine VB_iald (q := 122) (v := (iZ 4)) dL_law_121 13 12 rfl rfl (0) (by omega) (by omega) (by decide) (hM0) rfl ?_
  refine VB_iconst (q := 123) dL_law_122 rfl ?_
  refine VB_icmp_lt (q := 126) (tgt := 141) dL_law_123 (by decide) (by decide) (by decide) (fun hc => absurd hc (by decide)) (fun _ => ?_)
  refine VB_iload (q := 128) dL_law_126 11 rfl rfl ?_
  refine VB_iconst (q := 129) dL_law_128 rfl ?_
  refine VB_icmp_ge (q := 132) (tgt := 326) dL_law_129 (by decide) (by decide) (by decide) (fun _ => ?_) (fun hc => absurd hc (by decide))
  refine VB_iload (q := 328) dL_law_326 11 rfl rfl ?_
  refine VB_bipush (q := 330) dL_law_328 (by decide) rfl ?_
  refine VB_icmp_ge (q := 333) (tgt := 451) dL_law_330 (by decide) (by decide) (by decide) (fun _ => ?_) (fun hc => absurd hc (by decide))
  refine VB_iload (q := 453) dL_law_451 11 rfl rfl ?_
  refine VB_bipush (q := 455) dL_law_453 (by decide) rfl ?_
  refine VB_icmp_ge (q := 458) (tgt := 603) dL_law_455 (by decide) (by decide) (by decide) (fun _ => ?_) (fun hc => absurd hc (by decide))
  refine VB_iload (q := 605) dL_law_603 11 rfl rfl ?_
  refine VB_bipush (q := 607) dL_law_605 (by decide) rfl ?_
  refine VB_icmp_ge (q := 610) (tgt := 633) dL_law_607 (by decide) (by decide) (by decide) (fun _ => ?_) (fun hc => absurd hc (by decide))
  refine VB_iload (q := 635) dL_law_633 11 rfl rfl ?_
  refine VB_bipush (q := 637) dL_law_635 (by decide) rfl ?_
  refine VB_icmp_ge (q := 640) (tgt := 677) dL_law_637 (by decide) (by decide) (by decide) (fun _ => ?_) (fun hc => absurd hc (by decide))
  refine VB_iload (q := 679) dL_law_677 11 rfl rfl ?_
  refine VB_bipush (q := 681) dL_law_679 (by decide) rfl ?_
  refine VB_icmp_ne (q := 684) (tgt := 783) dL_law_681 (by decide) (by decide) (by decide) (fun _ => ?_) (fun hc => absurd hc (by decide))
  refine VB_loc (lv' := [(0, _), (1, _), (2, _), (3, _), (4, _), (5, _), (6, _), (7, _), (8, _), (9, _), (10, _)]) [0, 1, 2, 3, 4, 5, 6, 7, 8, 9, 10] rfl ?_
  exact VB_widen (by omega) (by omega) (ck56 hL h16 hx S F g hI (hK (by decide)) hg)
set_option maxRecDepth 100000 in
set_option maxHeartbeats 8000000 in
theorem ck55 {s0 L : Nat} {xs : Nat → Int32} {a : Nat → Nat} {c : Nat → ClassId} {b : Nat → Nat} {d : Nat → ClassId} (hL : L ≤ 260) (h16 : 80 ≤ L) (hx : ∀ j, j < 80 → xs j = 31) : ∀ (S : St) (F : Nat → Nat → Int32) (g : Nat → Nat), Iv S F 4 → sK S 0 = 0 → (∀ j, g j < 4096) → VB 123 RL cL_law 17 (some .boolean) wsL_law roomB (vXL s0 L xs) (tyl c d) (qF 123) (7102) (42612 + 1250) (wal a c S b d F g) 783 [(0, .ref (s0)), (1, .ref (a 0)), (2, .ref (b 0)), (3, .ref (b 1)), (4, .ref (b 2)), (5, .ref (b 3)), (6, .ref (b 4)), (7, .int (iZ 1)), (8, .int (iZ 55)), (9, .int (iZ 31)), (10, .int (iZ 0))] [] := by
  intro S F g hI hK hg
  obtain ⟨ho, hn, hm4, hM0, hG, hC⟩ := id hI
  refine VB_iload (q := 785) dL_law_783 7 rfl rfl ?_
  refine VB_if_eq (q := 788) (tgt := 968) dL_law_785 (by decide) (by decide) (fun hc => absurd hc (by decide)) (fun _ => ?_)
  refine VB_aload_n (q := 789) dL_law_788 1 rfl rfl ?_
  refine VB_aload_n (q := 790) dL_law_789 2 rfl rfl ?_
  refine VB_aload_n (q := 791) dL_law_790 3 rfl rfl ?_
  refine VB_aload (q := 793) dL_law_791 6 rfl rfl ?_
  refine VB_callU (q := 796) dL_law_793 (u_areThings (a := a) (c := c) (S := S) (b := b) (d := d) (F := F) hI hg) yv_L_areThings rfl gL_law_L_areThings xU_L rfl (Nat.le_of_ble_eq_true rfl) (by decide) ⟨by show _ ≤ 20000; omega, by show _ ≤ 130000; omega⟩ (fun x793 g793 hP793 hg793 => ?_)
  refine VB_lo (lo' := 123) (Nat.le_add_right _ _) ?_
  have J968 : ∀ (gj968 : Nat → Nat), (∀ j, gj968 j < 4096) → VB 123 RL cL_law 17 (some .boolean) wsL_law roomB (vXL s0 L xs) (tyl c d) (qF 123) (7122) (42732 + 1250) (wal a c S b d F gj968) 968 [(0, .ref (s0)), (1, .ref (a 0)), (2, .ref (b 0)), (3, .ref (b 1)), (4, .ref (b 2)), (5, .ref (b 3)), (6, .ref (b 4)), (7, .int (iZ 1)), (8, .int (iZ 55)), (9, .int (iZ 31)), (10, .int (iZ 0))] [] := by
    intro gj968 hgj968
    refine VB_iconst (q := 969) dL_law_968 rfl ?_
    refine VB_istore (q := 971) (lv' := [(0, _), (1, _), (2, _), (3, _), (4, _), (5, _), (6, _), (7, _), (8, _), (9, _), (10, _)]) dL_law_969 (by decide) rfl rfl ?_
    refine VB_iinc (q := 974) (y := 56) (lv' := [(0, _), (1, _), (2, _), (3, _), (4, _), (5, _), (6, _), (7, _), (8, _), (9, _), (10, _)]) dL_law_971 8 rfl (by omega) (by decide) rfl rfl ?_
    refine VB_goto (tgt := 64) dL_law_974 (by decide) ?_
    refine VB_iload (q := 66) dL_law_64 8 rfl rfl ?_
    refine VB_bipush (q := 68) dL_law_66 (by decide) rfl ?_
    refine VB_icmp_ge (q := 71) (tgt := 977) dL_law_68 (by decide) (by decide) (by decide) (fun hc => absurd hc (by decide)) (fun _ => ?_)
    refine VB_iload (q := 73) dL_law_71 7 rfl rfl ?_
    refine VB_if_eq (q := 76) (tgt := 977) dL_law_73 (by decide) (by decide) (fun _ => ?_) (fun hc => absurd hc (by decide))
    refine VB_iload (q := 979) dL_law_977 7 rfl rfl ?_
    exact VB_ret0 dL_law_979 rfl
  refine VB_uif_eq (q := 799) (tgt := 968) dL_law_796 (by decide) ?_ ?_
  · skip
    exact VB_widen (by omega) (by omega) (J968 g793 hg793)
  · skip
    refine VB_iload (q := 801) dL_law_799 8 rfl rfl ?_
    refine VB_iconst (q := 802) dL_law_801 rfl ?_
    refine VB_irem (q := 803) (a := 55) (b := 2) dL_law_802 (by omega) (by decide) (by decide) rfl ?_
    refine VB_top (y := iZ 1) rfl ?_
    refine VB_if_gt (q := 806) (tgt := 833) dL_law_803 (by decide) (by decide) (fun _ => ?_) (fun hc => absurd hc (by decide))
    refine VB_aload_n (q := 834) dL_law_833 1 rfl rfl ?_
    refine VB_aload_n (q := 835) dL_law_834 2 rfl rfl ?_
    refine VB_aload_n (q := 836) dL_law_835 3 rfl rfl ?_
    refine VB_aload (q := 838) dL_law_836 4 rfl rfl ?_
    refine VB_aload (q := 840) dL_law_838 6 rfl rfl ?_
    refine VB_callU (q := 843) dL_law_840 (u_isMissing (a := a) (c := c) (S := S) (b := b) (d := d) (F := F) hI hg793) yv_L_isMissing rfl gL_law_L_isMissing xU_L rfl (Nat.le_of_ble_eq_true rfl) (by decide) ⟨by show _ ≤ 20000; omega, by show _ ≤ 130000; omega⟩ (fun x840 g840 hP840 hg840 => ?_)
    refine VB_lo (lo' := 123) (Nat.le_add_right _ _) ?_
    refine VB_uif_eq (q := 846) (tgt := 968) dL_law_843 (by decide) ?_ ?_
    · skip
      exact VB_widen (by omega) (by omega) (J968 g840 hg840)
    · skip
      refine VB_aload_n (q := 847) dL_law_846 1 rfl rfl ?_
      refine VB_aload_n (q := 848) dL_law_847 2 rfl rfl ?_
      refine VB_aload (q := 850) dL_law_848 6 rfl rfl ?_
      refine VB_iload (q := 852) dL_law_850 10 rfl rfl ?_
      refine VB_aload (q := 854) dL_law_852 6 rfl rfl ?_
      refine VB_iconst (q := 855) dL_law_854 rfl ?_
      refine VB_iald (q := 856) (v := (iZ 4)) dL_law_855 13 12 rfl rfl (0) (by omega) (by omega) (by decide) (hM0) rfl ?_
      refine VB_iconst (q := 857) dL_law_856 rfl ?_
      refine VB_iadd (q := 858) dL_law_857 rfl ?_
      refine VB_top (y := iZ 5) rfl ?_
      refine VB_irem (q := 859) (a := 0) (b := 5) dL_law_858 (by omega) (by decide) (by decide) rfl ?_
      refine VB_top (y := iZ 0) rfl ?_
      refine VB_iload (q := 861) dL_law_859 10 rfl rfl ?_
      refine VB_bipush (q := 863) dL_law_861 (by decide) rfl ?_
      refine VB_idiv (q := 864) (a := 0) (b := 13) dL_law_863 (by omega) (by decide) (by decide) rfl ?_
      refine VB_top (y := iZ 0) rfl ?_
      refine VB_aload (q := 866) dL_law_864 6 rfl rfl ?_
      refine VB_iconst (q := 867) dL_law_866 rfl ?_
      refine VB_iald (q := 868) (v := (iZ 4)) dL_law_867 13 12 rfl rfl (0) (by omega) (by omega) (by decide) (hM0) rfl ?_
      refine VB_iconst (q := 869) dL_law_868 rfl ?_
      refine VB_iadd (q := 870) dL_law_869 rfl ?_
      refine VB_top (y := iZ 5) rfl ?_
      refine VB_irem (q := 871) (a := 0) (b := 5) dL_law_870 (by omega) (by decide) (by decide) rfl ?_
      refine VB_top (y := iZ 0) rfl ?_
      refine VB_iload (q := 873) dL_law_871 10 rfl rfl ?_
      refine VB_sipush (q := 876) dL_law_873 (by decide) rfl ?_
      refine VB_idiv (q := 877) (a := 0) (b := 169) dL_law_876 (by omega) (by decide) (by decide) rfl ?_
      refine VB_top (y := iZ 0) rfl ?_
      refine VB_aload (q := 879) dL_law_877 6 rfl rfl ?_
      refine VB_iconst (q := 880) dL_law_879 rfl ?_
      refine VB_iald (q := 881) (v := (iZ 4)) dL_law_880 13 12 rfl rfl (0) (by omega) (by omega) (by decide) (hM0) rfl ?_
      refine VB_iconst (q := 882) dL_law_881 rfl ?_
      refine VB_iadd (q := 883) dL_law_882 rfl ?_
      refine VB_top (y := iZ 6) rfl ?_
      refine VB_irem (q := 884) (a := 0) (b := 6) dL_law_883 (by omega) (by decide) (by decide) rfl ?_
      refine VB_top (y := iZ 0) rfl ?_
      refine VB_iconst (q := 885) dL_law_884 rfl ?_
      refine VB_isub (q := 886) dL_law_885 rfl ?_
      refine VB_top (y := iZ (-1)) rfl ?_
      refine VB_callU (q := 889) dL_law_886 (u_isWrong (a := a) (c := c) (S := S) (b := b) (d := d) (F := F) hI (wr0 hI (by decide) hK) hg840) yv_L_isWrong rfl gL_law_L_isWrong xU_L rfl (Nat.le_of_ble_eq_true rfl) (by decide) ⟨by show _ ≤ 20000; omega, by show _ ≤ 130000; omega⟩ (fun x886 g886 hP886 hg886 => ?_)
      refine VB_em (x := x886) (fun e886 => VB_lo (lo' := 123) (Nat.le_add_right _ _) (VB_top (y := iZ 0) e886 ?_)) (fun e886 => VB_lo (lo' := 125) (by show 125 ≤ 123 + (if x886 = 0 then 0 else 2); rw [if_neg e886]; omega) ?_)
      · skip
        refine VB_if_eq (q := 892) (tgt := 968) dL_law_889 (by decide) (by decide) (fun _ => ?_) (fun hc => absurd hc (by decide))
        exact VB_widen (by omega) (by omega) (J968 g886 hg886)
      · skip
        refine VB_uif_eq (q := 892) (tgt := 968) dL_law_889 (by decide) ?_ ?_
        · skip
          refine VB_lo (lo' := 123) (by omega) ?_
          exact VB_widen (by omega) (by omega) (J968 g886 hg886)
        · skip
          refine VB_iload (q := 894) dL_law_892 8 rfl rfl ?_
          refine VB_bipush (q := 896) dL_law_894 (by decide) rfl ?_
          refine VB_irem (q := 897) (a := 55) (b := 16) dL_law_896 (by omega) (by decide) (by decide) rfl ?_
          refine VB_top (y := iZ 7) rfl ?_
          refine VB_if_gt (q := 900) (tgt := 943) dL_law_897 (by decide) (by decide) (fun _ => ?_) (fun hc => absurd hc (by decide))
          refine VB_iload (q := 945) dL_law_943 8 rfl rfl ?_
          refine VB_bipush (q := 947) dL_law_945 (by decide) rfl ?_
          refine VB_irem (q := 948) (a := 55) (b := 20) dL_law_947 (by omega) (by decide) (by decide) rfl ?_
          refine VB_top (y := iZ 15) rfl ?_
          refine VB_if_gt (q := 951) (tgt := 964) dL_law_948 (by decide) (by decide) (fun _ => ?_) (fun hc => absurd hc (by decide))
          refine VB_iconst (q := 965) dL_law_964 rfl ?_
          refine VB_goto (tgt := 969) dL_law_965 (by decide) ?_
          refine VB_istore (q := 971) (lv' := [(0, _), (1, _), (2, _), (3, _), (4, _), (5, _), (6, _), (7, _), (8, _), (9, _), (10, _)]) dL_law_969 (by decide) rfl rfl ?_
          refine VB_iinc (q := 974) (y := 56) (lv' := [(0, _), (1, _), (2, _), (3, _), (4, _), (5, _), (6, _), (7, _), (8, _), (9, _), (10, _)]) dL_law_971 8 rfl (by omega) (by decide) rfl rfl ?_
          refine VB_goto (tgt := 64) dL_law_974 (by decide) ?_
          refine VB_loc (lv' := [(0, _), (1, _), (2, _), (3, _), (4, _), (5, _), (6, _), (7, _), (8, _)]) [0, 1, 2, 3, 4, 5, 6, 7, 8] rfl ?_
          refine VB_lo (lo' := 123) (by omega) ?_
          exact VB_widen (by omega) (by omega) (rd56 hL h16 hx S F g886 hI (fun _ => hK) hg886)
set_option maxRecDepth 100000 in
set_option maxHeartbeats 8000000 in
theorem rd55 {s0 L : Nat} {xs : Nat → Int32} {a : Nat → Nat} {c : Nat → ClassId} {b : Nat → Nat} {d : Nat → ClassId} (hL : L ≤ 260) (h16 : 80 ≤ L) (hx : ∀ j, j < 80 → xs j = 31) : ∀ (S : St) (F : Nat → Nat → Int32) (g : Nat → Nat), Iv S F 4 → (0 < 55 → sK S 0 = 0) → (∀ j, g j < 4096) → VB 123 RL cL_law 17 (some .boolean) wsL_law roomB (vXL s0 L xs) (tyl c d) (qF 123) (7102) (42612 + 1250) (wal a c S b d F g) 64 [(0, .ref (s0)), (1, .ref (a 0)), (2, .ref (b 0)), (3, .ref (b 1)), (4, .ref (b 2)), (5, .ref (b 3)), (6, .ref (b 4)), (7, .int (iZ 1)), (8, .int (iZ 55))] [] := by
  intro S F g hI hK hg
  obtain ⟨ho, hn, hm4, hM0, hG, hC⟩ := id hI
  refine VB_iload (q := 66) dL_law_64 8 rfl rfl ?_
  refine VB_bipush (q := 68) dL_law_66 (by decide) rfl ?_
  refine VB_icmp_ge (q := 71) (tgt := 977) dL_law_68 (by decide) (by decide) (by decide) (fun hc => absurd hc (by decide)) (fun _ => ?_)
  refine VB_iload (q := 73) dL_law_71 7 rfl rfl ?_
  refine VB_if_eq (q := 76) (tgt := 977) dL_law_73 (by decide) (by decide) (fun hc => absurd hc (by decide)) (fun _ => ?_)
  refine VB_aload_n (q := 77) dL_law_76 0 rfl rfl ?_
  refine VB_iload (q := 79) dL_law_77 8 rfl rfl ?_
  refine VB_callD (q := 82) dL_law_79 (u_dice (b := s0) (L := L) (xs := xs) 55 (by omega) hL (hx 55 (by omega))) yv_L_dice rfl gL_law_L_dice xL_s rfl (Nat.le_of_ble_eq_true rfl) (by decide) ⟨by show _ ≤ 20000; omega, by show _ ≤ 130000; omega⟩ ?_
  refine VB_istore (q := 84) (lv' := [(0, _), (1, _), (2, _), (3, _), (4, _), (5, _), (6, _), (7, _), (8, _), (9, _)]) dL_law_82 (by decide) rfl rfl ?_
  refine VB_iload (q := 86) dL_law_84 9 rfl rfl ?_
  refine VB_bipush (q := 88) dL_law_86 (by decide) rfl ?_
  refine VB_idiv (q := 89) (a := 31) (b := 32) dL_law_88 (by omega) (by decide) (by decide) rfl ?_
  refine VB_top (y := iZ 0) rfl ?_
  refine VB_istore (q := 91) (lv' := [(0, _), (1, _), (2, _), (3, _), (4, _), (5, _), (6, _), (7, _), (8, _), (9, _), (10, _)]) dL_law_89 (by decide) rfl rfl ?_
  refine VB_iload (q := 93) dL_law_91 9 rfl rfl ?_
  refine VB_bipush (q := 95) dL_law_93 (by decide) rfl ?_
  refine VB_irem (q := 96) (a := 31) (b := 32) dL_law_95 (by omega) (by decide) (by decide) rfl ?_
  refine VB_top (y := iZ 31) rfl ?_
  refine VB_istore (q := 98) (lv' := [(0, _), (1, _), (2, _), (3, _), (4, _), (5, _), (6, _), (7, _), (8, _), (9, _), (10, _), (11, _)]) dL_law_96 (by decide) rfl rfl ?_
  refine VB_aload (q := 100) dL_law_98 6 rfl rfl ?_
  refine VB_iconst (q := 101) dL_law_100 rfl ?_
  refine VB_iald (q := 102) (v := (iZ 4)) dL_law_101 13 12 rfl rfl (0) (by omega) (by omega) (by decide) (hM0) rfl ?_
  refine VB_if_ne (q := 105) (tgt := 109) dL_law_102 (by decide) (by decide) (fun _ => ?_) (fun hc => absurd hc (by decide))
  refine VB_iload (q := 111) dL_law_109 10 rfl rfl ?_
  refine VB_aload (q := 113) dL_law_111 6 rfl rfl ?_
  refine VB_iconst (q := 114) dL_law_113 rfl ?_
  refine VB_iald (q := 115) (v := (iZ 4)) dL_law_114 13 12 rfl rfl (0) (by omega) (by omega) (by decide) (hM0) rfl ?_
  refine VB_irem (q := 116) (a := 0) (b := 4) dL_law_115 (by omega) (by decide) (by decide) rfl ?_
  refine VB_top (y := iZ 0) rfl ?_
  refine VB_istore (q := 118) (lv' := [(0, _), (1, _), (2, _), (3, _), (4, _), (5, _), (6, _), (7, _), (8, _), (9, _), (10, _), (11, _), (12, _)]) dL_law_116 (by decide) rfl rfl ?_
  refine VB_aload (q := 120) dL_law_118 6 rfl rfl ?_
  refine VB_iconst (q := 121) dL_law_120 rfl ?_
  refine VB_iald (q := 122) (v := (iZ 4)) dL_law_121 13 12 rfl rfl (0) (by omega) (by omega) (by decide) (hM0) rfl ?_
  refine VB_iconst (q := 123) dL_law_122 rfl ?_
  refine VB_icmp_lt (q := 126) (tgt := 141) dL_law_123 (by decide) (by decide) (by decide) (fun hc => absurd hc (by decide)) (fun _ => ?_)
  refine VB_iload (q := 128) dL_law_126 11 rfl rfl ?_
  refine VB_iconst (q := 129) dL_law_128 rfl ?_
  refine VB_icmp_ge (q := 132) (tgt := 326) dL_law_129 (by decide) (by decide) (by decide) (fun _ => ?_) (fun hc => absurd hc (by decide))
  refine VB_iload (q := 328) dL_law_326 11 rfl rfl ?_
  refine VB_bipush (q := 330) dL_law_328 (by decide) rfl ?_
  refine VB_icmp_ge (q := 333) (tgt := 451) dL_law_330 (by decide) (by decide) (by decide) (fun _ => ?_) (fun hc => absurd hc (by decide))
  refine VB_iload (q := 453) dL_law_451 11 rfl rfl ?_
  refine VB_bipush (q := 455) dL_law_453 (by decide) rfl ?_
  refine VB_icmp_ge (q := 458) (tgt := 603) dL_law_455 (by decide) (by decide) (by decide) (fun _ => ?_) (fun hc => absurd hc (by decide))
  refine VB_iload (q := 605) dL_law_603 11 rfl rfl ?_
  refine VB_bipush (q := 607) dL_law_605 (by decide) rfl ?_
  refine VB_icmp_ge (q := 610) (tgt := 633) dL_law_607 (by decide) (by decide) (by decide) (fun _ => ?_) (fun hc => absurd hc (by decide))
  refine VB_iload (q := 635) dL_law_633 11 rfl rfl ?_
  refine VB_bipush (q := 637) dL_law_635 (by decide) rfl ?_
  refine VB_icmp_ge (q := 640) (tgt := 677) dL_law_637 (by decide) (by decide) (by decide) (fun _ => ?_) (fun hc => absurd hc (by decide))
  refine VB_iload (q := 679) dL_law_677 11 rfl rfl ?_
  refine VB_bipush (q := 681) dL_law_679 (by decide) rfl ?_
  refine VB_icmp_ne (q := 684) (tgt := 783) dL_law_681 (by decide) (by decide) (by decide) (fun _ => ?_) (fun hc => absurd hc (by decide))
  refine VB_loc (lv' := [(0, _), (1, _), (2, _), (3, _), (4, _), (5, _), (6, _), (7, _), (8, _), (9, _), (10, _)]) [0, 1, 2, 3, 4, 5, 6, 7, 8, 9, 10] rfl ?_
  exact VB_widen (by omega) (by omega) (ck55 hL h16 hx S F g hI (hK (by decide)) hg)
set_option maxRecDepth 100000 in
set_option maxHeartbeats 8000000 in
theorem ck54 {s0 L : Nat} {xs : Nat → Int32} {a : Nat → Nat} {c : Nat → ClassId} {b : Nat → Nat} {d : Nat → ClassId} (hL : L ≤ 260) (h16 : 80 ≤ L) (hx : ∀ j, j < 80 → xs j = 31) : ∀ (S : St) (F : Nat → Nat → Int32) (g : Nat → Nat), Iv S F 4 → sK S 0 = 0 → (∀ j, g j < 4096) → VB 123 RL cL_law 17 (some .boolean) wsL_law roomB (vXL s0 L xs) (tyl c d) (qF 123) (6882) (41292 + 1250) (wal a c S b d F g) 783 [(0, .ref (s0)), (1, .ref (a 0)), (2, .ref (b 0)), (3, .ref (b 1)), (4, .ref (b 2)), (5, .ref (b 3)), (6, .ref (b 4)), (7, .int (iZ 1)), (8, .int (iZ 54)), (9, .int (iZ 31)), (10, .int (iZ 0))] [] := by
  intro S F g hI hK hg
  obtain ⟨ho, hn, hm4, hM0, hG, hC⟩ := id hI
  refine VB_iload (q := 785) dL_law_783 7 rfl rfl ?_
  refine VB_if_eq (q := 788) (tgt := 968) dL_law_785 (by decide) (by decide) (fun hc => absurd hc (by decide)) (fun _ => ?_)
  refine VB_aload_n (q := 789) dL_law_788 1 rfl rfl ?_
  refine VB_aload_n (q := 790) dL_law_789 2 rfl rfl ?_
  refine VB_aload_n (q := 791) dL_law_790 3 rfl rfl ?_
  refine VB_aload (q := 793) dL_law_791 6 rfl rfl ?_
  refine VB_callU (q := 796) dL_law_793 (u_areThings (a := a) (c := c) (S := S) (b := b) (d := d) (F := F) hI hg) yv_L_areThings rfl gL_law_L_areThings xU_L rfl (Nat.le_of_ble_eq_true rfl) (by decide) ⟨by show _ ≤ 20000; omega, by show _ ≤ 130000; omega⟩ (fun x793 g793 hP793 hg793 => ?_)
  refine VB_lo (lo' := 123) (Nat.le_add_right _ _) ?_
  have J968 : ∀ (gj968 : Nat → Nat), (∀ j, gj968 j < 4096) → VB 123 RL cL_law 17 (some .boolean) wsL_law roomB (vXL s0 L xs) (tyl c d) (qF 123) (7102) (42612 + 1250) (wal a c S b d F gj968) 968 [(0, .ref (s0)), (1, .ref (a 0)), (2, .ref (b 0)), (3, .ref (b 1)), (4, .ref (b 2)), (5, .ref (b 3)), (6, .ref (b 4)), (7, .int (iZ 1)), (8, .int (iZ 54)), (9, .int (iZ 31)), (10, .int (iZ 0))] [] := by
    intro gj968 hgj968
    refine VB_iconst (q := 969) dL_law_968 rfl ?_
    refine VB_istore (q := 971) (lv' := [(0, _), (1, _), (2, _), (3, _), (4, _), (5, _), (6, _), (7, _), (8, _), (9, _), (10, _)]) dL_law_969 (by decide) rfl rfl ?_
    refine VB_iinc (q := 974) (y := 55) (lv' := [(0, _), (1, _), (2, _), (3, _), (4, _), (5, _), (6, _), (7, _), (8, _), (9, _), (10, _)]) dL_law_971 8 rfl (by omega) (by decide) rfl rfl ?_
    refine VB_goto (tgt := 64) dL_law_974 (by decide) ?_
    refine VB_iload (q := 66) dL_law_64 8 rfl rfl ?_
    refine VB_bipush (q := 68) dL_law_66 (by decide) rfl ?_
    refine VB_icmp_ge (q := 71) (tgt := 977) dL_law_68 (by decide) (by decide) (by decide) (fun hc => absurd hc (by decide)) (fun _ => ?_)
    refine VB_iload (q := 73) dL_law_71 7 rfl rfl ?_
    refine VB_if_eq (q := 76) (tgt := 977) dL_law_73 (by decide) (by decide) (fun _ => ?_) (fun hc => absurd hc (by decide))
    refine VB_iload (q := 979) dL_law_977 7 rfl rfl ?_
    exact VB_ret0 dL_law_979 rfl
  refine VB_uif_eq (q := 799) (tgt := 968) dL_law_796 (by decide) ?_ ?_
  · skip
    exact VB_widen (by omega) (by omega) (J968 g793 hg793)
  · skip
    refine VB_iload (q := 801) dL_law_799 8 rfl rfl ?_
    refine VB_iconst (q := 802) dL_law_801 rfl ?_
    refine VB_irem (q := 803) (a := 54) (b := 2) dL_law_802 (by omega) (by decide) (by decide) rfl ?_
    refine VB_top (y := iZ 0) rfl ?_
    refine VB_if_gt (q := 806) (tgt := 833) dL_law_803 (by decide) (by decide) (fun hc => absurd hc (by decide)) (fun _ => ?_)
    refine VB_aload_n (q := 807) dL_law_806 1 rfl rfl ?_
    refine VB_aload_n (q := 808) dL_law_807 2 rfl rfl ?_
    refine VB_aload_n (q := 809) dL_law_808 3 rfl rfl ?_
    refine VB_aload (q := 811) dL_law_809 4 rfl rfl ?_
    refine VB_aload (q := 813) dL_law_811 6 rfl rfl ?_
    refine VB_iload (q := 815) dL_law_813 10 rfl rfl ?_
    refine VB_bipush (q := 817) dL_law_815 (by decide) rfl ?_
    refine VB_irem (q := 818) (a := 0) (b := 31) dL_law_817 (by omega) (by decide) (by decide) rfl ?_
    refine VB_top (y := iZ 0) rfl ?_
    refine VB_iload (q := 820) dL_law_818 10 rfl rfl ?_
    refine VB_bipush (q := 822) dL_law_820 (by decide) rfl ?_
    refine VB_idiv (q := 823) (a := 0) (b := 31) dL_law_822 (by omega) (by decide) (by decide) rfl ?_
    refine VB_top (y := iZ 0) rfl ?_
    refine VB_sipush (q := 826) dL_law_823 (by decide) rfl ?_
    refine VB_irem (q := 827) (a := 0) (b := 256) dL_law_826 (by omega) (by decide) (by decide) rfl ?_
    refine VB_top (y := iZ 0) rfl ?_
    refine VB_callU (q := 830) dL_law_827 (u_areOutfits (a := a) (c := c) (S := S) (b := b) (d := d) (F := F) hI hg793) yv_L_areOutfits rfl gL_law_L_areOutfits xU_L rfl (Nat.le_of_ble_eq_true rfl) (by decide) ⟨by show _ ≤ 20000; omega, by show _ ≤ 130000; omega⟩ (fun x827 g827 hP827 hg827 => ?_)
    refine VB_lo (lo' := 123) (Nat.le_add_right _ _) ?_
    refine VB_uif_eq (q := 833) (tgt := 968) dL_law_830 (by decide) ?_ ?_
    · skip
      exact VB_widen (by omega) (by omega) (J968 g827 hg827)
    · skip
      refine VB_aload_n (q := 834) dL_law_833 1 rfl rfl ?_
      refine VB_aload_n (q := 835) dL_law_834 2 rfl rfl ?_
      refine VB_aload_n (q := 836) dL_law_835 3 rfl rfl ?_
      refine VB_aload (q := 838) dL_law_836 4 rfl rfl ?_
      refine VB_aload (q := 840) dL_law_838 6 rfl rfl ?_
      refine VB_callU (q := 843) dL_law_840 (u_isMissing (a := a) (c := c) (S := S) (b := b) (d := d) (F := F) hI hg827) yv_L_isMissing rfl gL_law_L_isMissing xU_L rfl (Nat.le_of_ble_eq_true rfl) (by decide) ⟨by show _ ≤ 20000; omega, by show _ ≤ 130000; omega⟩ (fun x840 g840 hP840 hg840 => ?_)
      refine VB_lo (lo' := 123) (Nat.le_add_right _ _) ?_
      refine VB_uif_eq (q := 846) (tgt := 968) dL_law_843 (by decide) ?_ ?_
      · skip
        exact VB_widen (by omega) (by omega) (J968 g840 hg840)
      · skip
        refine VB_aload_n (q := 847) dL_law_846 1 rfl rfl ?_
        refine VB_aload_n (q := 848) dL_law_847 2 rfl rfl ?_
        refine VB_aload (q := 850) dL_law_848 6 rfl rfl ?_
        refine VB_iload (q := 852) dL_law_850 10 rfl rfl ?_
        refine VB_aload (q := 854) dL_law_852 6 rfl rfl ?_
        refine VB_iconst (q := 855) dL_law_854 rfl ?_
        refine VB_iald (q := 856) (v := (iZ 4)) dL_law_855 13 12 rfl rfl (0) (by omega) (by omega) (by decide) (hM0) rfl ?_
        refine VB_iconst (q := 857) dL_law_856 rfl ?_
        refine VB_iadd (q := 858) dL_law_857 rfl ?_
        refine VB_top (y := iZ 5) rfl ?_
        refine VB_irem (q := 859) (a := 0) (b := 5) dL_law_858 (by omega) (by decide) (by decide) rfl ?_
        refine VB_top (y := iZ 0) rfl ?_
        refine VB_iload (q := 861) dL_law_859 10 rfl rfl ?_
        refine VB_bipush (q := 863) dL_law_861 (by decide) rfl ?_
        refine VB_idiv (q := 864) (a := 0) (b := 13) dL_law_863 (by omega) (by decide) (by decide) rfl ?_
        refine VB_top (y := iZ 0) rfl ?_
        refine VB_aload (q := 866) dL_law_864 6 rfl rfl ?_
        refine VB_iconst (q := 867) dL_law_866 rfl ?_
        refine VB_iald (q := 868) (v := (iZ 4)) dL_law_867 13 12 rfl rfl (0) (by omega) (by omega) (by decide) (hM0) rfl ?_
        refine VB_iconst (q := 869) dL_law_868 rfl ?_
        refine VB_iadd (q := 870) dL_law_869 rfl ?_
        refine VB_top (y := iZ 5) rfl ?_
        refine VB_irem (q := 871) (a := 0) (b := 5) dL_law_870 (by omega) (by decide) (by decide) rfl ?_
        refine VB_top (y := iZ 0) rfl ?_
        refine VB_iload (q := 873) dL_law_871 10 rfl rfl ?_
        refine VB_sipush (q := 876) dL_law_873 (by decide) rfl ?_
        refine VB_idiv (q := 877) (a := 0) (b := 169) dL_law_876 (by omega) (by decide) (by decide) rfl ?_
        refine VB_top (y := iZ 0) rfl ?_
        refine VB_aload (q := 879) dL_law_877 6 rfl rfl ?_
        refine VB_iconst (q := 880) dL_law_879 rfl ?_
        refine VB_iald (q := 881) (v := (iZ 4)) dL_law_880 13 12 rfl rfl (0) (by omega) (by omega) (by decide) (hM0) rfl ?_
        refine VB_iconst (q := 882) dL_law_881 rfl ?_
        refine VB_iadd (q := 883) dL_law_882 rfl ?_
        refine VB_top (y := iZ 6) rfl ?_
        refine VB_irem (q := 884) (a := 0) (b := 6) dL_law_883 (by omega) (by decide) (by decide) rfl ?_
        refine VB_top (y := iZ 0) rfl ?_
        refine VB_iconst (q := 885) dL_law_884 rfl ?_
        refine VB_isub (q := 886) dL_law_885 rfl ?_
        refine VB_top (y := iZ (-1)) rfl ?_
        refine VB_callU (q := 889) dL_law_886 (u_isWrong (a := a) (c := c) (S := S) (b := b) (d := d) (F := F) hI (wr0 hI (by decide) hK) hg840) yv_L_isWrong rfl gL_law_L_isWrong xU_L rfl (Nat.le_of_ble_eq_true rfl) (by decide) ⟨by show _ ≤ 20000; omega, by show _ ≤ 130000; omega⟩ (fun x886 g886 hP886 hg886 => ?_)
        refine VB_em (x := x886) (fun e886 => VB_lo (lo' := 123) (Nat.le_add_right _ _) (VB_top (y := iZ 0) e886 ?_)) (fun e886 => VB_lo (lo' := 125) (by show 125 ≤ 123 + (if x886 = 0 then 0 else 2); rw [if_neg e886]; omega) ?_)
        · skip
          refine VB_if_eq (q := 892) (tgt := 968) dL_law_889 (by decide) (by decide) (fun _ => ?_) (fun hc => absurd hc (by decide))
          exact VB_widen (by omega) (by omega) (J968 g886 hg886)
        · skip
          refine VB_uif_eq (q := 892) (tgt := 968) dL_law_889 (by decide) ?_ ?_
          · skip
            refine VB_lo (lo' := 123) (by omega) ?_
            exact VB_widen (by omega) (by omega) (J968 g886 hg886)
          · skip
            refine VB_iload (q := 894) dL_law_892 8 rfl rfl ?_
            refine VB_bipush (q := 896) dL_law_894 (by decide) rfl ?_
            refine VB_irem (q := 897) (a := 54) (b := 16) dL_law_896 (by omega) (by decide) (by decide) rfl ?_
            refine VB_top (y := iZ 6) rfl ?_
            refine VB_if_gt (q := 900) (tgt := 943) dL_law_897 (by decide) (by decide) (fun _ => ?_) (fun hc => absurd hc (by decide))
            refine VB_iload (q := 945) dL_law_943 8 rfl rfl ?_
            refine VB_bipush (q := 947) dL_law_945 (by decide) rfl ?_
            refine VB_irem (q := 948) (a := 54) (b := 20) dL_law_947 (by omega) (by decide) (by decide) rfl ?_
            refine VB_top (y := iZ 14) rfl ?_
            refine VB_if_gt (q := 951) (tgt := 964) dL_law_948 (by decide) (by decide) (fun _ => ?_) (fun hc => absurd hc (by decide))
            refine VB_iconst (q := 965) dL_law_964 rfl ?_
            refine VB_goto (tgt := 969) dL_law_965 (by decide) ?_
            refine VB_istore (q := 971) (lv' := [(0, _), (1, _), (2, _), (3, _), (4, _), (5, _), (6, _), (7, _), (8, _), (9, _), (10, _)]) dL_law_969 (by decide) rfl rfl ?_
            refine VB_iinc (q := 974) (y := 55) (lv' := [(0, _), (1, _), (2, _), (3, _), (4, _), (5, _), (6, _), (7, _), (8, _), (9, _), (10, _)]) dL_law_971 8 rfl (by omega) (by decide) rfl rfl ?_
            refine VB_goto (tgt := 64) dL_law_974 (by decide) ?_
            refine VB_loc (lv' := [(0, _), (1, _), (2, _), (3, _), (4, _), (5, _), (6, _), (7, _), (8, _)]) [0, 1, 2, 3, 4, 5, 6, 7, 8] rfl ?_
            refine VB_lo (lo' := 123) (by omega) ?_
            exact VB_widen (by omega) (by omega) (rd55 hL h16 hx S F g886 hI (fun _ => hK) hg886)
set_option maxRecDepth 100000 in
set_option maxHeartbeats 8000000 in
theorem rd54 {s0 L : Nat} {xs : Nat → Int32} {a : Nat → Nat} {c : Nat → ClassId} {b : Nat → Nat} {d : Nat → ClassId} (hL : L ≤ 260) (h16 : 80 ≤ L) (hx : ∀ j, j < 80 → xs j = 31) : ∀ (S : St) (F : Nat → Nat → Int32) (g : Nat → Nat), Iv S F 4 → (0 < 54 → sK S 0 = 0) → (∀ j, g j < 4096) → VB 123 RL cL_law 17 (some .boolean) wsL_law roomB (vXL s0 L xs) (tyl c d) (qF 123) (6882) (41292 + 1250) (wal a c S b d F g) 64 [(0, .ref (s0)), (1, .ref (a 0)), (2, .ref (b 0)), (3, .ref (b 1)), (4, .ref (b 2)), (5, .ref (b 3)), (6, .ref (b 4)), (7, .int (iZ 1)), (8, .int (iZ 54))] [] := by
  intro S F g hI hK hg
  obtain ⟨ho, hn, hm4, hM0, hG, hC⟩ := id hI
  refine VB_iload (q := 66) dL_law_64 8 rfl rfl ?_
  refine VB_bipush (q := 68) dL_law_66 (by decide) rfl ?_
  refine VB_icmp_ge (q := 71) (tgt := 977) dL_law_68 (by decide) (by decide) (by decide) (fun hc => absurd hc (by decide)) (fun _ => ?_)
  refine VB_iload (q := 73) dL_law_71 7 rfl rfl ?_
  refine VB_if_eq (q := 76) (tgt := 977) dL_law_73 (by decide) (by decide) (fun hc => absurd hc (by decide)) (fun _ => ?_)
  refine VB_aload_n (q := 77) dL_law_76 0 rfl rfl ?_
  refine VB_iload (q := 79) dL_law_77 8 rfl rfl ?_
  refine VB_callD (q := 82) dL_law_79 (u_dice (b := s0) (L := L) (xs := xs) 54 (by omega) hL (hx 54 (by omega))) yv_L_dice rfl gL_law_L_dice xL_s rfl (Nat.le_of_ble_eq_true rfl) (by decide) ⟨by show _ ≤ 20000; omega, by show _ ≤ 130000; omega⟩ ?_
  refine VB_istore (q := 84) (lv' := [(0, _), (1, _), (2, _), (3, _), (4, _), (5, _), (6, _), (7, _), (8, _), (9, _)]) dL_law_82 (by decide) rfl rfl ?_
  refine VB_iload (q := 86) dL_law_84 9 rfl rfl ?_
  refine VB_bipush (q := 88) dL_law_86 (by decide) rfl ?_
  refine VB_idiv (q := 89) (a := 31) (b := 32) dL_law_88 (by omega) (by decide) (by decide) rfl ?_
  refine VB_top (y := iZ 0) rfl ?_
  refine VB_istore (q := 91) (lv' := [(0, _), (1, _), (2, _), (3, _), (4, _), (5, _), (6, _), (7, _), (8, _), (9, _), (10, _)]) dL_law_89 (by decide) rfl rfl ?_
  refine VB_iload (q := 93) dL_law_91 9 rfl rfl ?_
  refine VB_bipush (q := 95) dL_law_93 (by decide) rfl ?_
  refine VB_irem (q := 96) (a := 31) (b := 32) dL_law_95 (by omega) (by decide) (by decide) rfl ?_
  refine VB_top (y := iZ 31) rfl ?_
  refine VB_istore (q := 98) (lv' := [(0, _), (1, _), (2, _), (3, _), (4, _), (5, _), (6, _), (7, _), (8, _), (9, _), (10, _), (11, _)]) dL_law_96 (by decide) rfl rfl ?_
  refine VB_aload (q := 100) dL_law_98 6 rfl rfl ?_
  refine VB_iconst (q := 101) dL_law_100 rfl ?_
  refine VB_iald (q := 102) (v := (iZ 4)) dL_law_101 13 12 rfl rfl (0) (by omega) (by omega) (by decide) (hM0) rfl ?_
  refine VB_if_ne (q := 105) (tgt := 109) dL_law_102 (by decide) (by decide) (fun _ => ?_) (fun hc => absurd hc (by decide))
  refine VB_iload (q := 111) dL_law_109 10 rfl rfl ?_
  refine VB_aload (q := 113) dL_law_111 6 rfl rfl ?_
  refine VB_iconst (q := 114) dL_law_113 rfl ?_
  refine VB_iald (q := 115) (v := (iZ 4)) dL_law_114 13 12 rfl rfl (0) (by omega) (by omega) (by decide) (hM0) rfl ?_
  refine VB_irem (q := 116) (a := 0) (b := 4) dL_law_115 (by omega) (by decide) (by decide) rfl ?_
  refine VB_top (y := iZ 0) rfl ?_
  refine VB_istore (q := 118) (lv' := [(0, _), (1, _), (2, _), (3, _), (4, _), (5, _), (6, _), (7, _), (8, _), (9, _), (10, _), (11, _), (12, _)]) dL_law_116 (by decide) rfl rfl ?_
  refine VB_aload (q := 120) dL_law_118 6 rfl rfl ?_
  refine VB_iconst (q := 121) dL_law_120 rfl ?_
  refine VB_iald (q := 122) (v := (iZ 4)) dL_law_121 13 12 rfl rfl (0) (by omega) (by omega) (by decide) (hM0) rfl ?_
  refine VB_iconst (q := 123) dL_law_122 rfl ?_
  refine VB_icmp_lt (q := 126) (tgt := 141) dL_law_123 (by decide) (by decide) (by decide) (fun hc => absurd hc (by decide)) (fun _ => ?_)
  refine VB_iload (q := 128) dL_law_126 11 rfl rfl ?_
  refine VB_iconst (q := 129) dL_law_128 rfl ?_
  refine VB_icmp_ge (q := 132) (tgt := 326) dL_law_129 (by decide) (by decide) (by decide) (fun _ => ?_) (fun hc => absurd hc (by decide))
  refine VB_iload (q := 328) dL_law_326 11 rfl rfl ?_
  refine VB_bipush (q := 330) dL_law_328 (by decide) rfl ?_
  refine VB_icmp_ge (q := 333) (tgt := 451) dL_law_330 (by decide) (by decide) (by decide) (fun _ => ?_) (fun hc => absurd hc (by decide))
  refine VB_iload (q := 453) dL_law_451 11 rfl rfl ?_
  refine VB_bipush (q := 455) dL_law_453 (by decide) rfl ?_
  refine VB_icmp_ge (q := 458) (tgt := 603) dL_law_455 (by decide) (by decide) (by decide) (fun _ => ?_) (fun hc => absurd hc (by decide))
  refine VB_iload (q := 605) dL_law_603 11 rfl rfl ?_
  refine VB_bipush (q := 607) dL_law_605 (by decide) rfl ?_
  refine VB_icmp_ge (q := 610) (tgt := 633) dL_law_607 (by decide) (by decide) (by decide) (fun _ => ?_) (fun hc => absurd hc (by decide))
  refine VB_iload (q := 635) dL_law_633 11 rfl rfl ?_
  refine VB_bipush (q := 637) dL_law_635 (by decide) rfl ?_
  refine VB_icmp_ge (q := 640) (tgt := 677) dL_law_637 (by decide) (by decide) (by decide) (fun _ => ?_) (fun hc => absurd hc (by decide))
  refine VB_iload (q := 679) dL_law_677 11 rfl rfl ?_
  refine VB_bipush (q := 681) dL_law_679 (by decide) rfl ?_
  refine VB_icmp_ne (q := 684) (tgt := 783) dL_law_681 (by decide) (by decide) (by decide) (fun _ => ?_) (fun hc => absurd hc (by decide))
  refine VB_loc (lv' := [(0, _), (1, _), (2, _), (3, _), (4, _), (5, _), (6, _), (7, _), (8, _), (9, _), (10, _)]) [0, 1, 2, 3, 4, 5, 6, 7, 8, 9, 10] rfl ?_
  exact VB_widen (by omega) (by omega) (ck54 hL h16 hx S F g hI (hK (by decide)) hg)
set_option maxRecDepth 100000 in
set_option maxHeartbeats 8000000 in
theorem ck53 {s0 L : Nat} {xs : Nat → Int32} {a : Nat → Nat} {c : Nat → ClassId} {b : Nat → Nat} {d : Nat → ClassId} (hL : L ≤ 260) (h16 : 80 ≤ L) (hx : ∀ j, j < 80 → xs j = 31) : ∀ (S : St) (F : Nat → Nat → Int32) (g : Nat → Nat), Iv S F 4 → sK S 0 = 0 → (∀ j, g j < 4096) → VB 123 RL cL_law 17 (some .boolean) wsL_law roomB (vXL s0 L xs) (tyl c d) (qF 123) (6862) (41172 + 1250) (wal a c S b d F g) 783 [(0, .ref (s0)), (1, .ref (a 0)), (2, .ref (b 0)), (3, .ref (b 1)), (4, .ref (b 2)), (5, .ref (b 3)), (6, .ref (b 4)), (7, .int (iZ 1)), (8, .int (iZ 53)), (9, .int (iZ 31)), (10, .int (iZ 0))] [] := by
  intro S F g hI hK hg
  obtain ⟨ho, hn, hm4, hM0, hG, hC⟩ := id hI
  refine VB_iload (q := 785) dL_law_783 7 rfl rfl ?_
  refine VB_if_eq (q := 788) (tgt := 968) dL_law_785 (by decide) (by decide) (fun hc => absurd hc (by decide)) (fun _ => ?_)
  refine VB_aload_n (q := 789) dL_law_788 1 rfl rfl ?_
  refine VB_aload_n (q := 790) dL_law_789 2 rfl rfl ?_
  refine VB_aload_n (q := 791) dL_law_790 3 rfl rfl ?_
  refine VB_aload (q := 793) dL_law_791 6 rfl rfl ?_
  refine VB_callU (q := 796) dL_law_793 (u_areThings (a := a) (c := c) (S := S) (b := b) (d := d) (F := F) hI hg) yv_L_areThings rfl gL_law_L_areThings xU_L rfl (Nat.le_of_ble_eq_true rfl) (by decide) ⟨by show _ ≤ 20000; omega, by show _ ≤ 130000; omega⟩ (fun x793 g793 hP793 hg793 => ?_)
  refine VB_lo (lo' := 123) (Nat.le_add_right _ _) ?_
  have J968 : ∀ (gj968 : Nat → Nat), (∀ j, gj968 j < 4096) → VB 123 RL cL_law 17 (some .boolean) wsL_law roomB (vXL s0 L xs) (tyl c d) (qF 123) (6882) (41292 + 1250) (wal a c S b d F gj968) 968 [(0, .ref (s0)), (1, .ref (a 0)), (2, .ref (b 0)), (3, .ref (b 1)), (4, .ref (b 2)), (5, .ref (b 3)), (6, .ref (b 4)), (7, .int (iZ 1)), (8, .int (iZ 53)), (9, .int (iZ 31)), (10, .int (iZ 0))] [] := by
    intro gj968 hgj968
    refine VB_iconst (q := 969) dL_law_968 rfl ?_
    refine VB_istore (q := 971) (lv' := [(0, _), (1, _), (2, _), (3, _), (4, _), (5, _), (6, _), (7, _), (8, _), (9, _), (10, _)]) dL_law_969 (by decide) rfl rfl ?_
    refine VB_iinc (q := 974) (y := 54) (lv' := [(0, _), (1, _), (2, _), (3, _), (4, _), (5, _), (6, _), (7, _), (8, _), (9, _), (10, _)]) dL_law_971 8 rfl (by omega) (by decide) rfl rfl ?_
    refine VB_goto (tgt := 64) dL_law_974 (by decide) ?_
    refine VB_iload (q := 66) dL_law_64 8 rfl rfl ?_
    refine VB_bipush (q := 68) dL_law_66 (by decide) rfl ?_
    refine VB_icmp_ge (q := 71) (tgt := 977) dL_law_68 (by decide) (by decide) (by decide) (fun hc => absurd hc (by decide)) (fun _ => ?_)
    refine VB_iload (q := 73) dL_law_71 7 rfl rfl ?_
    refine VB_if_eq (q := 76) (tgt := 977) dL_law_73 (by decide) (by decide) (fun _ => ?_) (fun hc => absurd hc (by decide))
    refine VB_iload (q := 979) dL_law_977 7 rfl rfl ?_
    exact VB_ret0 dL_law_979 rfl
  refine VB_uif_eq (q := 799) (tgt := 968) dL_law_796 (by decide) ?_ ?_
  · skip
    exact VB_widen (by omega) (by omega) (J968 g793 hg793)
  · skip
    refine VB_iload (q := 801) dL_law_799 8 rfl rfl ?_
    refine VB_iconst (q := 802) dL_law_801 rfl ?_
    refine VB_irem (q := 803) (a := 53) (b := 2) dL_law_802 (by omega) (by decide) (by decide) rfl ?_
    refine VB_top (y := iZ 1) rfl ?_
    refine VB_if_gt (q := 806) (tgt := 833) dL_law_803 (by decide) (by decide) (fun _ => ?_) (fun hc => absurd hc (by decide))
    refine VB_aload_n (q := 834) dL_law_833 1 rfl rfl ?_
    refine VB_aload_n (q := 835) dL_law_834 2 rfl rfl ?_
    refine VB_aload_n (q := 836) dL_law_835 3 rfl rfl ?_
    refine VB_aload (q := 838) dL_law_836 4 rfl rfl ?_
    refine VB_aload (q := 840) dL_law_838 6 rfl rfl ?_
    refine VB_callU (q := 843) dL_law_840 (u_isMissing (a := a) (c := c) (S := S) (b := b) (d := d) (F := F) hI hg793) yv_L_isMissing rfl gL_law_L_isMissing xU_L rfl (Nat.le_of_ble_eq_true rfl) (by decide) ⟨by show _ ≤ 20000; omega, by show _ ≤ 130000; omega⟩ (fun x840 g840 hP840 hg840 => ?_)
    refine VB_lo (lo' := 123) (Nat.le_add_right _ _) ?_
    refine VB_uif_eq (q := 846) (tgt := 968) dL_law_843 (by decide) ?_ ?_
    · skip
      exact VB_widen (by omega) (by omega) (J968 g840 hg840)
    · skip
      refine VB_aload_n (q := 847) dL_law_846 1 rfl rfl ?_
      refine VB_aload_n (q := 848) dL_law_847 2 rfl rfl ?_
      refine VB_aload (q := 850) dL_law_848 6 rfl rfl ?_
      refine VB_iload (q := 852) dL_law_850 10 rfl rfl ?_
      refine VB_aload (q := 854) dL_law_852 6 rfl rfl ?_
      refine VB_iconst (q := 855) dL_law_854 rfl ?_
      refine VB_iald (q := 856) (v := (iZ 4)) dL_law_855 13 12 rfl rfl (0) (by omega) (by omega) (by decide) (hM0) rfl ?_
      refine VB_iconst (q := 857) dL_law_856 rfl ?_
      refine VB_iadd (q := 858) dL_law_857 rfl ?_
      refine VB_top (y := iZ 5) rfl ?_
      refine VB_irem (q := 859) (a := 0) (b := 5) dL_law_858 (by omega) (by decide) (by decide) rfl ?_
      refine VB_top (y := iZ 0) rfl ?_
      refine VB_iload (q := 861) dL_law_859 10 rfl rfl ?_
      refine VB_bipush (q := 863) dL_law_861 (by decide) rfl ?_
      refine VB_idiv (q := 864) (a := 0) (b := 13) dL_law_863 (by omega) (by decide) (by decide) rfl ?_
      refine VB_top (y := iZ 0) rfl ?_
      refine VB_aload (q := 866) dL_law_864 6 rfl rfl ?_
      refine VB_iconst (q := 867) dL_law_866 rfl ?_
      refine VB_iald (q := 868) (v := (iZ 4)) dL_law_867 13 12 rfl rfl (0) (by omega) (by omega) (by decide) (hM0) rfl ?_
      refine VB_iconst (q := 869) dL_law_868 rfl ?_
      refine VB_iadd (q := 870) dL_law_869 rfl ?_
      refine VB_top (y := iZ 5) rfl ?_
      refine VB_irem (q := 871) (a := 0) (b := 5) dL_law_870 (by omega) (by decide) (by decide) rfl ?_
      refine VB_top (y := iZ 0) rfl ?_
      refine VB_iload (q := 873) dL_law_871 10 rfl rfl ?_
      refine VB_sipush (q := 876) dL_law_873 (by decide) rfl ?_
      refine VB_idiv (q := 877) (a := 0) (b := 169) dL_law_876 (by omega) (by decide) (by decide) rfl ?_
      refine VB_top (y := iZ 0) rfl ?_
      refine VB_aload (q := 879) dL_law_877 6 rfl rfl ?_
      refine VB_iconst (q := 880) dL_law_879 rfl ?_
      refine VB_iald (q := 881) (v := (iZ 4)) dL_law_880 13 12 rfl rfl (0) (by omega) (by omega) (by decide) (hM0) rfl ?_
      refine VB_iconst (q := 882) dL_law_881 rfl ?_
      refine VB_iadd (q := 883) dL_law_882 rfl ?_
      refine VB_top (y := iZ 6) rfl ?_
      refine VB_irem (q := 884) (a := 0) (b := 6) dL_law_883 (by omega) (by decide) (by decide) rfl ?_
      refine VB_top (y := iZ 0) rfl ?_
      refine VB_iconst (q := 885) dL_law_884 rfl ?_
      refine VB_isub (q := 886) dL_law_885 rfl ?_
      refine VB_top (y := iZ (-1)) rfl ?_
      refine VB_callU (q := 889) dL_law_886 (u_isWrong (a := a) (c := c) (S := S) (b := b) (d := d) (F := F) hI (wr0 hI (by decide) hK) hg840) yv_L_isWrong rfl gL_law_L_isWrong xU_L rfl (Nat.le_of_ble_eq_true rfl) (by decide) ⟨by show _ ≤ 20000; omega, by show _ ≤ 130000; omega⟩ (fun x886 g886 hP886 hg886 => ?_)
      refine VB_em (x := x886) (fun e886 => VB_lo (lo' := 123) (Nat.le_add_right _ _) (VB_top (y := iZ 0) e886 ?_)) (fun e886 => VB_lo (lo' := 125) (by show 125 ≤ 123 + (if x886 = 0 then 0 else 2); rw [if_neg e886]; omega) ?_)
      · skip
        refine VB_if_eq (q := 892) (tgt := 968) dL_law_889 (by decide) (by decide) (fun _ => ?_) (fun hc => absurd hc (by decide))
        exact VB_widen (by omega) (by omega) (J968 g886 hg886)
      · skip
        refine VB_uif_eq (q := 892) (tgt := 968) dL_law_889 (by decide) ?_ ?_
        · skip
          refine VB_lo (lo' := 123) (by omega) ?_
          exact VB_widen (by omega) (by omega) (J968 g886 hg886)
        · skip
          refine VB_iload (q := 894) dL_law_892 8 rfl rfl ?_
          refine VB_bipush (q := 896) dL_law_894 (by decide) rfl ?_
          refine VB_irem (q := 897) (a := 53) (b := 16) dL_law_896 (by omega) (by decide) (by decide) rfl ?_
          refine VB_top (y := iZ 5) rfl ?_
          refine VB_if_gt (q := 900) (tgt := 943) dL_law_897 (by decide) (by decide) (fun _ => ?_) (fun hc => absurd hc (by decide))
          refine VB_iload (q := 945) dL_law_943 8 rfl rfl ?_
          refine VB_bipush (q := 947) dL_law_945 (by decide) rfl ?_
          refine VB_irem (q := 948) (a := 53) (b := 20) dL_law_947 (by omega) (by decide) (by decide) rfl ?_
          refine VB_top (y := iZ 13) rfl ?_
          refine VB_if_gt (q := 951) (tgt := 964) dL_law_948 (by decide) (by decide) (fun _ => ?_) (fun hc => absurd hc (by decide))
          refine VB_iconst (q := 965) dL_law_964 rfl ?_
          refine VB_goto (tgt := 969) dL_law_965 (by decide) ?_
          refine VB_istore (q := 971) (lv' := [(0, _), (1, _), (2, _), (3, _), (4, _), (5, _), (6, _), (7, _), (8, _), (9, _), (10, _)]) dL_law_969 (by decide) rfl rfl ?_
          refine VB_iinc (q := 974) (y := 54) (lv' := [(0, _), (1, _), (2, _), (3, _), (4, _), (5, _), (6, _), (7, _), (8, _), (9, _), (10, _)]) dL_law_971 8 rfl (by omega) (by decide) rfl rfl ?_
          refine VB_goto (tgt := 64) dL_law_974 (by decide) ?_
          refine VB_loc (lv' := [(0, _), (1, _), (2, _), (3, _), (4, _), (5, _), (6, _), (7, _), (8, _)]) [0, 1, 2, 3, 4, 5, 6, 7, 8] rfl ?_
          refine VB_lo (lo' := 123) (by omega) ?_
          exact VB_widen (by omega) (by omega) (rd54 hL h16 hx S F g886 hI (fun _ => hK) hg886)
set_option maxRecDepth 100000 in
set_option maxHeartbeats 8000000 in
theorem rd53 {s0 L : Nat} {xs : Nat → Int32} {a : Nat → Nat} {c : Nat → ClassId} {b : Nat → Nat} {d : Nat → ClassId} (hL : L ≤ 260) (h16 : 80 ≤ L) (hx : ∀ j, j < 80 → xs j = 31) : ∀ (S : St) (F : Nat → Nat → Int32) (g : Nat → Nat), Iv S F 4 → (0 < 53 → sK S 0 = 0) → (∀ j, g j < 4096) → VB 123 RL cL_law 17 (some .boolean) wsL_law roomB (vXL s0 L xs) (tyl c d) (qF 123) (6862) (41172 + 1250) (wal a c S b d F g) 64 [(0, .ref (s0)), (1, .ref (a 0)), (2, .ref (b 0)), (3, .ref (b 1)), (4, .ref (b 2)), (5, .ref (b 3)), (6, .ref (b 4)), (7, .int (iZ 1)), (8, .int (iZ 53))] [] := by
  intro S F g hI hK hg
  obtain ⟨ho, hn, hm4, hM0, hG, hC⟩ := id hI
  refine VB_iload (q := 66) dL_law_64 8 rfl rfl ?_
  refine VB_bipush (q := 68) dL_law_66 (by decide) rfl ?_
  refine VB_icmp_ge (q := 71) (tgt := 977) dL_law_68 (by decide) (by decide) (by decide) (fun hc => absurd hc (by decide)) (fun _ => ?_)
  refine VB_iload (q := 73) dL_law_71 7 rfl rfl ?_
  refine VB_if_eq (q := 76) (tgt := 977) dL_law_73 (by decide) (by decide) (fun hc => absurd hc (by decide)) (fun _ => ?_)
  refine VB_aload_n (q := 77) dL_law_76 0 rfl rfl ?_
  refine VB_iload (q := 79) dL_law_77 8 rfl rfl ?_
  refine VB_callD (q := 82) dL_law_79 (u_dice (b := s0) (L := L) (xs := xs) 53 (by omega) hL (hx 53 (by omega))) yv_L_dice rfl gL_law_L_dice xL_s rfl (Nat.le_of_ble_eq_true rfl) (by decide) ⟨by show _ ≤ 20000; omega, by show _ ≤ 130000; omega⟩ ?_
  refine VB_istore (q := 84) (lv' := [(0, _), (1, _), (2, _), (3, _), (4, _), (5, _), (6, _), (7, _), (8, _), (9, _)]) dL_law_82 (by decide) rfl rfl ?_
  refine VB_iload (q := 86) dL_law_84 9 rfl rfl ?_
  refine VB_bipush (q := 88) dL_law_86 (by decide) rfl ?_
  refine VB_idiv (q := 89) (a := 31) (b := 32) dL_law_88 (by omega) (by decide) (by decide) rfl ?_
  refine VB_top (y := iZ 0) rfl ?_
  refine VB_istore (q := 91) (lv' := [(0, _), (1, _), (2, _), (3, _), (4, _), (5, _), (6, _), (7, _), (8, _), (9, _), (10, _)]) dL_law_89 (by decide) rfl rfl ?_
  refine VB_iload (q := 93) dL_law_91 9 rfl rfl ?_
  refine VB_bipush (q := 95) dL_law_93 (by decide) rfl ?_
  refine VB_irem (q := 96) (a := 31) (b := 32) dL_law_95 (by omega) (by decide) (by decide) rfl ?_
  refine VB_top (y := iZ 31) rfl ?_
  refine VB_istore (q := 98) (lv' := [(0, _), (1, _), (2, _), (3, _), (4, _), (5, _), (6, _), (7, _), (8, _), (9, _), (10, _), (11, _)]) dL_law_96 (by decide) rfl rfl ?_
  refine VB_aload (q := 100) dL_law_98 6 rfl rfl ?_
  refine VB_iconst (q := 101) dL_law_100 rfl ?_
  refine VB_iald (q := 102) (v := (iZ 4)) dL_law_101 13 12 rfl rfl (0) (by omega) (by omega) (by decide) (hM0) rfl ?_
  refine VB_if_ne (q := 105) (tgt := 109) dL_law_102 (by decide) (by decide) (fun _ => ?_) (fun hc => absurd hc (by decide))
  refine VB_iload (q := 111) dL_law_109 10 rfl rfl ?_
  refine VB_aload (q := 113) dL_law_111 6 rfl rfl ?_
  refine VB_iconst (q := 114) dL_law_113 rfl ?_
  refine VB_iald (q := 115) (v := (iZ 4)) dL_law_114 13 12 rfl rfl (0) (by omega) (by omega) (by decide) (hM0) rfl ?_
  refine VB_irem (q := 116) (a := 0) (b := 4) dL_law_115 (by omega) (by decide) (by decide) rfl ?_
  refine VB_top (y := iZ 0) rfl ?_
  refine VB_istore (q := 118) (lv' := [(0, _), (1, _), (2, _), (3, _), (4, _), (5, _), (6, _), (7, _), (8, _), (9, _), (10, _), (11, _), (12, _)]) dL_law_116 (by decide) rfl rfl ?_
  refine VB_aload (q := 120) dL_law_118 6 rfl rfl ?_
  refine VB_iconst (q := 121) dL_law_120 rfl ?_
  refine VB_iald (q := 122) (v := (iZ 4)) dL_law_121 13 12 rfl rfl (0) (by omega) (by omega) (by decide) (hM0) rfl ?_
  refine VB_iconst (q := 123) dL_law_122 rfl ?_
  refine VB_icmp_lt (q := 126) (tgt := 141) dL_law_123 (by decide) (by decide) (by decide) (fun hc => absurd hc (by decide)) (fun _ => ?_)
  refine VB_iload (q := 128) dL_law_126 11 rfl rfl ?_
  refine VB_iconst (q := 129) dL_law_128 rfl ?_
  refine VB_icmp_ge (q := 132) (tgt := 326) dL_law_129 (by decide) (by decide) (by decide) (fun _ => ?_) (fun hc => absurd hc (by decide))
  refine VB_iload (q := 328) dL_law_326 11 rfl rfl ?_
  refine VB_bipush (q := 330) dL_law_328 (by decide) rfl ?_
  refine VB_icmp_ge (q := 333) (tgt := 451) dL_law_330 (by decide) (by decide) (by decide) (fun _ => ?_) (fun hc => absurd hc (by decide))
  refine VB_iload (q := 453) dL_law_451 11 rfl rfl ?_
  refine VB_bipush (q := 455) dL_law_453 (by decide) rfl ?_
  refine VB_icmp_ge (q := 458) (tgt := 603) dL_law_455 (by decide) (by decide) (by decide) (fun _ => ?_) (fun hc => absurd hc (by decide))
  refine VB_iload (q := 605) dL_law_603 11 rfl rfl ?_
  refine VB_bipush (q := 607) dL_law_605 (by decide) rfl ?_
  refine VB_icmp_ge (q := 610) (tgt := 633) dL_law_607 (by decide) (by decide) (by decide) (fun _ => ?_) (fun hc => absurd hc (by decide))
  refine VB_iload (q := 635) dL_law_633 11 rfl rfl ?_
  refine VB_bipush (q := 637) dL_law_635 (by decide) rfl ?_
  refine VB_icmp_ge (q := 640) (tgt := 677) dL_law_637 (by decide) (by decide) (by decide) (fun _ => ?_) (fun hc => absurd hc (by decide))
  refine VB_iload (q := 679) dL_law_677 11 rfl rfl ?_
  refine VB_bipush (q := 681) dL_law_679 (by decide) rfl ?_
  refine VB_icmp_ne (q := 684) (tgt := 783) dL_law_681 (by decide) (by decide) (by decide) (fun _ => ?_) (fun hc => absurd hc (by decide))
  refine VB_loc (lv' := [(0, _), (1, _), (2, _), (3, _), (4, _), (5, _), (6, _), (7, _), (8, _), (9, _), (10, _)]) [0, 1, 2, 3, 4, 5, 6, 7, 8, 9, 10] rfl ?_
  exact VB_widen (by omega) (by omega) (ck53 hL h16 hx S F g hI (hK (by decide)) hg)
set_option maxRecDepth 100000 in
set_option maxHeartbeats 8000000 in
theorem ck52 {s0 L : Nat} {xs : Nat → Int32} {a : Nat → Nat} {c : Nat → ClassId} {b : Nat → Nat} {d : Nat → ClassId} (hL : L ≤ 260) (h16 : 80 ≤ L) (hx : ∀ j, j < 80 → xs j = 31) : ∀ (S : St) (F : Nat → Nat → Int32) (g : Nat → Nat), Iv S F 4 → sK S 0 = 0 → (∀ j, g j < 4096) → VB 123 RL cL_law 17 (some .boolean) wsL_law roomB (vXL s0 L xs) (tyl c d) (qF 123) (6642) (39852 + 1250) (wal a c S b d F g) 783 [(0, .ref (s0)), (1, .ref (a 0)), (2, .ref (b 0)), (3, .ref (b 1)), (4, .ref (b 2)), (5, .ref (b 3)), (6, .ref (b 4)), (7, .int (iZ 1)), (8, .int (iZ 52)), (9, .int (iZ 31)), (10, .int (iZ 0))] [] := by
  intro S F g hI hK hg
  obtain ⟨ho, hn, hm4, hM0, hG, hC⟩ := id hI
  refine VB_iload (q := 785) dL_law_783 7 rfl rfl ?_
  refine VB_if_eq (q := 788) (tgt := 968) dL_law_785 (by decide) (by decide) (fun hc => absurd hc (by decide)) (fun _ => ?_)
  refine VB_aload_n (q := 789) dL_law_788 1 rfl rfl ?_
  refine VB_aload_n (q := 790) dL_law_789 2 rfl rfl ?_
  refine VB_aload_n (q := 791) dL_law_790 3 rfl rfl ?_
  refine VB_aload (q := 793) dL_law_791 6 rfl rfl ?_
  refine VB_callU (q := 796) dL_law_793 (u_areThings (a := a) (c := c) (S := S) (b := b) (d := d) (F := F) hI hg) yv_L_areThings rfl gL_law_L_areThings xU_L rfl (Nat.le_of_ble_eq_true rfl) (by decide) ⟨by show _ ≤ 20000; omega, by show _ ≤ 130000; omega⟩ (fun x793 g793 hP793 hg793 => ?_)
  refine VB_lo (lo' := 123) (Nat.le_add_right _ _) ?_
  have J968 : ∀ (gj968 : Nat → Nat), (∀ j, gj968 j < 4096) → VB 123 RL cL_law 17 (some .boolean) wsL_law roomB (vXL s0 L xs) (tyl c d) (qF 123) (6862) (41172 + 1250) (wal a c S b d F gj968) 968 [(0, .ref (s0)), (1, .ref (a 0)), (2, .ref (b 0)), (3, .ref (b 1)), (4, .ref (b 2)), (5, .ref (b 3)), (6, .ref (b 4)), (7, .int (iZ 1)), (8, .int (iZ 52)), (9, .int (iZ 31)), (10, .int (iZ 0))] [] := by
    intro gj968 hgj968
    refine VB_iconst (q := 969) dL_law_968 rfl ?_
    refine VB_istore (q := 971) (lv' := [(0, _), (1, _), (2, _), (3, _), (4, _), (5, _), (6, _), (7, _), (8, _), (9, _), (10, _)]) dL_law_969 (by decide) rfl rfl ?_
    refine VB_iinc (q := 974) (y := 53) (lv' := [(0, _), (1, _), (2, _), (3, _), (4, _), (5, _), (6, _), (7, _), (8, _), (9, _), (10, _)]) dL_law_971 8 rfl (by omega) (by decide) rfl rfl ?_
    refine VB_goto (tgt := 64) dL_law_974 (by decide) ?_
    refine VB_iload (q := 66) dL_law_64 8 rfl rfl ?_
    refine VB_bipush (q := 68) dL_law_66 (by decide) rfl ?_
    refine VB_icmp_ge (q := 71) (tgt := 977) dL_law_68 (by decide) (by decide) (by decide) (fun hc => absurd hc (by decide)) (fun _ => ?_)
    refine VB_iload (q := 73) dL_law_71 7 rfl rfl ?_
    refine VB_if_eq (q := 76) (tgt := 977) dL_law_73 (by decide) (by decide) (fun _ => ?_) (fun hc => absurd hc (by decide))
    refine VB_iload (q := 979) dL_law_977 7 rfl rfl ?_
    exact VB_ret0 dL_law_979 rfl
  refine VB_uif_eq (q := 799) (tgt := 968) dL_law_796 (by decide) ?_ ?_
  · skip
    exact VB_widen (by omega) (by omega) (J968 g793 hg793)
  · skip
    refine VB_iload (q := 801) dL_law_799 8 rfl rfl ?_
    refine VB_iconst (q := 802) dL_law_801 rfl ?_
    refine VB_irem (q := 803) (a := 52) (b := 2) dL_law_802 (by omega) (by decide) (by decide) rfl ?_
    refine VB_top (y := iZ 0) rfl ?_
    refine VB_if_gt (q := 806) (tgt := 833) dL_law_803 (by decide) (by decide) (fun hc => absurd hc (by decide)) (fun _ => ?_)
    refine VB_aload_n (q := 807) dL_law_806 1 rfl rfl ?_
    refine VB_aload_n (q := 808) dL_law_807 2 rfl rfl ?_
    refine VB_aload_n (q := 809) dL_law_808 3 rfl rfl ?_
    refine VB_aload (q := 811) dL_law_809 4 rfl rfl ?_
    refine VB_aload (q := 813) dL_law_811 6 rfl rfl ?_
    refine VB_iload (q := 815) dL_law_813 10 rfl rfl ?_
    refine VB_bipush (q := 817) dL_law_815 (by decide) rfl ?_
    refine VB_irem (q := 818) (a := 0) (b := 31) dL_law_817 (by omega) (by decide) (by decide) rfl ?_
    refine VB_top (y := iZ 0) rfl ?_
    refine VB_iload (q := 820) dL_law_818 10 rfl rfl ?_
    refine VB_bipush (q := 822) dL_law_820 (by decide) rfl ?_
    refine VB_idiv (q := 823) (a := 0) (b := 31) dL_law_822 (by omega) (by decide) (by decide) rfl ?_
    refine VB_top (y := iZ 0) rfl ?_
    refine VB_sipush (q := 826) dL_law_823 (by decide) rfl ?_
    refine VB_irem (q := 827) (a := 0) (b := 256) dL_law_826 (by omega) (by decide) (by decide) rfl ?_
    refine VB_top (y := iZ 0) rfl ?_
    refine VB_callU (q := 830) dL_law_827 (u_areOutfits (a := a) (c := c) (S := S) (b := b) (d := d) (F := F) hI hg793) yv_L_areOutfits rfl gL_law_L_areOutfits xU_L rfl (Nat.le_of_ble_eq_true rfl) (by decide) ⟨by show _ ≤ 20000; omega, by show _ ≤ 130000; omega⟩ (fun x827 g827 hP827 hg827 => ?_)
    refine VB_lo (lo' := 123) (Nat.le_add_right _ _) ?_
    refine VB_uif_eq (q := 833) (tgt := 968) dL_law_830 (by decide) ?_ ?_
    · skip
      exact VB_widen (by omega) (by omega) (J968 g827 hg827)
    · skip
      refine VB_aload_n (q := 834) dL_law_833 1 rfl rfl ?_
      refine VB_aload_n (q := 835) dL_law_834 2 rfl rfl ?_
      refine VB_aload_n (q := 836) dL_law_835 3 rfl rfl ?_
      refine VB_aload (q := 838) dL_law_836 4 rfl rfl ?_
      refine VB_aload (q := 840) dL_law_838 6 rfl rfl ?_
      refine VB_callU (q := 843) dL_law_840 (u_isMissing (a := a) (c := c) (S := S) (b := b) (d := d) (F := F) hI hg827) yv_L_isMissing rfl gL_law_L_isMissing xU_L rfl (Nat.le_of_ble_eq_true rfl) (by decide) ⟨by show _ ≤ 20000; omega, by show _ ≤ 130000; omega⟩ (fun x840 g840 hP840 hg840 => ?_)
      refine VB_lo (lo' := 123) (Nat.le_add_right _ _) ?_
      refine VB_uif_eq (q := 846) (tgt := 968) dL_law_843 (by decide) ?_ ?_
      · skip
        exact VB_widen (by omega) (by omega) (J968 g840 hg840)
      · skip
        refine VB_aload_n (q := 847) dL_law_846 1 rfl rfl ?_
        refine VB_aload_n (q := 848) dL_law_847 2 rfl rfl ?_
        refine VB_aload (q := 850) dL_law_848 6 rfl rfl ?_
        refine VB_iload (q := 852) dL_law_850 10 rfl rfl ?_
        refine VB_aload (q := 854) dL_law_852 6 rfl rfl ?_
        refine VB_iconst (q := 855) dL_law_854 rfl ?_
        refine VB_iald (q := 856) (v := (iZ 4)) dL_law_855 13 12 rfl rfl (0) (by omega) (by omega) (by decide) (hM0) rfl ?_
        refine VB_iconst (q := 857) dL_law_856 rfl ?_
        refine VB_iadd (q := 858) dL_law_857 rfl ?_
        refine VB_top (y := iZ 5) rfl ?_
        refine VB_irem (q := 859) (a := 0) (b := 5) dL_law_858 (by omega) (by decide) (by decide) rfl ?_
        refine VB_top (y := iZ 0) rfl ?_
        refine VB_iload (q := 861) dL_law_859 10 rfl rfl ?_
        refine VB_bipush (q := 863) dL_law_861 (by decide) rfl ?_
        refine VB_idiv (q := 864) (a := 0) (b := 13) dL_law_863 (by omega) (by decide) (by decide) rfl ?_
        refine VB_top (y := iZ 0) rfl ?_
        refine VB_aload (q := 866) dL_law_864 6 rfl rfl ?_
        refine VB_iconst (q := 867) dL_law_866 rfl ?_
        refine VB_iald (q := 868) (v := (iZ 4)) dL_law_867 13 12 rfl rfl (0) (by omega) (by omega) (by decide) (hM0) rfl ?_
        refine VB_iconst (q := 869) dL_law_868 rfl ?_
        refine VB_iadd (q := 870) dL_law_869 rfl ?_
        refine VB_top (y := iZ 5) rfl ?_
        refine VB_irem (q := 871) (a := 0) (b := 5) dL_law_870 (by omega) (by decide) (by decide) rfl ?_
        refine VB_top (y := iZ 0) rfl ?_
        refine VB_iload (q := 873) dL_law_871 10 rfl rfl ?_
        refine VB_sipush (q := 876) dL_law_873 (by decide) rfl ?_
        refine VB_idiv (q := 877) (a := 0) (b := 169) dL_law_876 (by omega) (by decide) (by decide) rfl ?_
        refine VB_top (y := iZ 0) rfl ?_
        refine VB_aload (q := 879) dL_law_877 6 rfl rfl ?_
        refine VB_iconst (q := 880) dL_law_879 rfl ?_
        refine VB_iald (q := 881) (v := (iZ 4)) dL_law_880 13 12 rfl rfl (0) (by omega) (by omega) (by decide) (hM0) rfl ?_
        refine VB_iconst (q := 882) dL_law_881 rfl ?_
        refine VB_iadd (q := 883) dL_law_882 rfl ?_
        refine VB_top (y := iZ 6) rfl ?_
        refine VB_irem (q := 884) (a := 0) (b := 6) dL_law_883 (by omega) (by decide) (by decide) rfl ?_
        refine VB_top (y := iZ 0) rfl ?_
        refine VB_iconst (q := 885) dL_law_884 rfl ?_
        refine VB_isub (q := 886) dL_law_885 rfl ?_
        refine VB_top (y := iZ (-1)) rfl ?_
        refine VB_callU (q := 889) dL_law_886 (u_isWrong (a := a) (c := c) (S := S) (b := b) (d := d) (F := F) hI (wr0 hI (by decide) hK) hg840) yv_L_isWrong rfl gL_law_L_isWrong xU_L rfl (Nat.le_of_ble_eq_true rfl) (by decide) ⟨by show _ ≤ 20000; omega, by show _ ≤ 130000; omega⟩ (fun x886 g886 hP886 hg886 => ?_)
        refine VB_em (x := x886) (fun e886 => VB_lo (lo' := 123) (Nat.le_add_right _ _) (VB_top (y := iZ 0) e886 ?_)) (fun e886 => VB_lo (lo' := 125) (by show 125 ≤ 123 + (if x886 = 0 then 0 else 2); rw [if_neg e886]; omega) ?_)
        · skip
          refine VB_if_eq (q := 892) (tgt := 968) dL_law_889 (by decide) (by decide) (fun _ => ?_) (fun hc => absurd hc (by decide))
          exact VB_widen (by omega) (by omega) (J968 g886 hg886)
        · skip
          refine VB_uif_eq (q := 892) (tgt := 968) dL_law_889 (by decide) ?_ ?_
          · skip
            refine VB_lo (lo' := 123) (by omega) ?_
            exact VB_widen (by omega) (by omega) (J968 g886 hg886)
          · skip
            refine VB_iload (q := 894) dL_law_892 8 rfl rfl ?_
            refine VB_bipush (q := 896) dL_law_894 (by decide) rfl ?_
            refine VB_irem (q := 897) (a := 52) (b := 16) dL_law_896 (by omega) (by decide) (by decide) rfl ?_
            refine VB_top (y := iZ 4) rfl ?_
            refine VB_if_gt (q := 900) (tgt := 943) dL_law_897 (by decide) (by decide) (fun _ => ?_) (fun hc => absurd hc (by decide))
            refine VB_iload (q := 945) dL_law_943 8 rfl rfl ?_
            refine VB_bipush (q := 947) dL_law_945 (by decide) rfl ?_
            refine VB_irem (q := 948) (a := 52) (b := 20) dL_law_947 (by omega) (by decide) (by decide) rfl ?_
            refine VB_top (y := iZ 12) rfl ?_
            refine VB_if_gt (q := 951) (tgt := 964) dL_law_948 (by decide) (by decide) (fun _ => ?_) (fun hc => absurd hc (by decide))
            refine VB_iconst (q := 965) dL_law_964 rfl ?_
            refine VB_goto (tgt := 969) dL_law_965 (by decide) ?_
            refine VB_istore (q := 971) (lv' := [(0, _), (1, _), (2, _), (3, _), (4, _), (5, _), (6, _), (7, _), (8, _), (9, _), (10, _)]) dL_law_969 (by decide) rfl rfl ?_
            refine VB_iinc (q := 974) (y := 53) (lv' := [(0, _), (1, _), (2, _), (3, _), (4, _), (5, _), (6, _), (7, _), (8, _), (9, _), (10, _)]) dL_law_971 8 rfl (by omega) (by decide) rfl rfl ?_
            refine VB_goto (tgt := 64) dL_law_974 (by decide) ?_
            refine VB_loc (lv' := [(0, _), (1, _), (2, _), (3, _), (4, _), (5, _), (6, _), (7, _), (8, _)]) [0, 1, 2, 3, 4, 5, 6, 7, 8] rfl ?_
            refine VB_lo (lo' := 123) (by omega) ?_
            exact VB_widen (by omega) (by omega) (rd53 hL h16 hx S F g886 hI (fun _ => hK) hg886)
set_option maxRecDepth 100000 in
set_option maxHeartbeats 8000000 in
theorem rd52 {s0 L : Nat} {xs : Nat → Int32} {a : Nat → Nat} {c : Nat → ClassId} {b : Nat → Nat} {d : Nat → ClassId} (hL : L ≤ 260) (h16 : 80 ≤ L) (hx : ∀ j, j < 80 → xs j = 31) : ∀ (S : St) (F : Nat → Nat → Int32) (g : Nat → Nat), Iv S F 4 → (0 < 52 → sK S 0 = 0) → (∀ j, g j < 4096) → VB 123 RL cL_law 17 (some .boolean) wsL_law roomB (vXL s0 L xs) (tyl c d) (qF 123) (6642) (39852 + 1250) (wal a c S b d F g) 64 [(0, .ref (s0)), (1, .ref (a 0)), (2, .ref (b 0)), (3, .ref (b 1)), (4, .ref (b 2)), (5, .ref (b 3)), (6, .ref (b 4)), (7, .int (iZ 1)), (8, .int (iZ 52))] [] := by
  intro S F g hI hK hg
  obtain ⟨ho, hn, hm4, hM0, hG, hC⟩ := id hI
  refine VB_iload (q := 66) dL_law_64 8 rfl rfl ?_
  refine VB_bipush (q := 68) dL_law_66 (by decide) rfl ?_
  refine VB_icmp_ge (q := 71) (tgt := 977) dL_law_68 (by decide) (by decide) (by decide) (fun hc => absurd hc (by decide)) (fun _ => ?_)
  refine VB_iload (q := 73) dL_law_71 7 rfl rfl ?_
  refine VB_if_eq (q := 76) (tgt := 977) dL_law_73 (by decide) (by decide) (fun hc => absurd hc (by decide)) (fun _ => ?_)
  refine VB_aload_n (q := 77) dL_law_76 0 rfl rfl ?_
  refine VB_iload (q := 79) dL_law_77 8 rfl rfl ?_
  refine VB_callD (q := 82) dL_law_79 (u_dice (b := s0) (L := L) (xs := xs) 52 (by omega) hL (hx 52 (by omega))) yv_L_dice rfl gL_law_L_dice xL_s rfl (Nat.le_of_ble_eq_true rfl) (by decide) ⟨by show _ ≤ 20000; omega, by show _ ≤ 130000; omega⟩ ?_
  refine VB_istore (q := 84) (lv' := [(0, _), (1, _), (2, _), (3, _), (4, _), (5, _), (6, _), (7, _), (8, _), (9, _)]) dL_law_82 (by decide) rfl rfl ?_
  refine VB_iload (q := 86) dL_law_84 9 rfl rfl ?_
  refine VB_bipush (q := 88) dL_law_86 (by decide) rfl ?_
  refine VB_idiv (q := 89) (a := 31) (b := 32) dL_law_88 (by omega) (by decide) (by decide) rfl ?_
  refine VB_top (y := iZ 0) rfl ?_
  refine VB_istore (q := 91) (lv' := [(0, _), (1, _), (2, _), (3, _), (4, _), (5, _), (6, _), (7, _), (8, _), (9, _), (10, _)]) dL_law_89 (by decide) rfl rfl ?_
  refine VB_iload (q := 93) dL_law_91 9 rfl rfl ?_
  refine VB_bipush (q := 95) dL_law_93 (by decide) rfl ?_
  refine VB_irem (q := 96) (a := 31) (b := 32) dL_law_95 (by omega) (by decide) (by decide) rfl ?_
  refine VB_top (y := iZ 31) rfl ?_
  refine VB_istore (q := 98) (lv' := [(0, _), (1, _), (2, _), (3, _), (4, _), (5, _), (6, _), (7, _), (8, _), (9, _), (10, _), (11, _)]) dL_law_96 (by decide) rfl rfl ?_
  refine VB_aload (q := 100) dL_law_98 6 rfl rfl ?_
  refine VB_iconst (q := 101) dL_law_100 rfl ?_
  refine VB_iald (q := 102) (v := (iZ 4)) dL_law_101 13 12 rfl rfl (0) (by omega) (by omega) (by decide) (hM0) rfl ?_
  refine VB_if_ne (q := 105) (tgt := 109) dL_law_102 (by decide) (by decide) (fun _ => ?_) (fun hc => absurd hc (by decide))
  refine VB_iload (q := 111) dL_law_109 10 rfl rfl ?_
  refine VB_aload (q := 113) dL_law_111 6 rfl rfl ?_
  refine VB_iconst (q := 114) dL_law_113 rfl ?_
  refine VB_iald (q := 115) (v := (iZ 4)) dL_law_114 13 12 rfl rfl (0) (by omega) (by omega) (by decide) (hM0) rfl ?_
  refine VB_irem (q := 116) (a := 0) (b := 4) dL_law_115 (by omega) (by decide) (by decide) rfl ?_
  refine VB_top (y := iZ 0) rfl ?_
  refine VB_istore (q := 118) (lv' := [(0, _), (1, _), (2, _), (3, _), (4, _), (5, _), (6, _), (7, _), (8, _), (9, _), (10, _), (11, _), (12, _)]) dL_law_116 (by decide) rfl rfl ?_
  refine VB_aload (q := 120) dL_law_118 6 rfl rfl ?_
  refine VB_iconst (q := 121) dL_law_120 rfl ?_
  refine VB_iald (q := 122) (v := (iZ 4)) dL_law_121 13 12 rfl rfl (0) (by omega) (by omega) (by decide) (hM0) rfl ?_
  refine VB_iconst (q := 123) dL_law_122 rfl ?_
  refine VB_icmp_lt (q := 126) (tgt := 141) dL_law_123 (by decide) (by decide) (by decide) (fun hc => absurd hc (by decide)) (fun _ => ?_)
  refine VB_iload (q := 128) dL_law_126 11 rfl rfl ?_
  refine VB_iconst (q := 129) dL_law_128 rfl ?_
  refine VB_icmp_ge (q := 132) (tgt := 326) dL_law_129 (by decide) (by decide) (by decide) (fun _ => ?_) (fun hc => absurd hc (by decide))
  refine VB_iload (q := 328) dL_law_326 11 rfl rfl ?_
  refine VB_bipush (q := 330) dL_law_328 (by decide) rfl ?_
  refine VB_icmp_ge (q := 333) (tgt := 451) dL_law_330 (by decide) (by decide) (by decide) (fun _ => ?_) (fun hc => absurd hc (by decide))
  refine VB_iload (q := 453) dL_law_451 11 rfl rfl ?_
  refine VB_bipush (q := 455) dL_law_453 (by decide) rfl ?_
  refine VB_icmp_ge (q := 458) (tgt := 603) dL_law_455 (by decide) (by decide) (by decide) (fun _ => ?_) (fun hc => absurd hc (by decide))
  refine VB_iload (q := 605) dL_law_603 11 rfl rfl ?_
  refine VB_bipush (q := 607) dL_law_605 (by decide) rfl ?_
  refine VB_icmp_ge (q := 610) (tgt := 633) dL_law_607 (by decide) (by decide) (by decide) (fun _ => ?_) (fun hc => absurd hc (by decide))
  refine VB_iload (q := 635) dL_law_633 11 rfl rfl ?_
  refine VB_bipush (q := 637) dL_law_635 (by decide) rfl ?_
  refine VB_icmp_ge (q := 640) (tgt := 677) dL_law_637 (by decide) (by decide) (by decide) (fun _ => ?_) (fun hc => absurd hc (by decide))
  refine VB_iload (q := 679) dL_law_677 11 rfl rfl ?_
  refine VB_bipush (q := 681) dL_law_679 (by decide) rfl ?_
  refine VB_icmp_ne (q := 684) (tgt := 783) dL_law_681 (by decide) (by decide) (by decide) (fun _ => ?_) (fun hc => absurd hc (by decide))
  refine VB_loc (lv' := [(0, _), (1, _), (2, _), (3, _), (4, _), (5, _), (6, _), (7, _), (8, _), (9, _), (10, _)]) [0, 1, 2, 3, 4, 5, 6, 7, 8, 9, 10] rfl ?_
  exact VB_widen (by omega) (by omega) (ck52 hL h16 hx S F g hI (hK (by decide)) hg)
set_option maxRecDepth 100000 in
set_option maxHeartbeats 8000000 in
theorem ck51 {s0 L : Nat} {xs : Nat → Int32} {a : Nat → Nat} {c : Nat → ClassId} {b : Nat → Nat} {d : Nat → ClassId} (hL : L ≤ 260) (h16 : 80 ≤ L) (hx : ∀ j, j < 80 → xs j = 31) : ∀ (S : St) (F : Nat → Nat → Int32) (g : Nat → Nat), Iv S F 4 → sK S 0 = 0 → (∀ j, g j < 4096) → VB 123 RL cL_law 17 (some .boolean) wsL_law roomB (vXL s0 L xs) (tyl c d) (qF 123) (6622) (39732 + 1250) (wal a c S b d F g) 783 [(0, .ref (s0)), (1, .ref (a 0)), (2, .ref (b 0)), (3, .ref (b 1)), (4, .ref (b 2)), (5, .ref (b 3)), (6, .ref (b 4)), (7, .int (iZ 1)), (8, .int (iZ 51)), (9, .int (iZ 31)), (10, .int (iZ 0))] [] := by
  intro S F g hI hK hg
  obtain ⟨ho, hn, hm4, hM0, hG, hC⟩ := id hI
  refine VB_iload (q := 785) dL_law_783 7 rfl rfl ?_
  refine VB_if_eq (q := 788) (tgt := 968) dL_law_785 (by decide) (by decide) (fun hc => absurd hc (by decide)) (fun _ => ?_)
  refine VB_aload_n (q := 789) dL_law_788 1 rfl rfl ?_
  refine VB_aload_n (q := 790) dL_law_789 2 rfl rfl ?_
  refine VB_aload_n (q := 791) dL_law_790 3 rfl rfl ?_
  refine VB_aload (q := 793) dL_law_791 6 rfl rfl ?_
  refine VB_callU (q := 796) dL_law_793 (u_areThings (a := a) (c := c) (S := S) (b := b) (d := d) (F := F) hI hg) yv_L_areThings rfl gL_law_L_areThings xU_L rfl (Nat.le_of_ble_eq_true rfl) (by decide) ⟨by show _ ≤ 20000; omega, by show _ ≤ 130000; omega⟩ (fun x793 g793 hP793 hg793 => ?_)
  refine VB_lo (lo' := 123) (Nat.le_add_right _ _) ?_
  have J968 : ∀ (gj968 : Nat → Nat), (∀ j, gj968 j < 4096) → VB 123 RL cL_law 17 (some .boolean) wsL_law roomB (vXL s0 L xs) (tyl c d) (qF 123) (6642) (39852 + 1250) (wal a c S b d F gj968) 968 [(0, .ref (s0)), (1, .ref (a 0)), (2, .ref (b 0)), (3, .ref (b 1)), (4, .ref (b 2)), (5, .ref (b 3)), (6, .ref (b 4)), (7, .int (iZ 1)), (8, .int (iZ 51)), (9, .int (iZ 31)), (10, .int (iZ 0))] [] := by
    intro gj968 hgj968
    refine VB_iconst (q := 969) dL_law_968 rfl ?_
    refine VB_istore (q := 971) (lv' := [(0, _), (1, _), (2, _), (3, _), (4, _), (5, _), (6, _), (7, _), (8, _), (9, _), (10, _)]) dL_law_969 (by decide) rfl rfl ?_
    refine VB_iinc (q := 974) (y := 52) (lv' := [(0, _), (1, _), (2, _), (3, _), (4, _), (5, _), (6, _), (7, _), (8, _), (9, _), (10, _)]) dL_law_971 8 rfl (by omega) (by decide) rfl rfl ?_
    refine VB_goto (tgt := 64) dL_law_974 (by decide) ?_
    refine VB_iload (q := 66) dL_law_64 8 rfl rfl ?_
    refine VB_bipush (q := 68) dL_law_66 (by decide) rfl ?_
    refine VB_icmp_ge (q := 71) (tgt := 977) dL_law_68 (by decide) (by decide) (by decide) (fun hc => absurd hc (by decide)) (fun _ => ?_)
    refine VB_iload (q := 73) dL_law_71 7 rfl rfl ?_
    refine VB_if_eq (q := 76) (tgt := 977) dL_law_73 (by decide) (by decide) (fun _ => ?_) (fun hc => absurd hc (by decide))
    refine VB_iload (q := 979) dL_law_977 7 rfl rfl ?_
    exact VB_ret0 dL_law_979 rfl
  refine VB_uif_eq (q := 799) (tgt := 968) dL_law_796 (by decide) ?_ ?_
  · skip
    exact VB_widen (by omega) (by omega) (J968 g793 hg793)
  · skip
    refine VB_iload (q := 801) dL_law_799 8 rfl rfl ?_
    refine VB_iconst (q := 802) dL_law_801 rfl ?_
    refine VB_irem (q := 803) (a := 51) (b := 2) dL_law_802 (by omega) (by decide) (by decide) rfl ?_
    refine VB_top (y := iZ 1) rfl ?_
    refine VB_if_gt (q := 806) (tgt := 833) dL_law_803 (by decide) (by decide) (fun _ => ?_) (fun hc => absurd hc (by decide))
    refine VB_aload_n (q := 834) dL_law_833 1 rfl rfl ?_
    refine VB_aload_n (q := 835) dL_law_834 2 rfl rfl ?_
    refine VB_aload_n (q := 836) dL_law_835 3 rfl rfl ?_
    refine VB_aload (q := 838) dL_law_836 4 rfl rfl ?_
    refine VB_aload (q := 840) dL_law_838 6 rfl rfl ?_
    refine VB_callU (q := 843) dL_law_840 (u_isMissing (a := a) (c := c) (S := S) (b := b) (d := d) (F := F) hI hg793) yv_L_isMissing rfl gL_law_L_isMissing xU_L rfl (Nat.le_of_ble_eq_true rfl) (by decide) ⟨by show _ ≤ 20000; omega, by show _ ≤ 130000; omega⟩ (fun x840 g840 hP840 hg840 => ?_)
    refine VB_lo (lo' := 123) (Nat.le_add_right _ _) ?_
    refine VB_uif_eq (q := 846) (tgt := 968) dL_law_843 (by decide) ?_ ?_
    · skip
      exact VB_widen (by omega) (by omega) (J968 g840 hg840)
    · skip
      refine VB_aload_n (q := 847) dL_law_846 1 rfl rfl ?_
      refine VB_aload_n (q := 848) dL_law_847 2 rfl rfl ?_
      refine VB_aload (q := 850) dL_law_848 6 rfl rfl ?_
      refine VB_iload (q := 852) dL_law_850 10 rfl rfl ?_
      refine VB_aload (q := 854) dL_law_852 6 rfl rfl ?_
      refine VB_iconst (q := 855) dL_law_854 rfl ?_
      refine VB_iald (q := 856) (v := (iZ 4)) dL_law_855 13 12 rfl rfl (0) (by omega) (by omega) (by decide) (hM0) rfl ?_
      refine VB_iconst (q := 857) dL_law_856 rfl ?_
      refine VB_iadd (q := 858) dL_law_857 rfl ?_
      refine VB_top (y := iZ 5) rfl ?_
      refine VB_irem (q := 859) (a := 0) (b := 5) dL_law_858 (by omega) (by decide) (by decide) rfl ?_
      refine VB_top (y := iZ 0) rfl ?_
      refine VB_iload (q := 861) dL_law_859 10 rfl rfl ?_
      refine VB_bipush (q := 863) dL_law_861 (by decide) rfl ?_
      refine VB_idiv (q := 864) (a := 0) (b := 13) dL_law_863 (by omega) (by decide) (by decide) rfl ?_
      refine VB_top (y := iZ 0) rfl ?_
      refine VB_aload (q := 866) dL_law_864 6 rfl rfl ?_
      refine VB_iconst (q := 867) dL_law_866 rfl ?_
      refine VB_iald (q := 868) (v := (iZ 4)) dL_law_867 13 12 rfl rfl (0) (by omega) (by omega) (by decide) (hM0) rfl ?_
      refine VB_iconst (q := 869) dL_law_868 rfl ?_
      refine VB_iadd (q := 870) dL_law_869 rfl ?_
      refine VB_top (y := iZ 5) rfl ?_
      refine VB_irem (q := 871) (a := 0) (b := 5) dL_law_870 (by omega) (by decide) (by decide) rfl ?_
      refine VB_top (y := iZ 0) rfl ?_
      refine VB_iload (q := 873) dL_law_871 10 rfl rfl ?_
      refine VB_sipush (q := 876) dL_law_873 (by decide) rfl ?_
      refine VB_idiv (q := 877) (a := 0) (b := 169) dL_law_876 (by omega) (by decide) (by decide) rfl ?_
      refine VB_top (y := iZ 0) rfl ?_
      refine VB_aload (q := 879) dL_law_877 6 rfl rfl ?_
      refine VB_iconst (q := 880) dL_law_879 rfl ?_
      refine VB_iald (q := 881) (v := (iZ 4)) dL_law_880 13 12 rfl rfl (0) (by omega) (by omega) (by decide) (hM0) rfl ?_
      refine VB_iconst (q := 882) dL_law_881 rfl ?_
      refine VB_iadd (q := 883) dL_law_882 rfl ?_
      refine VB_top (y := iZ 6) rfl ?_
      refine VB_irem (q := 884) (a := 0) (b := 6) dL_law_883 (by omega) (by decide) (by decide) rfl ?_
      refine VB_top (y := iZ 0) rfl ?_
      refine VB_iconst (q := 885) dL_law_884 rfl ?_
      refine VB_isub (q := 886) dL_law_885 rfl ?_
      refine VB_top (y := iZ (-1)) rfl ?_
      refine VB_callU (q := 889) dL_law_886 (u_isWrong (a := a) (c := c) (S := S) (b := b) (d := d) (F := F) hI (wr0 hI (by decide) hK) hg840) yv_L_isWrong rfl gL_law_L_isWrong xU_L rfl (Nat.le_of_ble_eq_true rfl) (by decide) ⟨by show _ ≤ 20000; omega, by show _ ≤ 130000; omega⟩ (fun x886 g886 hP886 hg886 => ?_)
      refine VB_em (x := x886) (fun e886 => VB_lo (lo' := 123) (Nat.le_add_right _ _) (VB_top (y := iZ 0) e886 ?_)) (fun e886 => VB_lo (lo' := 125) (by show 125 ≤ 123 + (if x886 = 0 then 0 else 2); rw [if_neg e886]; omega) ?_)
      · skip
        refine VB_if_eq (q := 892) (tgt := 968) dL_law_889 (by decide) (by decide) (fun _ => ?_) (fun hc => absurd hc (by decide))
        exact VB_widen (by omega) (by omega) (J968 g886 hg886)
      · skip
        refine VB_uif_eq (q := 892) (tgt := 968) dL_law_889 (by decide) ?_ ?_
        · skip
          refine VB_lo (lo' := 123) (by omega) ?_
          exact VB_widen (by omega) (by omega) (J968 g886 hg886)
        · skip
          refine VB_iload (q := 894) dL_law_892 8 rfl rfl ?_
          refine VB_bipush (q := 896) dL_law_894 (by decide) rfl ?_
          refine VB_irem (q := 897) (a := 51) (b := 16) dL_law_896 (by omega) (by decide) (by decide) rfl ?_
          refine VB_top (y := iZ 3) rfl ?_
          refine VB_if_gt (q := 900) (tgt := 943) dL_law_897 (by decide) (by decide) (fun _ => ?_) (fun hc => absurd hc (by decide))
          refine VB_iload (q := 945) dL_law_943 8 rfl rfl ?_
          refine VB_bipush (q := 947) dL_law_945 (by decide) rfl ?_
          refine VB_irem (q := 948) (a := 51) (b := 20) dL_law_947 (by omega) (by decide) (by decide) rfl ?_
          refine VB_top (y := iZ 11) rfl ?_
          refine VB_if_gt (q := 951) (tgt := 964) dL_law_948 (by decide) (by decide) (fun _ => ?_) (fun hc => absurd hc (by decide))
          refine VB_iconst (q := 965) dL_law_964 rfl ?_
          refine VB_goto (tgt := 969) dL_law_965 (by decide) ?_
          refine VB_istore (q := 971) (lv' := [(0, _), (1, _), (2, _), (3, _), (4, _), (5, _), (6, _), (7, _), (8, _), (9, _), (10, _)]) dL_law_969 (by decide) rfl rfl ?_
          refine VB_iinc (q := 974) (y := 52) (lv' := [(0, _), (1, _), (2, _), (3, _), (4, _), (5, _), (6, _), (7, _), (8, _), (9, _), (10, _)]) dL_law_971 8 rfl (by omega) (by decide) rfl rfl ?_
          refine VB_goto (tgt := 64) dL_law_974 (by decide) ?_
          refine VB_loc (lv' := [(0, _), (1, _), (2, _), (3, _), (4, _), (5, _), (6, _), (7, _), (8, _)]) [0, 1, 2, 3, 4, 5, 6, 7, 8] rfl ?_
          refine VB_lo (lo' := 123) (by omega) ?_
          exact VB_widen (by omega) (by omega) (rd52 hL h16 hx S F g886 hI (fun _ => hK) hg886)
set_option maxRecDepth 100000 in
set_option maxHeartbeats 8000000 in
theorem rd51 {s0 L : Nat} {xs : Nat → Int32} {a : Nat → Nat} {c : Nat → ClassId} {b : Nat → Nat} {d : Nat → ClassId} (hL : L ≤ 260) (h16 : 80 ≤ L) (hx : ∀ j, j < 80 → xs j = 31) : ∀ (S : St) (F : Nat → Nat → Int32) (g : Nat → Nat), Iv S F 4 → (0 < 51 → sK S 0 = 0) → (∀ j, g j < 4096) → VB 123 RL cL_law 17 (some .boolean) wsL_law roomB (vXL s0 L xs) (tyl c d) (qF 123) (6622) (39732 + 1250) (wal a c S b d F g) 64 [(0, .ref (s0)), (1, .ref (a 0)), (2, .ref (b 0)), (3, .ref (b 1)), (4, .ref (b 2)), (5, .ref (b 3)), (6, .ref (b 4)), (7, .int (iZ 1)), (8, .int (iZ 51))] [] := by
  intro S F g hI hK hg
  obtain ⟨ho, hn, hm4, hM0, hG, hC⟩ := id hI
  refine VB_iload (q := 66) dL_law_64 8 rfl rfl ?_
  refine VB_bipush (q := 68) dL_law_66 (by decide) rfl ?_
  refine VB_icmp_ge (q := 71) (tgt := 977) dL_law_68 (by decide) (by decide) (by decide) (fun hc => absurd hc (by decide)) (fun _ => ?_)
  refine VB_iload (q := 73) dL_law_71 7 rfl rfl ?_
  refine VB_if_eq (q := 76) (tgt := 977) dL_law_73 (by decide) (by decide) (fun hc => absurd hc (by decide)) (fun _ => ?_)
  refine VB_aload_n (q := 77) dL_law_76 0 rfl rfl ?_
  refine VB_iload (q := 79) dL_law_77 8 rfl rfl ?_
  refine VB_callD (q := 82) dL_law_79 (u_dice (b := s0) (L := L) (xs := xs) 51 (by omega) hL (hx 51 (by omega))) yv_L_dice rfl gL_law_L_dice xL_s rfl (Nat.le_of_ble_eq_true rfl) (by decide) ⟨by show _ ≤ 20000; omega, by show _ ≤ 130000; omega⟩ ?_
  refine VB_istore (q := 84) (lv' := [(0, _), (1, _), (2, _), (3, _), (4, _), (5, _), (6, _), (7, _), (8, _), (9, _)]) dL_law_82 (by decide) rfl rfl ?_
  refine VB_iload (q := 86) dL_law_84 9 rfl rfl ?_
  refine VB_bipush (q := 88) dL_law_86 (by decide) rfl ?_
  refine VB_idiv (q := 89) (a := 31) (b := 32) dL_law_88 (by omega) (by decide) (by decide) rfl ?_
  refine VB_top (y := iZ 0) rfl ?_
  refine VB_istore (q := 91) (lv' := [(0, _), (1, _), (2, _), (3, _), (4, _), (5, _), (6, _), (7, _), (8, _), (9, _), (10, _)]) dL_law_89 (by decide) rfl rfl ?_
  refine VB_iload (q := 93) dL_law_91 9 rfl rfl ?_
  refine VB_bipush (q := 95) dL_law_93 (by decide) rfl ?_
  refine VB_irem (q := 96) (a := 31) (b := 32) dL_law_95 (by omega) (by decide) (by decide) rfl ?_
  refine VB_top (y := iZ 31) rfl ?_
  refine VB_istore (q := 98) (lv' := [(0, _), (1, _), (2, _), (3, _), (4, _), (5, _), (6, _), (7, _), (8, _), (9, _), (10, _), (11, _)]) dL_law_96 (by decide) rfl rfl ?_
  refine VB_aload (q := 100) dL_law_98 6 rfl rfl ?_
  refine VB_iconst (q := 101) dL_law_100 rfl ?_
  refine VB_iald (q := 102) (v := (iZ 4)) dL_law_101 13 12 rfl rfl (0) (by omega) (by omega) (by decide) (hM0) rfl ?_
  refine VB_if_ne (q := 105) (tgt := 109) dL_law_102 (by decide) (by decide) (fun _ => ?_) (fun hc => absurd hc (by decide))
  refine VB_iload (q := 111) dL_law_109 10 rfl rfl ?_
  refine VB_aload (q := 113) dL_law_111 6 rfl rfl ?_
  refine VB_iconst (q := 114) dL_law_113 rfl ?_
  refine VB_iald (q := 115) (v := (iZ 4)) dL_law_114 13 12 rfl rfl (0) (by omega) (by omega) (by decide) (hM0) rfl ?_
  refine VB_irem (q := 116) (a := 0) (b := 4) dL_law_115 (by omega) (by decide) (by decide) rfl ?_
  refine VB_top (y := iZ 0) rfl ?_
  refine VB_istore (q := 118) (lv' := [(0, _), (1, _), (2, _), (3, _), (4, _), (5, _), (6, _), (7, _), (8, _), (9, _), (10, _), (11, _), (12, _)]) dL_law_116 (by decide) rfl rfl ?_
  refine VB_aload (q := 120) dL_law_118 6 rfl rfl ?_
  refine VB_iconst (q := 121) dL_law_120 rfl ?_
  refine VB_iald (q := 122) (v := (iZ 4)) dL_law_121 13 12 rfl rfl (0) (by omega) (by omega) (by decide) (hM0) rfl ?_
  refine VB_iconst (q := 123) dL_law_122 rfl ?_
  refine VB_icmp_lt (q := 126) (tgt := 141) dL_law_123 (by decide) (by decide) (by decide) (fun hc => absurd hc (by decide)) (fun _ => ?_)
  refine VB_iload (q := 128) dL_law_126 11 rfl rfl ?_
  refine VB_iconst (q := 129) dL_law_128 rfl ?_
  refine VB_icmp_ge (q := 132) (tgt := 326) dL_law_129 (by decide) (by decide) (by decide) (fun _ => ?_) (fun hc => absurd hc (by decide))
  refine VB_iload (q := 328) dL_law_326 11 rfl rfl ?_
  refine VB_bipush (q := 330) dL_law_328 (by decide) rfl ?_
  refine VB_icmp_ge (q := 333) (tgt := 451) dL_law_330 (by decide) (by decide) (by decide) (fun _ => ?_) (fun hc => absurd hc (by decide))
  refine VB_iload (q := 453) dL_law_451 11 rfl rfl ?_
  refine VB_bipush (q := 455) dL_law_453 (by decide) rfl ?_
  refine VB_icmp_ge (q := 458) (tgt := 603) dL_law_455 (by decide) (by decide) (by decide) (fun _ => ?_) (fun hc => absurd hc (by decide))
  refine VB_iload (q := 605) dL_law_603 11 rfl rfl ?_
  refine VB_bipush (q := 607) dL_law_605 (by decide) rfl ?_
  refine VB_icmp_ge (q := 610) (tgt := 633) dL_law_607 (by decide) (by decide) (by decide) (fun _ => ?_) (fun hc => absurd hc (by decide))
  refine VB_iload (q := 635) dL_law_633 11 rfl rfl ?_
  refine VB_bipush (q := 637) dL_law_635 (by decide) rfl ?_
  refine VB_icmp_ge (q := 640) (tgt := 677) dL_law_637 (by decide) (by decide) (by decide) (fun _ => ?_) (fun hc => absurd hc (by decide))
  refine VB_iload (q := 679) dL_law_677 11 rfl rfl ?_
  refine VB_bipush (q := 681) dL_law_679 (by decide) rfl ?_
  refine VB_icmp_ne (q := 684) (tgt := 783) dL_law_681 (by decide) (by decide) (by decide) (fun _ => ?_) (fun hc => absurd hc (by decide))
  refine VB_loc (lv' := [(0, _), (1, _), (2, _), (3, _), (4, _), (5, _), (6, _), (7, _), (8, _), (9, _), (10, _)]) [0, 1, 2, 3, 4, 5, 6, 7, 8, 9, 10] rfl ?_
  exact VB_widen (by omega) (by omega) (ck51 hL h16 hx S F g hI (hK (by decide)) hg)
set_option maxRecDepth 100000 in
set_option maxHeartbeats 8000000 in
theorem ck50 {s0 L : Nat} {xs : Nat → Int32} {a : Nat → Nat} {c : Nat → ClassId} {b : Nat → Nat} {d : Nat → ClassId} (hL : L ≤ 260) (h16 : 80 ≤ L) (hx : ∀ j, j < 80 → xs j = 31) : ∀ (S : St) (F : Nat → Nat → Int32) (g : Nat → Nat), Iv S F 4 → sK S 0 = 0 → (∀ j, g j < 4096) → VB 123 RL cL_law 17 (some .boolean) wsL_law roomB (vXL s0 L xs) (tyl c d) (qF 123) (6402) (38412 + 1250) (wal a c S b d F g) 783 [(0, .ref (s0)), (1, .ref (a 0)), (2, .ref (b 0)), (3, .ref (b 1)), (4, .ref (b 2)), (5, .ref (b 3)), (6, .ref (b 4)), (7, .int (iZ 1)), (8, .int (iZ 50)), (9, .int (iZ 31)), (10, .int (iZ 0))] [] := by
  intro S F g hI hK hg
  obtain ⟨ho, hn, hm4, hM0, hG, hC⟩ := id hI
  refine VB_iload (q := 785) dL_law_783 7 rfl rfl ?_
  refine VB_if_eq (q := 788) (tgt := 968) dL_law_785 (by decide) (by decide) (fun hc => absurd hc (by decide)) (fun _ => ?_)
  refine VB_aload_n (q := 789) dL_law_788 1 rfl rfl ?_
  refine VB_aload_n (q := 790) dL_law_789 2 rfl rfl ?_
  refine VB_aload_n (q := 791) dL_law_790 3 rfl rfl ?_
  refine VB_aload (q := 793) dL_law_791 6 rfl rfl ?_
  refine VB_callU (q := 796) dL_law_793 (u_areThings (a := a) (c := c) (S := S) (b := b) (d := d) (F := F) hI hg) yv_L_areThings rfl gL_law_L_areThings xU_L rfl (Nat.le_of_ble_eq_true rfl) (by decide) ⟨by show _ ≤ 20000; omega, by show _ ≤ 130000; omega⟩ (fun x793 g793 hP793 hg793 => ?_)
  refine VB_lo (lo' := 123) (Nat.le_add_right _ _) ?_
  have J968 : ∀ (gj968 : Nat → Nat), (∀ j, gj968 j < 4096) → VB 123 RL cL_law 17 (some .boolean) wsL_law roomB (vXL s0 L xs) (tyl c d) (qF 123) (6622) (39732 + 1250) (wal a c S b d F gj968) 968 [(0, .ref (s0)), (1, .ref (a 0)), (2, .ref (b 0)), (3, .ref (b 1)), (4, .ref (b 2)), (5, .ref (b 3)), (6, .ref (b 4)), (7, .int (iZ 1)), (8, .int (iZ 50)), (9, .int (iZ 31)), (10, .int (iZ 0))] [] := by
    intro gj968 hgj968
    refine VB_iconst (q := 969) dL_law_968 rfl ?_
    refine VB_istore (q := 971) (lv' := [(0, _), (1, _), (2, _), (3, _), (4, _), (5, _), (6, _), (7, _), (8, _), (9, _), (10, _)]) dL_law_969 (by decide) rfl rfl ?_
    refine VB_iinc (q := 974) (y := 51) (lv' := [(0, _), (1, _), (2, _), (3, _), (4, _), (5, _), (6, _), (7, _), (8, _), (9, _), (10, _)]) dL_law_971 8 rfl (by omega) (by decide) rfl rfl ?_
    refine VB_goto (tgt := 64) dL_law_974 (by decide) ?_
    refine VB_iload (q := 66) dL_law_64 8 rfl rfl ?_
    refine VB_bipush (q := 68) dL_law_66 (by decide) rfl ?_
    refine VB_icmp_ge (q := 71) (tgt := 977) dL_law_68 (by decide) (by decide) (by decide) (fun hc => absurd hc (by decide)) (fun _ => ?_)
    refine VB_iload (q := 73) dL_law_71 7 rfl rfl ?_
    refine VB_if_eq (q := 76) (tgt := 977) dL_law_73 (by decide) (by decide) (fun _ => ?_) (fun hc => absurd hc (by decide))
    refine VB_iload (q := 979) dL_law_977 7 rfl rfl ?_
    exact VB_ret0 dL_law_979 rfl
  refine VB_uif_eq (q := 799) (tgt := 968) dL_law_796 (by decide) ?_ ?_
  · skip
    exact VB_widen (by omega) (by omega) (J968 g793 hg793)
  · skip
    refine VB_iload (q := 801) dL_law_799 8 rfl rfl ?_
    refine VB_iconst (q := 802) dL_law_801 rfl ?_
    refine VB_irem (q := 803) (a := 50) (b := 2) dL_law_802 (by omega) (by decide) (by decide) rfl ?_
    refine VB_top (y := iZ 0) rfl ?_
    refine VB_if_gt (q := 806) (tgt := 833) dL_law_803 (by decide) (by decide) (fun hc => absurd hc (by decide)) (fun _ => ?_)
    refine VB_aload_n (q := 807) dL_law_806 1 rfl rfl ?_
    refine VB_aload_n (q := 808) dL_law_807 2 rfl rfl ?_
    refine VB_aload_n (q := 809) dL_law_808 3 rfl rfl ?_
    refine VB_aload (q := 811) dL_law_809 4 rfl rfl ?_
    refine VB_aload (q := 813) dL_law_811 6 rfl rfl ?_
    refine VB_iload (q := 815) dL_law_813 10 rfl rfl ?_
    refine VB_bipush (q := 817) dL_law_815 (by decide) rfl ?_
    refine VB_irem (q := 818) (a := 0) (b := 31) dL_law_817 (by omega) (by decide) (by decide) rfl ?_
    refine VB_top (y := iZ 0) rfl ?_
    refine VB_iload (q := 820) dL_law_818 10 rfl rfl ?_
    refine VB_bipush (q := 822) dL_law_820 (by decide) rfl ?_
    refine VB_idiv (q := 823) (a := 0) (b := 31) dL_law_822 (by omega) (by decide) (by decide) rfl ?_
    refine VB_top (y := iZ 0) rfl ?_
    refine VB_sipush (q := 826) dL_law_823 (by decide) rfl ?_
    refine VB_irem (q := 827) (a := 0) (b := 256) dL_law_826 (by omega) (by decide) (by decide) rfl ?_
    refine VB_top (y := iZ 0) rfl ?_
    refine VB_callU (q := 830) dL_law_827 (u_areOutfits (a := a) (c := c) (S := S) (b := b) (d := d) (F := F) hI hg793) yv_L_areOutfits rfl gL_law_L_areOutfits xU_L rfl (Nat.le_of_ble_eq_true rfl) (by decide) ⟨by show _ ≤ 20000; omega, by show _ ≤ 130000; omega⟩ (fun x827 g827 hP827 hg827 => ?_)
    refine VB_lo (lo' := 123) (Nat.le_add_right _ _) ?_
    refine VB_uif_eq (q := 833) (tgt := 968) dL_law_830 (by decide) ?_ ?_
    · skip
      exact VB_widen (by omega) (by omega) (J968 g827 hg827)
    · skip
      refine VB_aload_n (q := 834) dL_law_833 1 rfl rfl ?_
      refine VB_aload_n (q := 835) dL_law_834 2 rfl rfl ?_
      refine VB_aload_n (q := 836) dL_law_835 3 rfl rfl ?_
      refine VB_aload (q := 838) dL_law_836 4 rfl rfl ?_
      refine VB_aload (q := 840) dL_law_838 6 rfl rfl ?_
      refine VB_callU (q := 843) dL_law_840 (u_isMissing (a := a) (c := c) (S := S) (b := b) (d := d) (F := F) hI hg827) yv_L_isMissing rfl gL_law_L_isMissing xU_L rfl (Nat.le_of_ble_eq_true rfl) (by decide) ⟨by show _ ≤ 20000; omega, by show _ ≤ 130000; omega⟩ (fun x840 g840 hP840 hg840 => ?_)
      refine VB_lo (lo' := 123) (Nat.le_add_right _ _) ?_
      refine VB_uif_eq (q := 846) (tgt := 968) dL_law_843 (by decide) ?_ ?_
      · skip
        exact VB_widen (by omega) (by omega) (J968 g840 hg840)
      · skip
        refine VB_aload_n (q := 847) dL_law_846 1 rfl rfl ?_
        refine VB_aload_n (q := 848) dL_law_847 2 rfl rfl ?_
        refine VB_aload (q := 850) dL_law_848 6 rfl rfl ?_
        refine VB_iload (q := 852) dL_law_850 10 rfl rfl ?_
        refine VB_aload (q := 854) dL_law_852 6 rfl rfl ?_
        refine VB_iconst (q := 855) dL_law_854 rfl ?_
        refine VB_iald (q := 856) (v := (iZ 4)) dL_law_855 13 12 rfl rfl (0) (by omega) (by omega) (by decide) (hM0) rfl ?_
        refine VB_iconst (q := 857) dL_law_856 rfl ?_
        refine VB_iadd (q := 858) dL_law_857 rfl ?_
        refine VB_top (y := iZ 5) rfl ?_
        refine VB_irem (q := 859) (a := 0) (b := 5) dL_law_858 (by omega) (by decide) (by decide) rfl ?_
        refine VB_top (y := iZ 0) rfl ?_
        refine VB_iload (q := 861) dL_law_859 10 rfl rfl ?_
        refine VB_bipush (q := 863) dL_law_861 (by decide) rfl ?_
        refine VB_idiv (q := 864) (a := 0) (b := 13) dL_law_863 (by omega) (by decide) (by decide) rfl ?_
        refine VB_top (y := iZ 0) rfl ?_
        refine VB_aload (q := 866) dL_law_864 6 rfl rfl ?_
        refine VB_iconst (q := 867) dL_law_866 rfl ?_
        refine VB_iald (q := 868) (v := (iZ 4)) dL_law_867 13 12 rfl rfl (0) (by omega) (by omega) (by decide) (hM0) rfl ?_
        refine VB_iconst (q := 869) dL_law_868 rfl ?_
        refine VB_iadd (q := 870) dL_law_869 rfl ?_
        refine VB_top (y := iZ 5) rfl ?_
        refine VB_irem (q := 871) (a := 0) (b := 5) dL_law_870 (by omega) (by decide) (by decide) rfl ?_
        refine VB_top (y := iZ 0) rfl ?_
        refine VB_iload (q := 873) dL_law_871 10 rfl rfl ?_
        refine VB_sipush (q := 876) dL_law_873 (by decide) rfl ?_
        refine VB_idiv (q := 877) (a := 0) (b := 169) dL_law_876 (by omega) (by decide) (by decide) rfl ?_
        refine VB_top (y := iZ 0) rfl ?_
        refine VB_aload (q := 879) dL_law_877 6 rfl rfl ?_
        refine VB_iconst (q := 880) dL_law_879 rfl ?_
        refine VB_iald (q := 881) (v := (iZ 4)) dL_law_880 13 12 rfl rfl (0) (by omega) (by omega) (by decide) (hM0) rfl ?_
        refine VB_iconst (q := 882) dL_law_881 rfl ?_
        refine VB_iadd (q := 883) dL_law_882 rfl ?_
        refine VB_top (y := iZ 6) rfl ?_
        refine VB_irem (q := 884) (a := 0) (b := 6) dL_law_883 (by omega) (by decide) (by decide) rfl ?_
        refine VB_top (y := iZ 0) rfl ?_
        refine VB_iconst (q := 885) dL_law_884 rfl ?_
        refine VB_isub (q := 886) dL_law_885 rfl ?_
        refine VB_top (y := iZ (-1)) rfl ?_
        refine VB_callU (q := 889) dL_law_886 (u_isWrong (a := a) (c := c) (S := S) (b := b) (d := d) (F := F) hI (wr0 hI (by decide) hK) hg840) yv_L_isWrong rfl gL_law_L_isWrong xU_L rfl (Nat.le_of_ble_eq_true rfl) (by decide) ⟨by show _ ≤ 20000; omega, by show _ ≤ 130000; omega⟩ (fun x886 g886 hP886 hg886 => ?_)
        refine VB_em (x := x886) (fun e886 => VB_lo (lo' := 123) (Nat.le_add_right _ _) (VB_top (y := iZ 0) e886 ?_)) (fun e886 => VB_lo (lo' := 125) (by show 125 ≤ 123 + (if x886 = 0 then 0 else 2); rw [if_neg e886]; omega) ?_)
        · skip
          refine VB_if_eq (q := 892) (tgt := 968) dL_law_889 (by decide) (by decide) (fun _ => ?_) (fun hc => absurd hc (by decide))
          exact VB_widen (by omega) (by omega) (J968 g886 hg886)
        · skip
          refine VB_uif_eq (q := 892) (tgt := 968) dL_law_889 (by decide) ?_ ?_
          · skip
            refine VB_lo (lo' := 123) (by omega) ?_
            exact VB_widen (by omega) (by omega) (J968 g886 hg886)
          · skip
            refine VB_iload (q := 894) dL_law_892 8 rfl rfl ?_
            refine VB_bipush (q := 896) dL_law_894 (by decide) rfl ?_
            refine VB_irem (q := 897) (a := 50) (b := 16) dL_law_896 (by omega) (by decide) (by decide) rfl ?_
            refine VB_top (y := iZ 2) rfl ?_
            refine VB_if_gt (q := 900) (tgt := 943) dL_law_897 (by decide) (by decide) (fun _ => ?_) (fun hc => absurd hc (by decide))
            refine VB_iload (q := 945) dL_law_943 8 rfl rfl ?_
            refine VB_bipush (q := 947) dL_law_945 (by decide) rfl ?_
            refine VB_irem (q := 948) (a := 50) (b := 20) dL_law_947 (by omega) (by decide) (by decide) rfl ?_
            refine VB_top (y := iZ 10) rfl ?_
            refine VB_if_gt (q := 951) (tgt := 964) dL_law_948 (by decide) (by decide) (fun _ => ?_) (fun hc => absurd hc (by decide))
            refine VB_iconst (q := 965) dL_law_964 rfl ?_
            refine VB_goto (tgt := 969) dL_law_965 (by decide) ?_
            refine VB_istore (q := 971) (lv' := [(0, _), (1, _), (2, _), (3, _), (4, _), (5, _), (6, _), (7, _), (8, _), (9, _), (10, _)]) dL_law_969 (by decide) rfl rfl ?_
            refine VB_iinc (q := 974) (y := 51) (lv' := [(0, _), (1, _), (2, _), (3, _), (4, _), (5, _), (6, _), (7, _), (8, _), (9, _), (10, _)]) dL_law_971 8 rfl (by omega) (by decide) rfl rfl ?_
            refine VB_goto (tgt := 64) dL_law_974 (by decide) ?_
            refine VB_loc (lv' := [(0, _), (1, _), (2, _), (3, _), (4, _), (5, _), (6, _), (7, _), (8, _)]) [0, 1, 2, 3, 4, 5, 6, 7, 8] rfl ?_
            refine VB_lo (lo' := 123) (by omega) ?_
            exact VB_widen (by omega) (by omega) (rd51 hL h16 hx S F g886 hI (fun _ => hK) hg886)
set_option maxRecDepth 100000 in
set_option maxHeartbeats 8000000 in
theorem rd50 {s0 L : Nat} {xs : Nat → Int32} {a : Nat → Nat} {c : Nat → ClassId} {b : Nat → Nat} {d : Nat → ClassId} (hL : L ≤ 260) (h16 : 80 ≤ L) (hx : ∀ j, j < 80 → xs j = 31) : ∀ (S : St) (F : Nat → Nat → Int32) (g : Nat → Nat), Iv S F 4 → (0 < 50 → sK S 0 = 0) → (∀ j, g j < 4096) → VB 123 RL cL_law 17 (some .boolean) wsL_law roomB (vXL s0 L xs) (tyl c d) (qF 123) (6402) (38412 + 1250) (wal a c S b d F g) 64 [(0, .ref (s0)), (1, .ref (a 0)), (2, .ref (b 0)), (3, .ref (b 1)), (4, .ref (b 2)), (5, .ref (b 3)), (6, .ref (b 4)), (7, .int (iZ 1)), (8, .int (iZ 50))] [] := by
  intro S F g hI hK hg
  obtain ⟨ho, hn, hm4, hM0, hG, hC⟩ := id hI
  refine VB_iload (q := 66) dL_law_64 8 rfl rfl ?_
  refine VB_bipush (q := 68) dL_law_66 (by decide) rfl ?_
  refine VB_icmp_ge (q := 71) (tgt := 977) dL_law_68 (by decide) (by decide) (by decide) (fun hc => absurd hc (by decide)) (fun _ => ?_)
  refine VB_iload (q := 73) dL_law_71 7 rfl rfl ?_
  refine VB_if_eq (q := 76) (tgt := 977) dL_law_73 (by decide) (by decide) (fun hc => absurd hc (by decide)) (fun _ => ?_)
  refine VB_aload_n (q := 77) dL_law_76 0 rfl rfl ?_
  refine VB_iload (q := 79) dL_law_77 8 rfl rfl ?_
  refine VB_callD (q := 82) dL_law_79 (u_dice (b := s0) (L := L) (xs := xs) 50 (by omega) hL (hx 50 (by omega))) yv_L_dice rfl gL_law_L_dice xL_s rfl (Nat.le_of_ble_eq_true rfl) (by decide) ⟨by show _ ≤ 20000; omega, by show _ ≤ 130000; omega⟩ ?_
  refine VB_istore (q := 84) (lv' := [(0, _), (1, _), (2, _), (3, _), (4, _), (5, _), (6, _), (7, _), (8, _), (9, _)]) dL_law_82 (by decide) rfl rfl ?_
  refine VB_iload (q := 86) dL_law_84 9 rfl rfl ?_
  refine VB_bipush (q := 88) dL_law_86 (by decide) rfl ?_
  refine VB_idiv (q := 89) (a := 31) (b := 32) dL_law_88 (by omega) (by decide) (by decide) rfl ?_
  refine VB_top (y := iZ 0) rfl ?_
  refine VB_istore (q := 91) (lv' := [(0, _), (1, _), (2, _), (3, _), (4, _), (5, _), (6, _), (7, _), (8, _), (9, _), (10, _)]) dL_law_89 (by decide) rfl rfl ?_
  refine VB_iload (q := 93) dL_law_91 9 rfl rfl ?_
  refine VB_bipush (q := 95) dL_law_93 (by decide) rfl ?_
  refine VB_irem (q := 96) (a := 31) (b := 32) dL_law_95 (by omega) (by decide) (by decide) rfl ?_
  refine VB_top (y := iZ 31) rfl ?_
  refine VB_istore (q := 98) (lv' := [(0, _), (1, _), (2, _), (3, _), (4, _), (5, _), (6, _), (7, _), (8, _), (9, _), (10, _), (11, _)]) dL_law_96 (by decide) rfl rfl ?_
  refine VB_aload (q := 100) dL_law_98 6 rfl rfl ?_
  refine VB_iconst (q := 101) dL_law_100 rfl ?_
  refine VB_iald (q := 102) (v := (iZ 4)) dL_law_101 13 12 rfl rfl (0) (by omega) (by omega) (by decide) (hM0) rfl ?_
  refine VB_if_ne (q := 105) (tgt := 109) dL_law_102 (by decide) (by decide) (fun _ => ?_) (fun hc => absurd hc (by decide))
  refine VB_iload (q := 111) dL_law_109 10 rfl rfl ?_
  refine VB_aload (q := 113) dL_law_111 6 rfl rfl ?_
  refine VB_iconst (q := 114) dL_law_113 rfl ?_
  refine VB_iald (q := 115) (v := (iZ 4)) dL_law_114 13 12 rfl rfl (0) (by omega) (by omega) (by decide) (hM0) rfl ?_
  refine VB_irem (q := 116) (a := 0) (b := 4) dL_law_115 (by omega) (by decide) (by decide) rfl ?_
  refine VB_top (y := iZ 0) rfl ?_
  refine VB_istore (q := 118) (lv' := [(0, _), (1, _), (2, _), (3, _), (4, _), (5, _), (6, _), (7, _), (8, _), (9, _), (10, _), (11, _), (12, _)]) dL_law_116 (by decide) rfl rfl ?_
  refine VB_aload (q := 120) dL_law_118 6 rfl rfl ?_
  refine VB_iconst (q := 121) dL_law_120 rfl ?_
  refine VB_iald (q := 122) (v := (iZ 4)) dL_law_121 13 12 rfl rfl (0) (by omega) (by omega) (by decide) (hM0) rfl ?_
  refine VB_iconst (q := 123) dL_law_122 rfl ?_
  refine VB_icmp_lt (q := 126) (tgt := 141) dL_law_123 (by decide) (by decide) (by decide) (fun hc => absurd hc (by decide)) (fun _ => ?_)
  refine VB_iload (q := 128) dL_law_126 11 rfl rfl ?_
  refine VB_iconst (q := 129) dL_law_128 rfl ?_
  refine VB_icmp_ge (q := 132) (tgt := 326) dL_law_129 (by decide) (by decide) (by decide) (fun _ => ?_) (fun hc => absurd hc (by decide))
  refine VB_iload (q := 328) dL_law_326 11 rfl rfl ?_
  refine VB_bipush (q := 330) dL_law_328 (by decide) rfl ?_
  refine VB_icmp_ge (q := 333) (tgt := 451) dL_law_330 (by decide) (by decide) (by decide) (fun _ => ?_) (fun hc => absurd hc (by decide))
  refine VB_iload (q := 453) dL_law_451 11 rfl rfl ?_
  refine VB_bipush (q := 455) dL_law_453 (by decide) rfl ?_
  refine VB_icmp_ge (q := 458) (tgt := 603) dL_law_455 (by decide) (by decide) (by decide) (fun _ => ?_) (fun hc => absurd hc (by decide))
  refine VB_iload (q := 605) dL_law_603 11 rfl rfl ?_
  refine VB_bipush (q := 607) dL_law_605 (by decide) rfl ?_
  refine VB_icmp_ge (q := 610) (tgt := 633) dL_law_607 (by decide) (by decide) (by decide) (fun _ => ?_) (fun hc => absurd hc (by decide))
  refine VB_iload (q := 635) dL_law_633 11 rfl rfl ?_
  refine VB_bipush (q := 637) dL_law_635 (by decide) rfl ?_
  refine VB_icmp_ge (q := 640) (tgt := 677) dL_law_637 (by decide) (by decide) (by decide) (fun _ => ?_) (fun hc => absurd hc (by decide))
  refine VB_iload (q := 679) dL_law_677 11 rfl rfl ?_
  refine VB_bipush (q := 681) dL_law_679 (by decide) rfl ?_
  refine VB_icmp_ne (q := 684) (tgt := 783) dL_law_681 (by decide) (by decide) (by decide) (fun _ => ?_) (fun hc => absurd hc (by decide))
  refine VB_loc (lv' := [(0, _), (1, _), (2, _), (3, _), (4, _), (5, _), (6, _), (7, _), (8, _), (9, _), (10, _)]) [0, 1, 2, 3, 4, 5, 6, 7, 8, 9, 10] rfl ?_
  exact VB_widen (by omega) (by omega) (ck50 hL h16 hx S F g hI (hK (by decide)) hg)
set_option maxRecDepth 100000 in
set_option maxHeartbeats 8000000 in
theorem ck49 {s0 L : Nat} {xs : Nat → Int32} {a : Nat → Nat} {c : Nat → ClassId} {b : Nat → Nat} {d : Nat → ClassId} (hL : L ≤ 260) (h16 : 80 ≤ L) (hx : ∀ j, j < 80 → xs j = 31) : ∀ (S : St) (F : Nat → Nat → Int32) (g : Nat → Nat), Iv S F 4 → sK S 0 = 0 → (∀ j, g j < 4096) → VB 123 RL cL_law 17 (some .boolean) wsL_law roomB (vXL s0 L xs) (tyl c d) (qF 123) (6382) (38292 + 1250) (wal a c S b d F g) 783 [(0, .ref (s0)), (1, .ref (a 0)), (2, .ref (b 0)), (3, .ref (b 1)), (4, .ref (b 2)), (5, .ref (b 3)), (6, .ref (b 4)), (7, .int (iZ 1)), (8, .int (iZ 49)), (9, .int (iZ 31)), (10, .int (iZ 0))] [] := by
  intro S F g hI hK hg
  obtain ⟨ho, hn, hm4, hM0, hG, hC⟩ := id hI
  refine VB_iload (q := 785) dL_law_783 7 rfl rfl ?_
  refine VB_if_eq (q := 788) (tgt := 968) dL_law_785 (by decide) (by decide) (fun hc => absurd hc (by decide)) (fun _ => ?_)
  refine VB_aload_n (q := 789) dL_law_788 1 rfl rfl ?_
  refine VB_aload_n (q := 790) dL_law_789 2 rfl rfl ?_
  refine VB_aload_n (q := 791) dL_law_790 3 rfl rfl ?_
  refine VB_aload (q := 793) dL_law_791 6 rfl rfl ?_
  refine VB_callU (q := 796) dL_law_793 (u_areThings (a := a) (c := c) (S := S) (b := b) (d := d) (F := F) hI hg) yv_L_areThings rfl gL_law_L_areThings xU_L rfl (Nat.le_of_ble_eq_true rfl) (by decide) ⟨by show _ ≤ 20000; omega, by show _ ≤ 130000; omega⟩ (fun x793 g793 hP793 hg793 => ?_)
  refine VB_lo (lo' := 123) (Nat.le_add_right _ _) ?_
  have J968 : ∀ (gj968 : Nat → Nat), (∀ j, gj968 j < 4096) → VB 123 RL cL_law 17 (some .boolean) wsL_law roomB (vXL s0 L xs) (tyl c d) (qF 123) (6402) (38412 + 1250) (wal a c S b d F gj968) 968 [(0, .ref (s0)), (1, .ref (a 0)), (2, .ref (b 0)), (3, .ref (b 1)), (4, .ref (b 2)), (5, .ref (b 3)), (6, .ref (b 4)), (7, .int (iZ 1)), (8, .int (iZ 49)), (9, .int (iZ 31)), (10, .int (iZ 0))] [] := by
    intro gj968 hgj968
    refine VB_iconst (q := 969) dL_law_968 rfl ?_
    refine VB_istore (q := 971) (lv' := [(0, _), (1, _), (2, _), (3, _), (4, _), (5, _), (6, _), (7, _), (8, _), (9, _), (10, _)]) dL_law_969 (by decide) rfl rfl ?_
    refine VB_iinc (q := 974) (y := 50) (lv' := [(0, _), (1, _), (2, _), (3, _), (4, _), (5, _), (6, _), (7, _), (8, _), (9, _), (10, _)]) dL_law_971 8 rfl (by omega) (by decide) rfl rfl ?_
    refine VB_goto (tgt := 64) dL_law_974 (by decide) ?_
    refine VB_iload (q := 66) dL_law_64 8 rfl rfl ?_
    refine VB_bipush (q := 68) dL_law_66 (by decide) rfl ?_
    refine VB_icmp_ge (q := 71) (tgt := 977) dL_law_68 (by decide) (by decide) (by decide) (fun hc => absurd hc (by decide)) (fun _ => ?_)
    refine VB_iload (q := 73) dL_law_71 7 rfl rfl ?_
    refine VB_if_eq (q := 76) (tgt := 977) dL_law_73 (by decide) (by decide) (fun _ => ?_) (fun hc => absurd hc (by decide))
    refine VB_iload (q := 979) dL_law_977 7 rfl rfl ?_
    exact VB_ret0 dL_law_979 rfl
  refine VB_uif_eq (q := 799) (tgt := 968) dL_law_796 (by decide) ?_ ?_
  · skip
    exact VB_widen (by omega) (by omega) (J968 g793 hg793)
  · skip
    refine VB_iload (q := 801) dL_law_799 8 rfl rfl ?_
    refine VB_iconst (q := 802) dL_law_801 rfl ?_
    refine VB_irem (q := 803) (a := 49) (b := 2) dL_law_802 (by omega) (by decide) (by decide) rfl ?_
    refine VB_top (y := iZ 1) rfl ?_
    refine VB_if_gt (q := 806) (tgt := 833) dL_law_803 (by decide) (by decide) (fun _ => ?_) (fun hc => absurd hc (by decide))
    refine VB_aload_n (q := 834) dL_law_833 1 rfl rfl ?_
    refine VB_aload_n (q := 835) dL_law_834 2 rfl rfl ?_
    refine VB_aload_n (q := 836) dL_law_835 3 rfl rfl ?_
    refine VB_aload (q := 838) dL_law_836 4 rfl rfl ?_
    refine VB_aload (q := 840) dL_law_838 6 rfl rfl ?_
    refine VB_callU (q := 843) dL_law_840 (u_isMissing (a := a) (c := c) (S := S) (b := b) (d := d) (F := F) hI hg793) yv_L_isMissing rfl gL_law_L_isMissing xU_L rfl (Nat.le_of_ble_eq_true rfl) (by decide) ⟨by show _ ≤ 20000; omega, by show _ ≤ 130000; omega⟩ (fun x840 g840 hP840 hg840 => ?_)
    refine VB_lo (lo' := 123) (Nat.le_add_right _ _) ?_
    refine VB_uif_eq (q := 846) (tgt := 968) dL_law_843 (by decide) ?_ ?_
    · skip
      exact VB_widen (by omega) (by omega) (J968 g840 hg840)
    · skip
      refine VB_aload_n (q := 847) dL_law_846 1 rfl rfl ?_
      refine VB_aload_n (q := 848) dL_law_847 2 rfl rfl ?_
      refine VB_aload (q := 850) dL_law_848 6 rfl rfl ?_
      refine VB_iload (q := 852) dL_law_850 10 rfl rfl ?_
      refine VB_aload (q := 854) dL_law_852 6 rfl rfl ?_
      refine VB_iconst (q := 855) dL_law_854 rfl ?_
      refine VB_iald (q := 856) (v := (iZ 4)) dL_law_855 13 12 rfl rfl (0) (by omega) (by omega) (by decide) (hM0) rfl ?_
      refine VB_iconst (q := 857) dL_law_856 rfl ?_
      refine VB_iadd (q := 858) dL_law_857 rfl ?_
      refine VB_top (y := iZ 5) rfl ?_
      refine VB_irem (q := 859) (a := 0) (b := 5) dL_law_858 (by omega) (by decide) (by decide) rfl ?_
      refine VB_top (y := iZ 0) rfl ?_
      refine VB_iload (q := 861) dL_law_859 10 rfl rfl ?_
      refine VB_bipush (q := 863) dL_law_861 (by decide) rfl ?_
      refine VB_idiv (q := 864) (a := 0) (b := 13) dL_law_863 (by omega) (by decide) (by decide) rfl ?_
      refine VB_top (y := iZ 0) rfl ?_
      refine VB_aload (q := 866) dL_law_864 6 rfl rfl ?_
      refine VB_iconst (q := 867) dL_law_866 rfl ?_
      refine VB_iald (q := 868) (v := (iZ 4)) dL_law_867 13 12 rfl rfl (0) (by omega) (by omega) (by decide) (hM0) rfl ?_
      refine VB_iconst (q := 869) dL_law_868 rfl ?_
      refine VB_iadd (q := 870) dL_law_869 rfl ?_
      refine VB_top (y := iZ 5) rfl ?_
      refine VB_irem (q := 871) (a := 0) (b := 5) dL_law_870 (by omega) (by decide) (by decide) rfl ?_
      refine VB_top (y := iZ 0) rfl ?_
      refine VB_iload (q := 873) dL_law_871 10 rfl rfl ?_
      refine VB_sipush (q := 876) dL_law_873 (by decide) rfl ?_
      refine VB_idiv (q := 877) (a := 0) (b := 169) dL_law_876 (by omega) (by decide) (by decide) rfl ?_
      refine VB_top (y := iZ 0) rfl ?_
      refine VB_aload (q := 879) dL_law_877 6 rfl rfl ?_
      refine VB_iconst (q := 880) dL_law_879 rfl ?_
      refine VB_iald (q := 881) (v := (iZ 4)) dL_law_880 13 12 rfl rfl (0) (by omega) (by omega) (by decide) (hM0) rfl ?_
      refine VB_iconst (q := 882) dL_law_881 rfl ?_
      refine VB_iadd (q := 883) dL_law_882 rfl ?_
      refine VB_top (y := iZ 6) rfl ?_
      refine VB_irem (q := 884) (a := 0) (b := 6) dL_law_883 (by omega) (by decide) (by decide) rfl ?_
      refine VB_top (y := iZ 0) rfl ?_
      refine VB_iconst (q := 885) dL_law_884 rfl ?_
      refine VB_isub (q := 886) dL_law_885 rfl ?_
      refine VB_top (y := iZ (-1)) rfl ?_
      refine VB_callU (q := 889) dL_law_886 (u_isWrong (a := a) (c := c) (S := S) (b := b) (d := d) (F := F) hI (wr0 hI (by decide) hK) hg840) yv_L_isWrong rfl gL_law_L_isWrong xU_L rfl (Nat.le_of_ble_eq_true rfl) (by decide) ⟨by show _ ≤ 20000; omega, by show _ ≤ 130000; omega⟩ (fun x886 g886 hP886 hg886 => ?_)
      refine VB_em (x := x886) (fun e886 => VB_lo (lo' := 123) (Nat.le_add_right _ _) (VB_top (y := iZ 0) e886 ?_)) (fun e886 => VB_lo (lo' := 125) (by show 125 ≤ 123 + (if x886 = 0 then 0 else 2); rw [if_neg e886]; omega) ?_)
      · skip
        refine VB_if_eq (q := 892) (tgt := 968) dL_law_889 (by decide) (by decide) (fun _ => ?_) (fun hc => absurd hc (by decide))
        exact VB_widen (by omega) (by omega) (J968 g886 hg886)
      · skip
        refine VB_uif_eq (q := 892) (tgt := 968) dL_law_889 (by decide) ?_ ?_
        · skip
          refine VB_lo (lo' := 123) (by omega) ?_
          exact VB_widen (by omega) (by omega) (J968 g886 hg886)
        · skip
          refine VB_iload (q := 894) dL_law_892 8 rfl rfl ?_
          refine VB_bipush (q := 896) dL_law_894 (by decide) rfl ?_
          refine VB_irem (q := 897) (a := 49) (b := 16) dL_law_896 (by omega) (by decide) (by decide) rfl ?_
          refine VB_top (y := iZ 1) rfl ?_
          refine VB_if_gt (q := 900) (tgt := 943) dL_law_897 (by decide) (by decide) (fun _ => ?_) (fun hc => absurd hc (by decide))
          refine VB_iload (q := 945) dL_law_943 8 rfl rfl ?_
          refine VB_bipush (q := 947) dL_law_945 (by decide) rfl ?_
          refine VB_irem (q := 948) (a := 49) (b := 20) dL_law_947 (by omega) (by decide) (by decide) rfl ?_
          refine VB_top (y := iZ 9) rfl ?_
          refine VB_if_gt (q := 951) (tgt := 964) dL_law_948 (by decide) (by decide) (fun _ => ?_) (fun hc => absurd hc (by decide))
          refine VB_iconst (q := 965) dL_law_964 rfl ?_
          refine VB_goto (tgt := 969) dL_law_965 (by decide) ?_
          refine VB_istore (q := 971) (lv' := [(0, _), (1, _), (2, _), (3, _), (4, _), (5, _), (6, _), (7, _), (8, _), (9, _), (10, _)]) dL_law_969 (by decide) rfl rfl ?_
          refine VB_iinc (q := 974) (y := 50) (lv' := [(0, _), (1, _), (2, _), (3, _), (4, _), (5, _), (6, _), (7, _), (8, _), (9, _), (10, _)]) dL_law_971 8 rfl (by omega) (by decide) rfl rfl ?_
          refine VB_goto (tgt := 64) dL_law_974 (by decide) ?_
          refine VB_loc (lv' := [(0, _), (1, _), (2, _), (3, _), (4, _), (5, _), (6, _), (7, _), (8, _)]) [0, 1, 2, 3, 4, 5, 6, 7, 8] rfl ?_
          refine VB_lo (lo' := 123) (by omega) ?_
          exact VB_widen (by omega) (by omega) (rd50 hL h16 hx S F g886 hI (fun _ => hK) hg886)
set_option maxRecDepth 100000 in
set_option maxHeartbeats 8000000 in
theorem rd49 {s0 L : Nat} {xs : Nat → Int32} {a : Nat → Nat} {c : Nat → ClassId} {b : Nat → Nat} {d : Nat → ClassId} (hL : L ≤ 260) (h16 : 80 ≤ L) (hx : ∀ j, j < 80 → xs j = 31) : ∀ (S : St) (F : Nat → Nat → Int32) (g : Nat → Nat), Iv S F 4 → (0 < 49 → sK S 0 = 0) → (∀ j, g j < 4096) → VB 123 RL cL_law 17 (some .boolean) wsL_law roomB (vXL s0 L xs) (tyl c d) (qF 123) (6382) (38292 + 1250) (wal a c S b d F g) 64 [(0, .ref (s0)), (1, .ref (a 0)), (2, .ref (b 0)), (3, .ref (b 1)), (4, .ref (b 2)), (5, .ref (b 3)), (6, .ref (b 4)), (7, .int (iZ 1)), (8, .int (iZ 49))] [] := by
  intro S F g hI hK hg
  obtain ⟨ho, hn, hm4, hM0, hG, hC⟩ := id hI
  refine VB_iload (q := 66) dL_law_64 8 rfl rfl ?_
  refine VB_bipush (q := 68) dL_law_66 (by decide) rfl ?_
  refine VB_icmp_ge (q := 71) (tgt := 977) dL_law_68 (by decide) (by decide) (by decide) (fun hc => absurd hc (by decide)) (fun _ => ?_)
  refine VB_iload (q := 73) dL_law_71 7 rfl rfl ?_
  refine VB_if_eq (q := 76) (tgt := 977) dL_law_73 (by decide) (by decide) (fun hc => absurd hc (by decide)) (fun _ => ?_)
  refine VB_aload_n (q := 77) dL_law_76 0 rfl rfl ?_
  refine VB_iload (q := 79) dL_law_77 8 rfl rfl ?_
  refine VB_callD (q := 82) dL_law_79 (u_dice (b := s0) (L := L) (xs := xs) 49 (by omega) hL (hx 49 (by omega))) yv_L_dice rfl gL_law_L_dice xL_s rfl (Nat.le_of_ble_eq_true rfl) (by decide) ⟨by show _ ≤ 20000; omega, by show _ ≤ 130000; omega⟩ ?_
  refine VB_istore (q := 84) (lv' := [(0, _), (1, _), (2, _), (3, _), (4, _), (5, _), (6, _), (7, _), (8, _), (9, _)]) dL_law_82 (by decide) rfl rfl ?_
  refine VB_iload (q := 86) dL_law_84 9 rfl rfl ?_
  refine VB_bipush (q := 88) dL_law_86 (by decide) rfl ?_
  refine VB_idiv (q := 89) (a := 31) (b := 32) dL_law_88 (by omega) (by decide) (by decide) rfl ?_
  refine VB_top (y := iZ 0) rfl ?_
  refine VB_istore (q := 91) (lv' := [(0, _), (1, _), (2, _), (3, _), (4, _), (5, _), (6, _), (7, _), (8, _), (9, _), (10, _)]) dL_law_89 (by decide) rfl rfl ?_
  refine VB_iload (q := 93) dL_law_91 9 rfl rfl ?_
  refine VB_bipush (q := 95) dL_law_93 (by decide) rfl ?_
  refine VB_irem (q := 96) (a := 31) (b := 32) dL_law_95 (by omega) (by decide) (by decide) rfl ?_
  refine VB_top (y := iZ 31) rfl ?_
  refine VB_istore (q := 98) (lv' := [(0, _), (1, _), (2, _), (3, _), (4, _), (5, _), (6, _), (7, _), (8, _), (9, _), (10, _), (11, _)]) dL_law_96 (by decide) rfl rfl ?_
  refine VB_aload (q := 100) dL_law_98 6 rfl rfl ?_
  refine VB_iconst (q := 101) dL_law_100 rfl ?_
  refine VB_iald (q := 102) (v := (iZ 4)) dL_law_101 13 12 rfl rfl (0) (by omega) (by omega) (by decide) (hM0) rfl ?_
  refine VB_if_ne (q := 105) (tgt := 109) dL_law_102 (by decide) (by decide) (fun _ => ?_) (fun hc => absurd hc (by decide))
  refine VB_iload (q := 111) dL_law_109 10 rfl rfl ?_
  refine VB_aload (q := 113) dL_law_111 6 rfl rfl ?_
  refine VB_iconst (q := 114) dL_law_113 rfl ?_
  refine VB_iald (q := 115) (v := (iZ 4)) dL_law_114 13 12 rfl rfl (0) (by omega) (by omega) (by decide) (hM0) rfl ?_
  refine VB_irem (q := 116) (a := 0) (b := 4) dL_law_115 (by omega) (by decide) (by decide) rfl ?_
  refine VB_top (y := iZ 0) rfl ?_
  refine VB_istore (q := 118) (lv' := [(0, _), (1, _), (2, _), (3, _), (4, _), (5, _), (6, _), (7, _), (8, _), (9, _), (10, _), (11, _), (12, _)]) dL_law_116 (by decide) rfl rfl ?_
  refine VB_aload (q := 120) dL_law_118 6 rfl rfl ?_
  refine VB_iconst (q := 121) dL_law_120 rfl ?_
  refine VB_iald (q := 122) (v := (iZ 4)) dL_law_121 13 12 rfl rfl (0) (by omega) (by omega) (by decide) (hM0) rfl ?_
  refine VB_iconst (q := 123) dL_law_122 rfl ?_
  refine VB_icmp_lt (q := 126) (tgt := 141) dL_law_123 (by decide) (by decide) (by decide) (fun hc => absurd hc (by decide)) (fun _ => ?_)
  refine VB_iload (q := 128) dL_law_126 11 rfl rfl ?_
  refine VB_iconst (q := 129) dL_law_128 rfl ?_
  refine VB_icmp_ge (q := 132) (tgt := 326) dL_law_129 (by decide) (by decide) (by decide) (fun _ => ?_) (fun hc => absurd hc (by decide))
  refine VB_iload (q := 328) dL_law_326 11 rfl rfl ?_
  refine VB_bipush (q := 330) dL_law_328 (by decide) rfl ?_
  refine VB_icmp_ge (q := 333) (tgt := 451) dL_law_330 (by decide) (by decide) (by decide) (fun _ => ?_) (fun hc => absurd hc (by decide))
  refine VB_iload (q := 453) dL_law_451 11 rfl rfl ?_
  refine VB_bipush (q := 455) dL_law_453 (by decide) rfl ?_
  refine VB_icmp_ge (q := 458) (tgt := 603) dL_law_455 (by decide) (by decide) (by decide) (fun _ => ?_) (fun hc => absurd hc (by decide))
  refine VB_iload (q := 605) dL_law_603 11 rfl rfl ?_
  refine VB_bipush (q := 607) dL_law_605 (by decide) rfl ?_
  refine VB_icmp_ge (q := 610) (tgt := 633) dL_law_607 (by decide) (by decide) (by decide) (fun _ => ?_) (fun hc => absurd hc (by decide))
  refine VB_iload (q := 635) dL_law_633 11 rfl rfl ?_
  refine VB_bipush (q := 637) dL_law_635 (by decide) rfl ?_
  refine VB_icmp_ge (q := 640) (tgt := 677) dL_law_637 (by decide) (by decide) (by decide) (fun _ => ?_) (fun hc => absurd hc (by decide))
  refine VB_iload (q := 679) dL_law_677 11 rfl rfl ?_
  refine VB_bipush (q := 681) dL_law_679 (by decide) rfl ?_
  refine VB_icmp_ne (q := 684) (tgt := 783) dL_law_681 (by decide) (by decide) (by decide) (fun _ => ?_) (fun hc => absurd hc (by decide))
  refine VB_loc (lv' := [(0, _), (1, _), (2, _), (3, _), (4, _), (5, _), (6, _), (7, _), (8, _), (9, _), (10, _)]) [0, 1, 2, 3, 4, 5, 6, 7, 8, 9, 10] rfl ?_
  exact VB_widen (by omega) (by omega) (ck49 hL h16 hx S F g hI (hK (by decide)) hg)
set_option maxRecDepth 100000 in
set_option maxHeartbeats 8000000 in
theorem ck48 {s0 L : Nat} {xs : Nat → Int32} {a : Nat → Nat} {c : Nat → ClassId} {b : Nat → Nat} {d : Nat → ClassId} (hL : L ≤ 260) (h16 : 80 ≤ L) (hx : ∀ j, j < 80 → xs j = 31) : ∀ (S : St) (F : Nat → Nat → Int32) (g : Nat → Nat), Iv S F 4 → sK S 0 = 0 → (∀ j, g j < 4096) → VB 123 RL cL_law 17 (some .boolean) wsL_law roomB (vXL s0 L xs) (tyl c d) (qF 123) (6146) (36876 + 1250) (wal a c S b d F g) 783 [(0, .ref (s0)), (1, .ref (a 0)), (2, .ref (b 0)), (3, .ref (b 1)), (4, .ref (b 2)), (5, .ref (b 3)), (6, .ref (b 4)), (7, .int (iZ 1)), (8, .int (iZ 48)), (9, .int (iZ 31)), (10, .int (iZ 0))] [] := by
  intro S F g hI hK hg
  obtain ⟨ho, hn, hm4, hM0, hG, hC⟩ := id hI
  refine VB_iload (q := 785) dL_law_783 7 rfl rfl ?_
  refine VB_if_eq (q := 788) (tgt := 968) dL_law_785 (by decide) (by decide) (fun hc => absurd hc (by decide)) (fun _ => ?_)
  refine VB_aload_n (q := 789) dL_law_788 1 rfl rfl ?_
  refine VB_aload_n (q := 790) dL_law_789 2 rfl rfl ?_
  refine VB_aload_n (q := 791) dL_law_790 3 rfl rfl ?_
  refine VB_aload (q := 793) dL_law_791 6 rfl rfl ?_
  refine VB_callU (q := 796) dL_law_793 (u_areThings (a := a) (c := c) (S := S) (b := b) (d := d) (F := F) hI hg) yv_L_areThings rfl gL_law_L_areThings xU_L rfl (Nat.le_of_ble_eq_true rfl) (by decide) ⟨by show _ ≤ 20000; omega, by show _ ≤ 130000; omega⟩ (fun x793 g793 hP793 hg793 => ?_)
  refine VB_lo (lo' := 123) (Nat.le_add_right _ _) ?_
  have J968 : ∀ (gj968 : Nat → Nat), (∀ j, gj968 j < 4096) → VB 123 RL cL_law 17 (some .boolean) wsL_law roomB (vXL s0 L xs) (tyl c d) (qF 123) (6382) (38292 + 1250) (wal a c S b d F gj968) 968 [(0, .ref (s0)), (1, .ref (a 0)), (2, .ref (b 0)), (3, .ref (b 1)), (4, .ref (b 2)), (5, .ref (b 3)), (6, .ref (b 4)), (7, .int (iZ 1)), (8, .int (iZ 48)), (9, .int (iZ 31)), (10, .int (iZ 0))] [] := by
    intro gj968 hgj968
    refine VB_iconst (q := 969) dL_law_968 rfl ?_
    refine VB_istore (q := 971) (lv' := [(0, _), (1, _), (2, _), (3, _), (4, _), (5, _), (6, _), (7, _), (8, _), (9, _), (10, _)]) dL_law_969 (by decide) rfl rfl ?_
    refine VB_iinc (q := 974) (y := 49) (lv' := [(0, _), (1, _), (2, _), (3, _), (4, _), (5, _), (6, _), (7, _), (8, _), (9, _), (10, _)]) dL_law_971 8 rfl (by omega) (by decide) rfl rfl ?_
    refine VB_goto (tgt := 64) dL_law_974 (by decide) ?_
    refine VB_iload (q := 66) dL_law_64 8 rfl rfl ?_
    refine VB_bipush (q := 68) dL_law_66 (by decide) rfl ?_
    refine VB_icmp_ge (q := 71) (tgt := 977) dL_law_68 (by decide) (by decide) (by decide) (fun hc => absurd hc (by decide)) (fun _ => ?_)
    refine VB_iload (q := 73) dL_law_71 7 rfl rfl ?_
    refine VB_if_eq (q := 76) (tgt := 977) dL_law_73 (by decide) (by decide) (fun _ => ?_) (fun hc => absurd hc (by decide))
    refine VB_iload (q := 979) dL_law_977 7 rfl rfl ?_
    exact VB_ret0 dL_law_979 rfl
  refine VB_uif_eq (q := 799) (tgt := 968) dL_law_796 (by decide) ?_ ?_
  · skip
    exact VB_widen (by omega) (by omega) (J968 g793 hg793)
  · skip
    refine VB_iload (q := 801) dL_law_799 8 rfl rfl ?_
    refine VB_iconst (q := 802) dL_law_801 rfl ?_
    refine VB_irem (q := 803) (a := 48) (b := 2) dL_law_802 (by omega) (by decide) (by decide) rfl ?_
    refine VB_top (y := iZ 0) rfl ?_
    refine VB_if_gt (q := 806) (tgt := 833) dL_law_803 (by decide) (by decide) (fun hc => absurd hc (by decide)) (fun _ => ?_)
    refine VB_aload_n (q := 807) dL_law_806 1 rfl rfl ?_
    refine VB_aload_n (q := 808) dL_law_807 2 rfl rfl ?_
    refine VB_aload_n (q := 809) dL_law_808 3 rfl rfl ?_
    refine VB_aload (q := 811) dL_law_809 4 rfl rfl ?_
    refine VB_aload (q := 813) dL_law_811 6 rfl rfl ?_
    refine VB_iload (q := 815) dL_law_813 10 rfl rfl ?_
    refine VB_bipush (q := 817) dL_law_815 (by decide) rfl ?_
    refine VB_irem (q := 818) (a := 0) (b := 31) dL_law_817 (by omega) (by decide) (by decide) rfl ?_
    refine VB_top (y := iZ 0) rfl ?_
    refine VB_iload (q := 820) dL_law_818 10 rfl rfl ?_
    refine VB_bipush (q := 822) dL_law_820 (by decide) rfl ?_
    refine VB_idiv (q := 823) (a := 0) (b := 31) dL_law_822 (by omega) (by decide) (by decide) rfl ?_
    refine VB_top (y := iZ 0) rfl ?_
    refine VB_sipush (q := 826) dL_law_823 (by decide) rfl ?_
    refine VB_irem (q := 827) (a := 0) (b := 256) dL_law_826 (by omega) (by decide) (by decide) rfl ?_
    refine VB_top (y := iZ 0) rfl ?_
    refine VB_callU (q := 830) dL_law_827 (u_areOutfits (a := a) (c := c) (S := S) (b := b) (d := d) (F := F) hI hg793) yv_L_areOutfits rfl gL_law_L_areOutfits xU_L rfl (Nat.le_of_ble_eq_true rfl) (by decide) ⟨by show _ ≤ 20000; omega, by show _ ≤ 130000; omega⟩ (fun x827 g827 hP827 hg827 => ?_)
    refine VB_lo (lo' := 123) (Nat.le_add_right _ _) ?_
    refine VB_uif_eq (q := 833) (tgt := 968) dL_law_830 (by decide) ?_ ?_
    · skip
      exact VB_widen (by omega) (by omega) (J968 g827 hg827)
    · skip
      refine VB_aload_n (q := 834) dL_law_833 1 rfl rfl ?_
      refine VB_aload_n (q := 835) dL_law_834 2 rfl rfl ?_
      refine VB_aload_n (q := 836) dL_law_835 3 rfl rfl ?_
      refine VB_aload (q := 838) dL_law_836 4 rfl rfl ?_
      refine VB_aload (q := 840) dL_law_838 6 rfl rfl ?_
      refine VB_callU (q := 843) dL_law_840 (u_isMissing (a := a) (c := c) (S := S) (b := b) (d := d) (F := F) hI hg827) yv_L_isMissing rfl gL_law_L_isMissing xU_L rfl (Nat.le_of_ble_eq_true rfl) (by decide) ⟨by show _ ≤ 20000; omega, by show _ ≤ 130000; omega⟩ (fun x840 g840 hP840 hg840 => ?_)
      refine VB_lo (lo' := 123) (Nat.le_add_right _ _) ?_
      refine VB_uif_eq (q := 846) (tgt := 968) dL_law_843 (by decide) ?_ ?_
      · skip
        exact VB_widen (by omega) (by omega) (J968 g840 hg840)
      · skip
        refine VB_aload_n (q := 847) dL_law_846 1 rfl rfl ?_
        refine VB_aload_n (q := 848) dL_law_847 2 rfl rfl ?_
        refine VB_aload (q := 850) dL_law_848 6 rfl rfl ?_
        refine VB_iload (q := 852) dL_law_850 10 rfl rfl ?_
        refine VB_aload (q := 854) dL_law_852 6 rfl rfl ?_
        refine VB_iconst (q := 855) dL_law_854 rfl ?_
        refine VB_iald (q := 856) (v := (iZ 4)) dL_law_855 13 12 rfl rfl (0) (by omega) (by omega) (by decide) (hM0) rfl ?_
        refine VB_iconst (q := 857) dL_law_856 rfl ?_
        refine VB_iadd (q := 858) dL_law_857 rfl ?_
        refine VB_top (y := iZ 5) rfl ?_
        refine VB_irem (q := 859) (a := 0) (b := 5) dL_law_858 (by omega) (by decide) (by decide) rfl ?_
        refine VB_top (y := iZ 0) rfl ?_
        refine VB_iload (q := 861) dL_law_859 10 rfl rfl ?_
        refine VB_bipush (q := 863) dL_law_861 (by decide) rfl ?_
        refine VB_idiv (q := 864) (a := 0) (b := 13) dL_law_863 (by omega) (by decide) (by decide) rfl ?_
        refine VB_top (y := iZ 0) rfl ?_
        refine VB_aload (q := 866) dL_law_864 6 rfl rfl ?_
        refine VB_iconst (q := 867) dL_law_866 rfl ?_
        refine VB_iald (q := 868) (v := (iZ 4)) dL_law_867 13 12 rfl rfl (0) (by omega) (by omega) (by decide) (hM0) rfl ?_
        refine VB_iconst (q := 869) dL_law_868 rfl ?_
        refine VB_iadd (q := 870) dL_law_869 rfl ?_
        refine VB_top (y := iZ 5) rfl ?_
        refine VB_irem (q := 871) (a := 0) (b := 5) dL_law_870 (by omega) (by decide) (by decide) rfl ?_
        refine VB_top (y := iZ 0) rfl ?_
        refine VB_iload (q := 873) dL_law_871 10 rfl rfl ?_
        refine VB_sipush (q := 876) dL_law_873 (by decide) rfl ?_
        refine VB_idiv (q := 877) (a := 0) (b := 169) dL_law_876 (by omega) (by decide) (by decide) rfl ?_
        refine VB_top (y := iZ 0) rfl ?_
        refine VB_aload (q := 879) dL_law_877 6 rfl rfl ?_
        refine VB_iconst (q := 880) dL_law_879 rfl ?_
        refine VB_iald (q := 881) (v := (iZ 4)) dL_law_880 13 12 rfl rfl (0) (by omega) (by omega) (by decide) (hM0) rfl ?_
        refine VB_iconst (q := 882) dL_law_881 rfl ?_
        refine VB_iadd (q := 883) dL_law_882 rfl ?_
        refine VB_top (y := iZ 6) rfl ?_
        refine VB_irem (q := 884) (a := 0) (b := 6) dL_law_883 (by omega) (by decide) (by decide) rfl ?_
        refine VB_top (y := iZ 0) rfl ?_
        refine VB_iconst (q := 885) dL_law_884 rfl ?_
        refine VB_isub (q := 886) dL_law_885 rfl ?_
        refine VB_top (y := iZ (-1)) rfl ?_
        refine VB_callU (q := 889) dL_law_886 (u_isWrong (a := a) (c := c) (S := S) (b := b) (d := d) (F := F) hI (wr0 hI (by decide) hK) hg840) yv_L_isWrong rfl gL_law_L_isWrong xU_L rfl (Nat.le_of_ble_eq_true rfl) (by decide) ⟨by show _ ≤ 20000; omega, by show _ ≤ 130000; omega⟩ (fun x886 g886 hP886 hg886 => ?_)
        refine VB_em (x := x886) (fun e886 => VB_lo (lo' := 123) (Nat.le_add_right _ _) (VB_top (y := iZ 0) e886 ?_)) (fun e886 => VB_lo (lo' := 125) (by show 125 ≤ 123 + (if x886 = 0 then 0 else 2); rw [if_neg e886]; omega) ?_)
        · skip
          refine VB_if_eq (q := 892) (tgt := 968) dL_law_889 (by decide) (by decide) (fun _ => ?_) (fun hc => absurd hc (by decide))
          exact VB_widen (by omega) (by omega) (J968 g886 hg886)
        · skip
          refine VB_uif_eq (q := 892) (tgt := 968) dL_law_889 (by decide) ?_ ?_
          · skip
            refine VB_lo (lo' := 123) (by omega) ?_
            exact VB_widen (by omega) (by omega) (J968 g886 hg886)
          · skip
            refine VB_iload (q := 894) dL_law_892 8 rfl rfl ?_
            refine VB_bipush (q := 896) dL_law_894 (by decide) rfl ?_
            refine VB_irem (q := 897) (a := 48) (b := 16) dL_law_896 (by omega) (by decide) (by decide) rfl ?_
            refine VB_top (y := iZ 0) rfl ?_
            refine VB_if_gt (q := 900) (tgt := 943) dL_law_897 (by decide) (by decide) (fun hc => absurd hc (by decide)) (fun _ => ?_)
            refine VB_aload_n (q := 901) dL_law_900 1 rfl rfl ?_
            refine VB_aload_n (q := 902) dL_law_901 2 rfl rfl ?_
            refine VB_aload_n (q := 903) dL_law_902 3 rfl rfl ?_
            refine VB_aload (q := 905) dL_law_903 6 rfl rfl ?_
            refine VB_iload (q := 907) dL_law_905 10 rfl rfl ?_
            refine VB_bipush (q := 909) dL_law_907 (by decide) rfl ?_
            refine VB_idiv (q := 910) (a := 0) (b := 13) dL_law_909 (by omega) (by decide) (by decide) rfl ?_
            refine VB_top (y := iZ 0) rfl ?_
            refine VB_iconst (q := 911) dL_law_910 rfl ?_
            refine VB_iload (q := 913) dL_law_911 10 rfl rfl ?_
            refine VB_bipush (q := 915) dL_law_913 (by decide) rfl ?_
            refine VB_irem (q := 916) (a := 0) (b := 20) dL_law_915 (by omega) (by decide) (by decide) rfl ?_
            refine VB_top (y := iZ 0) rfl ?_
            refine VB_iadd (q := 917) dL_law_916 rfl ?_
            refine VB_top (y := iZ 1) rfl ?_
            refine VB_iload (q := 919) dL_law_917 10 rfl rfl ?_
            refine VB_bipush (q := 921) dL_law_919 (by decide) rfl ?_
            refine VB_idiv (q := 922) (a := 0) (b := 20) dL_law_921 (by omega) (by decide) (by decide) rfl ?_
            refine VB_top (y := iZ 0) rfl ?_
            refine VB_iload (q := 924) dL_law_922 10 rfl rfl ?_
            refine VB_iconst (q := 925) dL_law_924 rfl ?_
            refine VB_irem (q := 926) (a := 0) (b := 3) dL_law_925 (by omega) (by decide) (by decide) rfl ?_
            refine VB_top (y := iZ 0) rfl ?_
            refine VB_if_ne (q := 929) (tgt := 934) dL_law_926 (by decide) (by decide) (fun hc => absurd hc (by decide)) (fun _ => ?_)
            refine VB_bipush (q := 931) dL_law_929 (by decide) rfl ?_
            refine VB_goto (tgt := 936) dL_law_931 (by decide) ?_
            refine VB_irem (q := 937) (a := 0) (b := 21) dL_law_936 (by omega) (by decide) (by decide) rfl ?_
            refine VB_top (y := iZ 0) rfl ?_
            refine VB_callU (q := 940) dL_law_937 (u_isBag (a := a) (c := c) (S := S) (b := b) (d := d) (F := F) hI hg886) yv_L_isBag rfl gL_law_L_isBag xU_L rfl (Nat.le_of_ble_eq_true rfl) (by decide) ⟨by show _ ≤ 20000; omega, by show _ ≤ 130000; omega⟩ (fun x937 g937 hP937 hg937 => ?_)
            refine VB_lo (lo' := 125) (Nat.le_add_right _ _) ?_
            refine VB_uif_eq (q := 943) (tgt := 968) dL_law_940 (by decide) ?_ ?_
            · skip
              refine VB_lo (lo' := 123) (by omega) ?_
              exact VB_widen (by omega) (by omega) (J968 g937 hg937)
            · skip
              refine VB_iload (q := 945) dL_law_943 8 rfl rfl ?_
              refine VB_bipush (q := 947) dL_law_945 (by decide) rfl ?_
              refine VB_irem (q := 948) (a := 48) (b := 20) dL_law_947 (by omega) (by decide) (by decide) rfl ?_
              refine VB_top (y := iZ 8) rfl ?_
              refine VB_if_gt (q := 951) (tgt := 964) dL_law_948 (by decide) (by decide) (fun _ => ?_) (fun hc => absurd hc (by decide))
              refine VB_iconst (q := 965) dL_law_964 rfl ?_
              refine VB_goto (tgt := 969) dL_law_965 (by decide) ?_
              refine VB_istore (q := 971) (lv' := [(0, _), (1, _), (2, _), (3, _), (4, _), (5, _), (6, _), (7, _), (8, _), (9, _), (10, _)]) dL_law_969 (by decide) rfl rfl ?_
              refine VB_iinc (q := 974) (y := 49) (lv' := [(0, _), (1, _), (2, _), (3, _), (4, _), (5, _), (6, _), (7, _), (8, _), (9, _), (10, _)]) dL_law_971 8 rfl (by omega) (by decide) rfl rfl ?_
              refine VB_goto (tgt := 64) dL_law_974 (by decide) ?_
              refine VB_loc (lv' := [(0, _), (1, _), (2, _), (3, _), (4, _), (5, _), (6, _), (7, _), (8, _)]) [0, 1, 2, 3, 4, 5, 6, 7, 8] rfl ?_
              refine VB_lo (lo' := 123) (by omega) ?_
              exact VB_widen (by omega) (by omega) (rd49 hL h16 hx S F g937 hI (fun _ => hK) hg937)
set_option maxRecDepth 100000 in
set_option maxHeartbeats 8000000 in
theorem rd48 {s0 L : Nat} {xs : Nat → Int32} {a : Nat → Nat} {c : Nat → ClassId} {b : Nat → Nat} {d : Nat → ClassId} (hL : L ≤ 260) (h16 : 80 ≤ L) (hx : ∀ j, j < 80 → xs j = 31) : ∀ (S : St) (F : Nat → Nat → Int32) (g : Nat → Nat), Iv S F 4 → (0 < 48 → sK S 0 = 0) → (∀ j, g j < 4096) → VB 123 RL cL_law 17 (some .boolean) wsL_law roomB (vXL s0 L xs) (tyl c d) (qF 123) (6146) (36876 + 1250) (wal a c S b d F g) 64 [(0, .ref (s0)), (1, .ref (a 0)), (2, .ref (b 0)), (3, .ref (b 1)), (4, .ref (b 2)), (5, .ref (b 3)), (6, .ref (b 4)), (7, .int (iZ 1)), (8, .int (iZ 48))] [] := by
  intro S F g hI hK hg
  obtain ⟨ho, hn, hm4, hM0, hG, hC⟩ := id hI
  refine VB_iload (q := 66) dL_law_64 8 rfl rfl ?_
  refine VB_bipush (q := 68) dL_law_66 (by decide) rfl ?_
  refine VB_icmp_ge (q := 71) (tgt := 977) dL_law_68 (by decide) (by decide) (by decide) (fun hc => absurd hc (by decide)) (fun _ => ?_)
  refine VB_iload (q := 73) dL_law_71 7 rfl rfl ?_
  refine VB_if_eq (q := 76) (tgt := 977) dL_law_73 (by decide) (by decide) (fun hc => absurd hc (by decide)) (fun _ => ?_)
  refine VB_aload_n (q := 77) dL_law_76 0 rfl rfl ?_
  refine VB_iload (q := 79) dL_law_77 8 rfl rfl ?_
  refine VB_callD (q := 82) dL_law_79 (u_dice (b := s0) (L := L) (xs := xs) 48 (by omega) hL (hx 48 (by omega))) yv_L_dice rfl gL_law_L_dice xL_s rfl (Nat.le_of_ble_eq_true rfl) (by decide) ⟨by show _ ≤ 20000; omega, by show _ ≤ 130000; omega⟩ ?_
  refine VB_istore (q := 84) (lv' := [(0, _), (1, _), (2, _), (3, _), (4, _), (5, _), (6, _), (7, _), (8, _), (9, _)]) dL_law_82 (by decide) rfl rfl ?_
  refine VB_iload (q := 86) dL_law_84 9 rfl rfl ?_
  refine VB_bipush (q := 88) dL_law_86 (by decide) rfl ?_
  refine VB_idiv (q := 89) (a := 31) (b := 32) dL_law_88 (by omega) (by decide) (by decide) rfl ?_
  refine VB_top (y := iZ 0) rfl ?_
  refine VB_istore (q := 91) (lv' := [(0, _), (1, _), (2, _), (3, _), (4, _), (5, _), (6, _), (7, _), (8, _), (9, _), (10, _)]) dL_law_89 (by decide) rfl rfl ?_
  refine VB_iload (q := 93) dL_law_91 9 rfl rfl ?_
  refine VB_bipush (q := 95) dL_law_93 (by decide) rfl ?_
  refine VB_irem (q := 96) (a := 31) (b := 32) dL_law_95 (by omega) (by decide) (by decide) rfl ?_
  refine VB_top (y := iZ 31) rfl ?_
  refine VB_istore (q := 98) (lv' := [(0, _), (1, _), (2, _), (3, _), (4, _), (5, _), (6, _), (7, _), (8, _), (9, _), (10, _), (11, _)]) dL_law_96 (by decide) rfl rfl ?_
  refine VB_aload (q := 100) dL_law_98 6 rfl rfl ?_
  refine VB_iconst (q := 101) dL_law_100 rfl ?_
  refine VB_iald (q := 102) (v := (iZ 4)) dL_law_101 13 12 rfl rfl (0) (by omega) (by omega) (by decide) (hM0) rfl ?_
  refine VB_if_ne (q := 105) (tgt := 109) dL_law_102 (by decide) (by decide) (fun _ => ?_) (fun hc => absurd hc (by decide))
  refine VB_iload (q := 111) dL_law_109 10 rfl rfl ?_
  refine VB_aload (q := 113) dL_law_111 6 rfl rfl ?_
  refine VB_iconst (q := 114) dL_law_113 rfl ?_
  refine VB_iald (q := 115) (v := (iZ 4)) dL_law_114 13 12 rfl rfl (0) (by omega) (by omega) (by decide) (hM0) rfl ?_
  refine VB_irem (q := 116) (a := 0) (b := 4) dL_law_115 (by omega) (by decide) (by decide) rfl ?_
  refine VB_top (y := iZ 0) rfl ?_
  refine VB_istore (q := 118) (lv' := [(0, _), (1, _), (2, _), (3, _), (4, _), (5, _), (6, _), (7, _), (8, _), (9, _), (10, _), (11, _), (12, _)]) dL_law_116 (by decide) rfl rfl ?_
  refine VB_aload (q := 120) dL_law_118 6 rfl rfl ?_
  refine VB_iconst (q := 121) dL_law_120 rfl ?_
  refine VB_iald (q := 122) (v := (iZ 4)) dL_law_121 13 12 rfl rfl (0) (by omega) (by omega) (by decide) (hM0) rfl ?_
  refine VB_iconst (q := 123) dL_law_122 rfl ?_
  refine VB_icmp_lt (q := 126) (tgt := 141) dL_law_123 (by decide) (by decide) (by decide) (fun hc => absurd hc (by decide)) (fun _ => ?_)
  refine VB_iload (q := 128) dL_law_126 11 rfl rfl ?_
  refine VB_iconst (q := 129) dL_law_128 rfl ?_
  refine VB_icmp_ge (q := 132) (tgt := 326) dL_law_129 (by decide) (by decide) (by decide) (fun _ => ?_) (fun hc => absurd hc (by decide))
  refine VB_iload (q := 328) dL_law_326 11 rfl rfl ?_
  refine VB_bipush (q := 330) dL_law_328 (by decide) rfl ?_
  refine VB_icmp_ge (q := 333) (tgt := 451) dL_law_330 (by decide) (by decide) (by decide) (fun _ => ?_) (fun hc => absurd hc (by decide))
  refine VB_iload (q := 453) dL_law_451 11 rfl rfl ?_
  refine VB_bipush (q := 455) dL_law_453 (by decide) rfl ?_
  refine VB_icmp_ge (q := 458) (tgt := 603) dL_law_455 (by decide) (by decide) (by decide) (fun _ => ?_) (fun hc => absurd hc (by decide))
  refine VB_iload (q := 605) dL_law_603 11 rfl rfl ?_
  refine VB_bipush (q := 607) dL_law_605 (by decide) rfl ?_
  refine VB_icmp_ge (q := 610) (tgt := 633) dL_law_607 (by decide) (by decide) (by decide) (fun _ => ?_) (fun hc => absurd hc (by decide))
  refine VB_iload (q := 635) dL_law_633 11 rfl rfl ?_
  refine VB_bipush (q := 637) dL_law_635 (by decide) rfl ?_
  refine VB_icmp_ge (q := 640) (tgt := 677) dL_law_637 (by decide) (by decide) (by decide) (fun _ => ?_) (fun hc => absurd hc (by decide))
  refine VB_iload (q := 679) dL_law_677 11 rfl rfl ?_
  refine VB_bipush (q := 681) dL_law_679 (by decide) rfl ?_
  refine VB_icmp_ne (q := 684) (tgt := 783) dL_law_681 (by decide) (by decide) (by decide) (fun _ => ?_) (fun hc => absurd hc (by decide))
  refine VB_loc (lv' := [(0, _), (1, _), (2, _), (3, _), (4, _), (5, _), (6, _), (7, _), (8, _), (9, _), (10, _)]) [0, 1, 2, 3, 4, 5, 6, 7, 8, 9, 10] rfl ?_
  exact VB_widen (by omega) (by omega) (ck48 hL h16 hx S F g hI (hK (by decide)) hg)
set_option maxRecDepth 100000 in
set_option maxHeartbeats 8000000 in
theorem ck47 {s0 L : Nat} {xs : Nat → Int32} {a : Nat → Nat} {c : Nat → ClassId} {b : Nat → Nat} {d : Nat → ClassId} (hL : L ≤ 260) (h16 : 80 ≤ L) (hx : ∀ j, j < 80 → xs j = 31) : ∀ (S : St) (F : Nat → Nat → Int32) (g : Nat → Nat), Iv S F 4 → sK S 0 = 0 → (∀ j, g j < 4096) → VB 123 RL cL_law 17 (some .boolean) wsL_law roomB (vXL s0 L xs) (tyl c d) (qF 123) (6126) (36756 + 1250) (wal a c S b d F g) 783 [(0, .ref (s0)), (1, .ref (a 0)), (2, .ref (b 0)), (3, .ref (b 1)), (4, .ref (b 2)), (5, .ref (b 3)), (6, .ref (b 4)), (7, .int (iZ 1)), (8, .int (iZ 47)), (9, .int (iZ 31)), (10, .int (iZ 0))] [] := by
  intro S F g hI hK hg
  obtain ⟨ho, hn, hm4, hM0, hG, hC⟩ := id hI
  refine VB_iload (q := 785) dL_law_783 7 rfl rfl ?_
  refine VB_if_eq (q := 788) (tgt := 968) dL_law_785 (by decide) (by decide) (fun hc => absurd hc (by decide)) (fun _ => ?_)
  refine VB_aload_n (q := 789) dL_law_788 1 rfl rfl ?_
  refine VB_aload_n (q := 790) dL_law_789 2 rfl rfl ?_
  refine VB_aload_n (q := 791) dL_law_790 3 rfl rfl ?_
  refine VB_aload (q := 793) dL_law_791 6 rfl rfl ?_
  refine VB_callU (q := 796) dL_law_793 (u_areThings (a := a) (c := c) (S := S) (b := b) (d := d) (F := F) hI hg) yv_L_areThings rfl gL_law_L_areThings xU_L rfl (Nat.le_of_ble_eq_true rfl) (by decide) ⟨by show _ ≤ 20000; omega, by show _ ≤ 130000; omega⟩ (fun x793 g793 hP793 hg793 => ?_)
  refine VB_lo (lo' := 123) (Nat.le_add_right _ _) ?_
  have J968 : ∀ (gj968 : Nat → Nat), (∀ j, gj968 j < 4096) → VB 123 RL cL_law 17 (some .boolean) wsL_law roomB (vXL s0 L xs) (tyl c d) (qF 123) (6146) (36876 + 1250) (wal a c S b d F gj968) 968 [(0, .ref (s0)), (1, .ref (a 0)), (2, .ref (b 0)), (3, .ref (b 1)), (4, .ref (b 2)), (5, .ref (b 3)), (6, .ref (b 4)), (7, .int (iZ 1)), (8, .int (iZ 47)), (9, .int (iZ 31)), (10, .int (iZ 0))] [] := by
    intro gj968 hgj968
    refine VB_iconst (q := 969) dL_law_968 rfl ?_
    refine VB_istore (q := 971) (lv' := [(0, _), (1, _), (2, _), (3, _), (4, _), (5, _), (6, _), (7, _), (8, _), (9, _), (10, _)]) dL_law_969 (by decide) rfl rfl ?_
    refine VB_iinc (q := 974) (y := 48) (lv' := [(0, _), (1, _), (2, _), (3, _), (4, _), (5, _), (6, _), (7, _), (8, _), (9, _), (10, _)]) dL_law_971 8 rfl (by omega) (by decide) rfl rfl ?_
    refine VB_goto (tgt := 64) dL_law_974 (by decide) ?_
    refine VB_iload (q := 66) dL_law_64 8 rfl rfl ?_
    refine VB_bipush (q := 68) dL_law_66 (by decide) rfl ?_
    refine VB_icmp_ge (q := 71) (tgt := 977) dL_law_68 (by decide) (by decide) (by decide) (fun hc => absurd hc (by decide)) (fun _ => ?_)
    refine VB_iload (q := 73) dL_law_71 7 rfl rfl ?_
    refine VB_if_eq (q := 76) (tgt := 977) dL_law_73 (by decide) (by decide) (fun _ => ?_) (fun hc => absurd hc (by decide))
    refine VB_iload (q := 979) dL_law_977 7 rfl rfl ?_
    exact VB_ret0 dL_law_979 rfl
  refine VB_uif_eq (q := 799) (tgt := 968) dL_law_796 (by decide) ?_ ?_
  · skip
    exact VB_widen (by omega) (by omega) (J968 g793 hg793)
  · skip
    refine VB_iload (q := 801) dL_law_799 8 rfl rfl ?_
    refine VB_iconst (q := 802) dL_law_801 rfl ?_
    refine VB_irem (q := 803) (a := 47) (b := 2) dL_law_802 (by omega) (by decide) (by decide) rfl ?_
    refine VB_top (y := iZ 1) rfl ?_
    refine VB_if_gt (q := 806) (tgt := 833) dL_law_803 (by decide) (by decide) (fun _ => ?_) (fun hc => absurd hc (by decide))
    refine VB_aload_n (q := 834) dL_law_833 1 rfl rfl ?_
    refine VB_aload_n (q := 835) dL_law_834 2 rfl rfl ?_
    refine VB_aload_n (q := 836) dL_law_835 3 rfl rfl ?_
    refine VB_aload (q := 838) dL_law_836 4 rfl rfl ?_
    refine VB_aload (q := 840) dL_law_838 6 rfl rfl ?_
    refine VB_callU (q := 843) dL_law_840 (u_isMissing (a := a) (c := c) (S := S) (b := b) (d := d) (F := F) hI hg793) yv_L_isMissing rfl gL_law_L_isMissing xU_L rfl (Nat.le_of_ble_eq_true rfl) (by decide) ⟨by show _ ≤ 20000; omega, by show _ ≤ 130000; omega⟩ (fun x840 g840 hP840 hg840 => ?_)
    refine VB_lo (lo' := 123) (Nat.le_add_right _ _) ?_
    refine VB_uif_eq (q := 846) (tgt := 968) dL_law_843 (by decide) ?_ ?_
    · skip
      exact VB_widen (by omega) (by omega) (J968 g840 hg840)
    · skip
      refine VB_aload_n (q := 847) dL_law_846 1 rfl rfl ?_
      refine VB_aload_n (q := 848) dL_law_847 2 rfl rfl ?_
      refine VB_aload (q := 850) dL_law_848 6 rfl rfl ?_
      refine VB_iload (q := 852) dL_law_850 10 rfl rfl ?_
      refine VB_aload (q := 854) dL_law_852 6 rfl rfl ?_
      refine VB_iconst (q := 855) dL_law_854 rfl ?_
      refine VB_iald (q := 856) (v := (iZ 4)) dL_law_855 13 12 rfl rfl (0) (by omega) (by omega) (by decide) (hM0) rfl ?_
      refine VB_iconst (q := 857) dL_law_856 rfl ?_
      refine VB_iadd (q := 858) dL_law_857 rfl ?_
      refine VB_top (y := iZ 5) rfl ?_
      refine VB_irem (q := 859) (a := 0) (b := 5) dL_law_858 (by omega) (by decide) (by decide) rfl ?_
      refine VB_top (y := iZ 0) rfl ?_
      refine VB_iload (q := 861) dL_law_859 10 rfl rfl ?_
      refine VB_bipush (q := 863) dL_law_861 (by decide) rfl ?_
      refine VB_idiv (q := 864) (a := 0) (b := 13) dL_law_863 (by omega) (by decide) (by decide) rfl ?_
      refine VB_top (y := iZ 0) rfl ?_
      refine VB_aload (q := 866) dL_law_864 6 rfl rfl ?_
      refine VB_iconst (q := 867) dL_law_866 rfl ?_
      refine VB_iald (q := 868) (v := (iZ 4)) dL_law_867 13 12 rfl rfl (0) (by omega) (by omega) (by decide) (hM0) rfl ?_
      refine VB_iconst (q := 869) dL_law_868 rfl ?_
      refine VB_iadd (q := 870) dL_law_869 rfl ?_
      refine VB_top (y := iZ 5) rfl ?_
      refine VB_irem (q := 871) (a := 0) (b := 5) dL_law_870 (by omega) (by decide) (by decide) rfl ?_
      refine VB_top (y := iZ 0) rfl ?_
      refine VB_iload (q := 873) dL_law_871 10 rfl rfl ?_
      refine VB_sipush (q := 876) dL_law_873 (by decide) rfl ?_
      refine VB_idiv (q := 877) (a := 0) (b := 169) dL_law_876 (by omega) (by decide) (by decide) rfl ?_
      refine VB_top (y := iZ 0) rfl ?_
      refine VB_aload (q := 879) dL_law_877 6 rfl rfl ?_
      refine VB_iconst (q := 880) dL_law_879 rfl ?_
      refine VB_iald (q := 881) (v := (iZ 4)) dL_law_880 13 12 rfl rfl (0) (by omega) (by omega) (by decide) (hM0) rfl ?_
      refine VB_iconst (q := 882) dL_law_881 rfl ?_
      refine VB_iadd (q := 883) dL_law_882 rfl ?_
      refine VB_top (y := iZ 6) rfl ?_
      refine VB_irem (q := 884) (a := 0) (b := 6) dL_law_883 (by omega) (by decide) (by decide) rfl ?_
      refine VB_top (y := iZ 0) rfl ?_
      refine VB_iconst (q := 885) dL_law_884 rfl ?_
      refine VB_isub (q := 886) dL_law_885 rfl ?_
      refine VB_top (y := iZ (-1)) rfl ?_
      refine VB_callU (q := 889) dL_law_886 (u_isWrong (a := a) (c := c) (S := S) (b := b) (d := d) (F := F) hI (wr0 hI (by decide) hK) hg840) yv_L_isWrong rfl gL_law_L_isWrong xU_L rfl (Nat.le_of_ble_eq_true rfl) (by decide) ⟨by show _ ≤ 20000; omega, by show _ ≤ 130000; omega⟩ (fun x886 g886 hP886 hg886 => ?_)
      refine VB_em (x := x886) (fun e886 => VB_lo (lo' := 123) (Nat.le_add_right _ _) (VB_top (y := iZ 0) e886 ?_)) (fun e886 => VB_lo (lo' := 125) (by show 125 ≤ 123 + (if x886 = 0 then 0 else 2); rw [if_neg e886]; omega) ?_)
      · skip
        refine VB_if_eq (q := 892) (tgt := 968) dL_law_889 (by decide) (by decide) (fun _ => ?_) (fun hc => absurd hc (by decide))
        exact VB_widen (by omega) (by omega) (J968 g886 hg886)
      · skip
        refine VB_uif_eq (q := 892) (tgt := 968) dL_law_889 (by decide) ?_ ?_
        · skip
          refine VB_lo (lo' := 123) (by omega) ?_
          exact VB_widen (by omega) (by omega) (J968 g886 hg886)
        · skip
          refine VB_iload (q := 894) dL_law_892 8 rfl rfl ?_
          refine VB_bipush (q := 896) dL_law_894 (by decide) rfl ?_
          refine VB_irem (q := 897) (a := 47) (b := 16) dL_law_896 (by omega) (by decide) (by decide) rfl ?_
          refine VB_top (y := iZ 15) rfl ?_
          refine VB_if_gt (q := 900) (tgt := 943) dL_law_897 (by decide) (by decide) (fun _ => ?_) (fun hc => absurd hc (by decide))
          refine VB_iload (q := 945) dL_law_943 8 rfl rfl ?_
          refine VB_bipush (q := 947) dL_law_945 (by decide) rfl ?_
          refine VB_irem (q := 948) (a := 47) (b := 20) dL_law_947 (by omega) (by decide) (by decide) rfl ?_
          refine VB_top (y := iZ 7) rfl ?_
          refine VB_if_gt (q := 951) (tgt := 964) dL_law_948 (by decide) (by decide) (fun _ => ?_) (fun hc => absurd hc (by decide))
          refine VB_iconst (q := 965) dL_law_964 rfl ?_
          refine VB_goto (tgt := 969) dL_law_965 (by decide) ?_
          refine VB_istore (q := 971) (lv' := [(0, _), (1, _), (2, _), (3, _), (4, _), (5, _), (6, _), (7, _), (8, _), (9, _), (10, _)]) dL_law_969 (by decide) rfl rfl ?_
          refine VB_iinc (q := 974) (y := 48) (lv' := [(0, _), (1, _), (2, _), (3, _), (4, _), (5, _), (6, _), (7, _), (8, _), (9, _), (10, _)]) dL_law_971 8 rfl (by omega) (by decide) rfl rfl ?_
          refine VB_goto (tgt := 64) dL_law_974 (by decide) ?_
          refine VB_loc (lv' := [(0, _), (1, _), (2, _), (3, _), (4, _), (5, _), (6, _), (7, _), (8, _)]) [0, 1, 2, 3, 4, 5, 6, 7, 8] rfl ?_
          refine VB_lo (lo' := 123) (by omega) ?_
          exact VB_widen (by omega) (by omega) (rd48 hL h16 hx S F g886 hI (fun _ => hK) hg886)
set_option maxRecDepth 100000 in
set_option maxHeartbeats 8000000 in
theorem rd47 {s0 L : Nat} {xs : Nat → Int32} {a : Nat → Nat} {c : Nat → ClassId} {b : Nat → Nat} {d : Nat → ClassId} (hL : L ≤ 260) (h16 : 80 ≤ L) (hx : ∀ j, j < 80 → xs j = 31) : ∀ (S : St) (F : Nat → Nat → Int32) (g : Nat → Nat), Iv S F 4 → (0 < 47 → sK S 0 = 0) → (∀ j, g j < 4096) → VB 123 RL cL_law 17 (some .boolean) wsL_law roomB (vXL s0 L xs) (tyl c d) (qF 123) (6126) (36756 + 1250) (wal a c S b d F g) 64 [(0, .ref (s0)), (1, .ref (a 0)), (2, .ref (b 0)), (3, .ref (b 1)), (4, .ref (b 2)), (5, .ref (b 3)), (6, .ref (b 4)), (7, .int (iZ 1)), (8, .int (iZ 47))] [] := by
  intro S F g hI hK hg
  obtain ⟨ho, hn, hm4, hM0, hG, hC⟩ := id hI
  refine VB_iload (q := 66) dL_law_64 8 rfl rfl ?_
  refine VB_bipush (q := 68) dL_law_66 (by decide) rfl ?_
  refine VB_icmp_ge (q := 71) (tgt := 977) dL_law_68 (by decide) (by decide) (by decide) (fun hc => absurd hc (by decide)) (fun _ => ?_)
  refine VB_iload (q := 73) dL_law_71 7 rfl rfl ?_
  refine VB_if_eq (q := 76) (tgt := 977) dL_law_73 (by decide) (by decide) (fun hc => absurd hc (by decide)) (fun _ => ?_)
  refine VB_aload_n (q := 77) dL_law_76 0 rfl rfl ?_
  refine VB_iload (q := 79) dL_law_77 8 rfl rfl ?_
  refine VB_callD (q := 82) dL_law_79 (u_dice (b := s0) (L := L) (xs := xs) 47 (by omega) hL (hx 47 (by omega))) yv_L_dice rfl gL_law_L_dice xL_s rfl (Nat.le_of_ble_eq_true rfl) (by decide) ⟨by show _ ≤ 20000; omega, by show _ ≤ 130000; omega⟩ ?_
  refine VB_istore (q := 84) (lv' := [(0, _), (1, _), (2, _), (3, _), (4, _), (5, _), (6, _), (7, _), (8, _), (9, _)]) dL_law_82 (by decide) rfl rfl ?_
  refine VB_iload (q := 86) dL_law_84 9 rfl rfl ?_
  refine VB_bipush (q := 88) dL_law_86 (by decide) rfl ?_
  refine VB_idiv (q := 89) (a := 31) (b := 32) dL_law_88 (by omega) (by decide) (by decide) rfl ?_
  refine VB_top (y := iZ 0) rfl ?_
  refine VB_istore (q := 91) (lv' := [(0, _), (1, _), (2, _), (3, _), (4, _), (5, _), (6, _), (7, _), (8, _), (9, _), (10, _)]) dL_law_89 (by decide) rfl rfl ?_
  refine VB_iload (q := 93) dL_law_91 9 rfl rfl ?_
  refine VB_bipush (q := 95) dL_law_93 (by decide) rfl ?_
  refine VB_irem (q := 96) (a := 31) (b := 32) dL_law_95 (by omega) (by decide) (by decide) rfl ?_
  refine VB_top (y := iZ 31) rfl ?_
  refine VB_istore (q := 98) (lv' := [(0, _), (1, _), (2, _), (3, _), (4, _), (5, _), (6, _), (7, _), (8, _), (9, _), (10, _), (11, _)]) dL_law_96 (by decide) rfl rfl ?_
  refine VB_aload (q := 100) dL_law_98 6 rfl rfl ?_
  refine VB_iconst (q := 101) dL_law_100 rfl ?_
  refine VB_iald (q := 102) (v := (iZ 4)) dL_law_101 13 12 rfl rfl (0) (by omega) (by omega) (by decide) (hM0) rfl ?_
  refine VB_if_ne (q := 105) (tgt := 109) dL_law_102 (by decide) (by decide) (fun _ => ?_) (fun hc => absurd hc (by decide))
  refine VB_iload (q := 111) dL_law_109 10 rfl rfl ?_
  refine VB_aload (q := 113) dL_law_111 6 rfl rfl ?_
  refine VB_iconst (q := 114) dL_law_113 rfl ?_
  refine VB_iald (q := 115) (v := (iZ 4)) dL_law_114 13 12 rfl rfl (0) (by omega) (by omega) (by decide) (hM0) rfl ?_
  refine VB_irem (q := 116) (a := 0) (b := 4) dL_law_115 (by omega) (by decide) (by decide) rfl ?_
  refine VB_top (y := iZ 0) rfl ?_
  refine VB_istore (q := 118) (lv' := [(0, _), (1, _), (2, _), (3, _), (4, _), (5, _), (6, _), (7, _), (8, _), (9, _), (10, _), (11, _), (12, _)]) dL_law_116 (by decide) rfl rfl ?_
  refine VB_aload (q := 120) dL_law_118 6 rfl rfl ?_
  refine VB_iconst (q := 121) dL_law_120 rfl ?_
  refine VB_iald (q := 122) (v := (iZ 4)) dL_law_121 13 12 rfl rfl (0) (by omega) (by omega) (by decide) (hM0) rfl ?_
  refine VB_iconst (q := 123) dL_law_122 rfl ?_
  refine VB_icmp_lt (q := 126) (tgt := 141) dL_law_123 (by decide) (by decide) (by decide) (fun hc => absurd hc (by decide)) (fun _ => ?_)
  refine VB_iload (q := 128) dL_law_126 11 rfl rfl ?_
  refine VB_iconst (q := 129) dL_law_128 rfl ?_
  refine VB_icmp_ge (q := 132) (tgt := 326) dL_law_129 (by decide) (by decide) (by decide) (fun _ => ?_) (fun hc => absurd hc (by decide))
  refine VB_iload (q := 328) dL_law_326 11 rfl rfl ?_
  refine VB_bipush (q := 330) dL_law_328 (by decide) rfl ?_
  refine VB_icmp_ge (q := 333) (tgt := 451) dL_law_330 (by decide) (by decide) (by decide) (fun _ => ?_) (fun hc => absurd hc (by decide))
  refine VB_iload (q := 453) dL_law_451 11 rfl rfl ?_
  refine VB_bipush (q := 455) dL_law_453 (by decide) rfl ?_
  refine VB_icmp_ge (q := 458) (tgt := 603) dL_law_455 (by decide) (by decide) (by decide) (fun _ => ?_) (fun hc => absurd hc (by decide))
  refine VB_iload (q := 605) dL_law_603 11 rfl rfl ?_
  refine VB_bipush (q := 607) dL_law_605 (by decide) rfl ?_
  refine VB_icmp_ge (q := 610) (tgt := 633) dL_law_607 (by decide) (by decide) (by decide) (fun _ => ?_) (fun hc => absurd hc (by decide))
  refine VB_iload (q := 635) dL_law_633 11 rfl rfl ?_
  refine VB_bipush (q := 637) dL_law_635 (by decide) rfl ?_
  refine VB_icmp_ge (q := 640) (tgt := 677) dL_law_637 (by decide) (by decide) (by decide) (fun _ => ?_) (fun hc => absurd hc (by decide))
  refine VB_iload (q := 679) dL_law_677 11 rfl rfl ?_
  refine VB_bipush (q := 681) dL_law_679 (by decide) rfl ?_
  refine VB_icmp_ne (q := 684) (tgt := 783) dL_law_681 (by decide) (by decide) (by decide) (fun _ => ?_) (fun hc => absurd hc (by decide))
  refine VB_loc (lv' := [(0, _), (1, _), (2, _), (3, _), (4, _), (5, _), (6, _), (7, _), (8, _), (9, _), (10, _)]) [0, 1, 2, 3, 4, 5, 6, 7, 8, 9, 10] rfl ?_
  exact VB_widen (by omega) (by omega) (ck47 hL h16 hx S F g hI (hK (by decide)) hg)
set_option maxRecDepth 100000 in
set_option maxHeartbeats 8000000 in
theorem ck46 {s0 L : Nat} {xs : Nat → Int32} {a : Nat → Nat} {c : Nat → ClassId} {b : Nat → Nat} {d : Nat → ClassId} (hL : L ≤ 260) (h16 : 80 ≤ L) (hx : ∀ j, j < 80 → xs j = 31) : ∀ (S : St) (F : Nat → Nat → Int32) (g : Nat → Nat), Iv S F 4 → sK S 0 = 0 → (∀ j, g j < 4096) → VB 123 RL cL_law 17 (some .boolean) wsL_law roomB (vXL s0 L xs) (tyl c d) (qF 123) (5906) (35436 + 1250) (wal a c S b d F g) 783 [(0, .ref (s0)), (1, .ref (a 0)), (2, .ref (b 0)), (3, .ref (b 1)), (4, .ref (b 2)), (5, .ref (b 3)), (6, .ref (b 4)), (7, .int (iZ 1)), (8, .int (iZ 46)), (9, .int (iZ 31)), (10, .int (iZ 0))] [] := by
  intro S F g hI hK hg
  obtain ⟨ho, hn, hm4, hM0, hG, hC⟩ := id hI
  refine VB_iload (q := 785) dL_law_783 7 rfl rfl ?_
  refine VB_if_eq (q := 788) (tgt := 968) dL_law_785 (by decide) (by decide) (fun hc => absurd hc (by decide)) (fun _ => ?_)
  refine VB_aload_n (q := 789) dL_law_788 1 rfl rfl ?_
  refine VB_aload_n (q := 790) dL_law_789 2 rfl rfl ?_
  refine VB_aload_n (q := 791) dL_law_790 3 rfl rfl ?_
  refine VB_aload (q := 793) dL_law_791 6 rfl rfl ?_
  refine VB_callU (q := 796) dL_law_793 (u_areThings (a := a) (c := c) (S := S) (b := b) (d := d) (F := F) hI hg) yv_L_areThings rfl gL_law_L_areThings xU_L rfl (Nat.le_of_ble_eq_true rfl) (by decide) ⟨by show _ ≤ 20000; omega, by show _ ≤ 130000; omega⟩ (fun x793 g793 hP793 hg793 => ?_)
  refine VB_lo (lo' := 123) (Nat.le_add_right _ _) ?_
  have J968 : ∀ (gj968 : Nat → Nat), (∀ j, gj968 j < 4096) → VB 123 RL cL_law 17 (some .boolean) wsL_law roomB (vXL s0 L xs) (tyl c d) (qF 123) (6126) (36756 + 1250) (wal a c S b d F gj968) 968 [(0, .ref (s0)), (1, .ref (a 0)), (2, .ref (b 0)), (3, .ref (b 1)), (4, .ref (b 2)), (5, .ref (b 3)), (6, .ref (b 4)), (7, .int (iZ 1)), (8, .int (iZ 46)), (9, .int (iZ 31)), (10, .int (iZ 0))] [] := by
    intro gj968 hgj968
    refine VB_iconst (q := 969) dL_law_968 rfl ?_
    refine VB_istore (q := 971) (lv' := [(0, _), (1, _), (2, _), (3, _), (4, _), (5, _), (6, _), (7, _), (8, _), (9, _), (10, _)]) dL_law_969 (by decide) rfl rfl ?_
    refine VB_iinc (q := 974) (y := 47) (lv' := [(0, _), (1, _), (2, _), (3, _), (4, _), (5, _), (6, _), (7, _), (8, _), (9, _), (10, _)]) dL_law_971 8 rfl (by omega) (by decide) rfl rfl ?_
    refine VB_goto (tgt := 64) dL_law_974 (by decide) ?_
    refine VB_iload (q := 66) dL_law_64 8 rfl rfl ?_
    refine VB_bipush (q := 68) dL_law_66 (by decide) rfl ?_
    refine VB_icmp_ge (q := 71) (tgt := 977) dL_law_68 (by decide) (by decide) (by decide) (fun hc => absurd hc (by decide)) (fun _ => ?_)
    refine VB_iload (q := 73) dL_law_71 7 rfl rfl ?_
    refine VB_if_eq (q := 76) (tgt := 977) dL_law_73 (by decide) (by decide) (fun _ => ?_) (fun hc => absurd hc (by decide))
    refine VB_iload (q := 979) dL_law_977 7 rfl rfl ?_
    exact VB_ret0 dL_law_979 rfl
  refine VB_uif_eq (q := 799) (tgt := 968) dL_law_796 (by decide) ?_ ?_
  · skip
    exact VB_widen (by omega) (by omega) (J968 g793 hg793)
  · skip
    refine VB_iload (q := 801) dL_law_799 8 rfl rfl ?_
    refine VB_iconst (q := 802) dL_law_801 rfl ?_
    refine VB_irem (q := 803) (a := 46) (b := 2) dL_law_802 (by omega) (by decide) (by decide) rfl ?_
    refine VB_top (y := iZ 0) rfl ?_
    refine VB_if_gt (q := 806) (tgt := 833) dL_law_803 (by decide) (by decide) (fun hc => absurd hc (by decide)) (fun _ => ?_)
    refine VB_aload_n (q := 807) dL_law_806 1 rfl rfl ?_
    refine VB_aload_n (q := 808) dL_law_807 2 rfl rfl ?_
    refine VB_aload_n (q := 809) dL_law_808 3 rfl rfl ?_
    refine VB_aload (q := 811) dL_law_809 4 rfl rfl ?_
    refine VB_aload (q := 813) dL_law_811 6 rfl rfl ?_
    refine VB_iload (q := 815) dL_law_813 10 rfl rfl ?_
    refine VB_bipush (q := 817) dL_law_815 (by decide) rfl ?_
    refine VB_irem (q := 818) (a := 0) (b := 31) dL_law_817 (by omega) (by decide) (by decide) rfl ?_
    refine VB_top (y := iZ 0) rfl ?_
    refine VB_iload (q := 820) dL_law_818 10 rfl rfl ?_
    refine VB_bipush (q := 822) dL_law_820 (by decide) rfl ?_
    refine VB_idiv (q := 823) (a := 0) (b := 31) dL_law_822 (by omega) (by decide) (by decide) rfl ?_
    refine VB_top (y := iZ 0) rfl ?_
    refine VB_sipush (q := 826) dL_law_823 (by decide) rfl ?_
    refine VB_irem (q := 827) (a := 0) (b := 256) dL_law_826 (by omega) (by decide) (by decide) rfl ?_
    refine VB_top (y := iZ 0) rfl ?_
    refine VB_callU (q := 830) dL_law_827 (u_areOutfits (a := a) (c := c) (S := S) (b := b) (d := d) (F := F) hI hg793) yv_L_areOutfits rfl gL_law_L_areOutfits xU_L rfl (Nat.le_of_ble_eq_true rfl) (by decide) ⟨by show _ ≤ 20000; omega, by show _ ≤ 130000; omega⟩ (fun x827 g827 hP827 hg827 => ?_)
    refine VB_lo (lo' := 123) (Nat.le_add_right _ _) ?_
    refine VB_uif_eq (q := 833) (tgt := 968) dL_law_830 (by decide) ?_ ?_
    · skip
      exact VB_widen (by omega) (by omega) (J968 g827 hg827)
    · skip
      refine VB_aload_n (q := 834) dL_law_833 1 rfl rfl ?_
      refine VB_aload_n (q := 835) dL_law_834 2 rfl rfl ?_
      refine VB_aload_n (q := 836) dL_law_835 3 rfl rfl ?_
      refine VB_aload (q := 838) dL_law_836 4 rfl rfl ?_
      refine VB_aload (q := 840) dL_law_838 6 rfl rfl ?_
      refine VB_callU (q := 843) dL_law_840 (u_isMissing (a := a) (c := c) (S := S) (b := b) (d := d) (F := F) hI hg827) yv_L_isMissing rfl gL_law_L_isMissing xU_L rfl (Nat.le_of_ble_eq_true rfl) (by decide) ⟨by show _ ≤ 20000; omega, by show _ ≤ 130000; omega⟩ (fun x840 g840 hP840 hg840 => ?_)
      refine VB_lo (lo' := 123) (Nat.le_add_right _ _) ?_
      refine VB_uif_eq (q := 846) (tgt := 968) dL_law_843 (by decide) ?_ ?_
      · skip
        exact VB_widen (by omega) (by omega) (J968 g840 hg840)
      · skip
        refine VB_aload_n (q := 847) dL_law_846 1 rfl rfl ?_
        refine VB_aload_n (q := 848) dL_law_847 2 rfl rfl ?_
        refine VB_aload (q := 850) dL_law_848 6 rfl rfl ?_
        refine VB_iload (q := 852) dL_law_850 10 rfl rfl ?_
        refine VB_aload (q := 854) dL_law_852 6 rfl rfl ?_
        refine VB_iconst (q := 855) dL_law_854 rfl ?_
        refine VB_iald (q := 856) (v := (iZ 4)) dL_law_855 13 12 rfl rfl (0) (by omega) (by omega) (by decide) (hM0) rfl ?_
        refine VB_iconst (q := 857) dL_law_856 rfl ?_
        refine VB_iadd (q := 858) dL_law_857 rfl ?_
        refine VB_top (y := iZ 5) rfl ?_
        refine VB_irem (q := 859) (a := 0) (b := 5) dL_law_858 (by omega) (by decide) (by decide) rfl ?_
        refine VB_top (y := iZ 0) rfl ?_
        refine VB_iload (q := 861) dL_law_859 10 rfl rfl ?_
        refine VB_bipush (q := 863) dL_law_861 (by decide) rfl ?_
        refine VB_idiv (q := 864) (a := 0) (b := 13) dL_law_863 (by omega) (by decide) (by decide) rfl ?_
        refine VB_top (y := iZ 0) rfl ?_
        refine VB_aload (q := 866) dL_law_864 6 rfl rfl ?_
        refine VB_iconst (q := 867) dL_law_866 rfl ?_
        refine VB_iald (q := 868) (v := (iZ 4)) dL_law_867 13 12 rfl rfl (0) (by omega) (by omega) (by decide) (hM0) rfl ?_
        refine VB_iconst (q := 869) dL_law_868 rfl ?_
        refine VB_iadd (q := 870) dL_law_869 rfl ?_
        refine VB_top (y := iZ 5) rfl ?_
        refine VB_irem (q := 871) (a := 0) (b := 5) dL_law_870 (by omega) (by decide) (by decide) rfl ?_
        refine VB_top (y := iZ 0) rfl ?_
        refine VB_iload (q := 873) dL_law_871 10 rfl rfl ?_
        refine VB_sipush (q := 876) dL_law_873 (by decide) rfl ?_
        refine VB_idiv (q := 877) (a := 0) (b := 169) dL_law_876 (by omega) (by decide) (by decide) rfl ?_
        refine VB_top (y := iZ 0) rfl ?_
        refine VB_aload (q := 879) dL_law_877 6 rfl rfl ?_
        refine VB_iconst (q := 880) dL_law_879 rfl ?_
        refine VB_iald (q := 881) (v := (iZ 4)) dL_law_880 13 12 rfl rfl (0) (by omega) (by omega) (by decide) (hM0) rfl ?_
        refine VB_iconst (q := 882) dL_law_881 rfl ?_
        refine VB_iadd (q := 883) dL_law_882 rfl ?_
        refine VB_top (y := iZ 6) rfl ?_
        refine VB_irem (q := 884) (a := 0) (b := 6) dL_law_883 (by omega) (by decide) (by decide) rfl ?_
        refine VB_top (y := iZ 0) rfl ?_
        refine VB_iconst (q := 885) dL_law_884 rfl ?_
        refine VB_isub (q := 886) dL_law_885 rfl ?_
        refine VB_top (y := iZ (-1)) rfl ?_
        refine VB_callU (q := 889) dL_law_886 (u_isWrong (a := a) (c := c) (S := S) (b := b) (d := d) (F := F) hI (wr0 hI (by decide) hK) hg840) yv_L_isWrong rfl gL_law_L_isWrong xU_L rfl (Nat.le_of_ble_eq_true rfl) (by decide) ⟨by show _ ≤ 20000; omega, by show _ ≤ 130000; omega⟩ (fun x886 g886 hP886 hg886 => ?_)
        refine VB_em (x := x886) (fun e886 => VB_lo (lo' := 123) (Nat.le_add_right _ _) (VB_top (y := iZ 0) e886 ?_)) (fun e886 => VB_lo (lo' := 125) (by show 125 ≤ 123 + (if x886 = 0 then 0 else 2); rw [if_neg e886]; omega) ?_)
        · skip
          refine VB_if_eq (q := 892) (tgt := 968) dL_law_889 (by decide) (by decide) (fun _ => ?_) (fun hc => absurd hc (by decide))
          exact VB_widen (by omega) (by omega) (J968 g886 hg886)
        · skip
          refine VB_uif_eq (q := 892) (tgt := 968) dL_law_889 (by decide) ?_ ?_
          · skip
            refine VB_lo (lo' := 123) (by omega) ?_
            exact VB_widen (by omega) (by omega) (J968 g886 hg886)
          · skip
            refine VB_iload (q := 894) dL_law_892 8 rfl rfl ?_
            refine VB_bipush (q := 896) dL_law_894 (by decide) rfl ?_
            refine VB_irem (q := 897) (a := 46) (b := 16) dL_law_896 (by omega) (by decide) (by decide) rfl ?_
            refine VB_top (y := iZ 14) rfl ?_
            refine VB_if_gt (q := 900) (tgt := 943) dL_law_897 (by decide) (by decide) (fun _ => ?_) (fun hc => absurd hc (by decide))
            refine VB_iload (q := 945) dL_law_943 8 rfl rfl ?_
            refine VB_bipush (q := 947) dL_law_945 (by decide) rfl ?_
            refine VB_irem (q := 948) (a := 46) (b := 20) dL_law_947 (by omega) (by decide) (by decide) rfl ?_
            refine VB_top (y := iZ 6) rfl ?_
            refine VB_if_gt (q := 951) (tgt := 964) dL_law_948 (by decide) (by decide) (fun _ => ?_) (fun hc => absurd hc (by decide))
            refine VB_iconst (q := 965) dL_law_964 rfl ?_
            refine VB_goto (tgt := 969) dL_law_965 (by decide) ?_
            refine VB_istore (q := 971) (lv' := [(0, _), (1, _), (2, _), (3, _), (4, _), (5, _), (6, _), (7, _), (8, _), (9, _), (10, _)]) dL_law_969 (by decide) rfl rfl ?_
            refine VB_iinc (q := 974) (y := 47) (lv' := [(0, _), (1, _), (2, _), (3, _), (4, _), (5, _), (6, _), (7, _), (8, _), (9, _), (10, _)]) dL_law_971 8 rfl (by omega) (by decide) rfl rfl ?_
            refine VB_goto (tgt := 64) dL_law_974 (by decide) ?_
            refine VB_loc (lv' := [(0, _), (1, _), (2, _), (3, _), (4, _), (5, _), (6, _), (7, _), (8, _)]) [0, 1, 2, 3, 4, 5, 6, 7, 8] rfl ?_
            refine VB_lo (lo' := 123) (by omega) ?_
            exact VB_widen (by omega) (by omega) (rd47 hL h16 hx S F g886 hI (fun _ => hK) hg886)
set_option maxRecDepth 100000 in
set_option maxHeartbeats 8000000 in
theorem rd46 {s0 L : Nat} {xs : Nat → Int32} {a : Nat → Nat} {c : Nat → ClassId} {b : Nat → Nat} {d : Nat → ClassId} (hL : L ≤ 260) (h16 : 80 ≤ L) (hx : ∀ j, j < 80 → xs j = 31) : ∀ (S : St) (F : Nat → Nat → Int32) (g : Nat → Nat), Iv S F 4 → (0 < 46 → sK S 0 = 0) → (∀ j, g j < 4096) → VB 123 RL cL_law 17 (some .boolean) wsL_law roomB (vXL s0 L xs) (tyl c d) (qF 123) (5906) (35436 + 1250) (wal a c S b d F g) 64 [(0, .ref (s0)), (1, .ref (a 0)), (2, .ref (b 0)), (3, .ref (b 1)), (4, .ref (b 2)), (5, .ref (b 3)), (6, .ref (b 4)), (7, .int (iZ 1)), (8, .int (iZ 46))] [] := by
  intro S F g hI hK hg
  obtain ⟨ho, hn, hm4, hM0, hG, hC⟩ := id hI
  refine VB_iload (q := 66) dL_law_64 8 rfl rfl ?_
  refine VB_bipush (q := 68) dL_law_66 (by decide) rfl ?_
  refine VB_icmp_ge (q := 71) (tgt := 977) dL_law_68 (by decide) (by decide) (by decide) (fun hc => absurd hc (by decide)) (fun _ => ?_)
  refine VB_iload (q := 73) dL_law_71 7 rfl rfl ?_
  refine VB_if_eq (q := 76) (tgt := 977) dL_law_73 (by decide) (by decide) (fun hc => absurd hc (by decide)) (fun _ => ?_)
  refine VB_aload_n (q := 77) dL_law_76 0 rfl rfl ?_
  refine VB_iload (q := 79) dL_law_77 8 rfl rfl ?_
  refine VB_callD (q := 82) dL_law_79 (u_dice (b := s0) (L := L) (xs := xs) 46 (by omega) hL (hx 46 (by omega))) yv_L_dice rfl gL_law_L_dice xL_s rfl (Nat.le_of_ble_eq_true rfl) (by decide) ⟨by show _ ≤ 20000; omega, by show _ ≤ 130000; omega⟩ ?_
  refine VB_istore (q := 84) (lv' := [(0, _), (1, _), (2, _), (3, _), (4, _), (5, _), (6, _), (7, _), (8, _), (9, _)]) dL_law_82 (by decide) rfl rfl ?_
  refine VB_iload (q := 86) dL_law_84 9 rfl rfl ?_
  refine VB_bipush (q := 88) dL_law_86 (by decide) rfl ?_
  refine VB_idiv (q := 89) (a := 31) (b := 32) dL_law_88 (by omega) (by decide) (by decide) rfl ?_
  refine VB_top (y := iZ 0) rfl ?_
  refine VB_istore (q := 91) (lv' := [(0, _), (1, _), (2, _), (3, _), (4, _), (5, _), (6, _), (7, _), (8, _), (9, _), (10, _)]) dL_law_89 (by decide) rfl rfl ?_
  refine VB_iload (q := 93) dL_law_91 9 rfl rfl ?_
  refine VB_bipush (q := 95) dL_law_93 (by decide) rfl ?_
  refine VB_irem (q := 96) (a := 31) (b := 32) dL_law_95 (by omega) (by decide) (by decide) rfl ?_
  refine VB_top (y := iZ 31) rfl ?_
  refine VB_istore (q := 98) (lv' := [(0, _), (1, _), (2, _), (3, _), (4, _), (5, _), (6, _), (7, _), (8, _), (9, _), (10, _), (11, _)]) dL_law_96 (by decide) rfl rfl ?_
  refine VB_aload (q := 100) dL_law_98 6 rfl rfl ?_
  refine VB_iconst (q := 101) dL_law_100 rfl ?_
  refine VB_iald (q := 102) (v := (iZ 4)) dL_law_101 13 12 rfl rfl (0) (by omega) (by omega) (by decide) (hM0) rfl ?_
  refine VB_if_ne (q := 105) (tgt := 109) dL_law_102 (by decide) (by decide) (fun _ => ?_) (fun hc => absurd hc (by decide))
  refine VB_iload (q := 111) dL_law_109 10 rfl rfl ?_
  refine VB_aload (q := 113) dL_law_111 6 rfl rfl ?_
  refine VB_iconst (q := 114) dL_law_113 rfl ?_
  refine VB_iald (q := 115) (v := (iZ 4)) dL_law_114 13 12 rfl rfl (0) (by omega) (by omega) (by decide) (hM0) rfl ?_
  refine VB_irem (q := 116) (a := 0) (b := 4) dL_law_115 (by omega) (by decide) (by decide) rfl ?_
  refine VB_top (y := iZ 0) rfl ?_
  refine VB_istore (q := 118) (lv' := [(0, _), (1, _), (2, _), (3, _), (4, _), (5, _), (6, _), (7, _), (8, _), (9, _), (10, _), (11, _), (12, _)]) dL_law_116 (by decide) rfl rfl ?_
  refine VB_aload (q := 120) dL_law_118 6 rfl rfl ?_
  refine VB_iconst (q := 121) dL_law_120 rfl ?_
  refine VB_iald (q := 122) (v := (iZ 4)) dL_law_121 13 12 rfl rfl (0) (by omega) (by omega) (by decide) (hM0) rfl ?_
  refine VB_iconst (q := 123) dL_law_122 rfl ?_
  refine VB_icmp_lt (q := 126) (tgt := 141) dL_law_123 (by decide) (by decide) (by decide) (fun hc => absurd hc (by decide)) (fun _ => ?_)
  refine VB_iload (q := 128) dL_law_126 11 rfl rfl ?_
  refine VB_iconst (q := 129) dL_law_128 rfl ?_
  refine VB_icmp_ge (q := 132) (tgt := 326) dL_law_129 (by decide) (by decide) (by decide) (fun _ => ?_) (fun hc => absurd hc (by decide))
  refine VB_iload (q := 328) dL_law_326 11 rfl rfl ?_
  refine VB_bipush (q := 330) dL_law_328 (by decide) rfl ?_
  refine VB_icmp_ge (q := 333) (tgt := 451) dL_law_330 (by decide) (by decide) (by decide) (fun _ => ?_) (fun hc => absurd hc (by decide))
  refine VB_iload (q := 453) dL_law_451 11 rfl rfl ?_
  refine VB_bipush (q := 455) dL_law_453 (by decide) rfl ?_
  refine VB_icmp_ge (q := 458) (tgt := 603) dL_law_455 (by decide) (by decide) (by decide) (fun _ => ?_) (fun hc => absurd hc (by decide))
  refine VB_iload (q := 605) dL_law_603 11 rfl rfl ?_
  refine VB_bipush (q := 607) dL_law_605 (by decide) rfl ?_
  refine VB_icmp_ge (q := 610) (tgt := 633) dL_law_607 (by decide) (by decide) (by decide) (fun _ => ?_) (fun hc => absurd hc (by decide))
  refine VB_iload (q := 635) dL_law_633 11 rfl rfl ?_
  refine VB_bipush (q := 637) dL_law_635 (by decide) rfl ?_
  refine VB_icmp_ge (q := 640) (tgt := 677) dL_law_637 (by decide) (by decide) (by decide) (fun _ => ?_) (fun hc => absurd hc (by decide))
  refine VB_iload (q := 679) dL_law_677 11 rfl rfl ?_
  refine VB_bipush (q := 681) dL_law_679 (by decide) rfl ?_
  refine VB_icmp_ne (q := 684) (tgt := 783) dL_law_681 (by decide) (by decide) (by decide) (fun _ => ?_) (fun hc => absurd hc (by decide))
  refine VB_loc (lv' := [(0, _), (1, _), (2, _), (3, _), (4, _), (5, _), (6, _), (7, _), (8, _), (9, _), (10, _)]) [0, 1, 2, 3, 4, 5, 6, 7, 8, 9, 10] rfl ?_
  exact VB_widen (by omega) (by omega) (ck46 hL h16 hx S F g hI (hK (by decide)) hg)
set_option maxRecDepth 100000 in
set_option maxHeartbeats 8000000 in
theorem ck45 {s0 L : Nat} {xs : Nat → Int32} {a : Nat → Nat} {c : Nat → ClassId} {b : Nat → Nat} {d : Nat → ClassId} (hL : L ≤ 260) (h16 : 80 ≤ L) (hx : ∀ j, j < 80 → xs j = 31) : ∀ (S : St) (F : Nat → Nat → Int32) (g : Nat → Nat), Iv S F 4 → sK S 0 = 0 → (∀ j, g j < 4096) → VB 123 RL cL_law 17 (some .boolean) wsL_law roomB (vXL s0 L xs) (tyl c d) (qF 123) (5886) (35316 + 1250) (wal a c S b d F g) 783 [(0, .ref (s0)), (1, .ref (a 0)), (2, .ref (b 0)), (3, .ref (b 1)), (4, .ref (b 2)), (5, .ref (b 3)), (6, .ref (b 4)), (7, .int (iZ 1)), (8, .int (iZ 45)), (9, .int (iZ 31)), (10, .int (iZ 0))] [] := by
  intro S F g hI hK hg
  obtain ⟨ho, hn, hm4, hM0, hG, hC⟩ := id hI
  refine VB_iload (q := 785) dL_law_783 7 rfl rfl ?_
  refine VB_if_eq (q := 788) (tgt := 968) dL_law_785 (by decide) (by decide) (fun hc => absurd hc (by decide)) (fun _ => ?_)
  refine VB_aload_n (q := 789) dL_law_788 1 rfl rfl ?_
  refine VB_aload_n (q := 790) dL_law_789 2 rfl rfl ?_
  refine VB_aload_n (q := 791) dL_law_790 3 rfl rfl ?_
  refine VB_aload (q := 793) dL_law_791 6 rfl rfl ?_
  refine VB_callU (q := 796) dL_law_793 (u_areThings (a := a) (c := c) (S := S) (b := b) (d := d) (F := F) hI hg) yv_L_areThings rfl gL_law_L_areThings xU_L rfl (Nat.le_of_ble_eq_true rfl) (by decide) ⟨by show _ ≤ 20000; omega, by show _ ≤ 130000; omega⟩ (fun x793 g793 hP793 hg793 => ?_)
  refine VB_lo (lo' := 123) (Nat.le_add_right _ _) ?_
  have J968 : ∀ (gj968 : Nat → Nat), (∀ j, gj968 j < 4096) → VB 123 RL cL_law 17 (some .boolean) wsL_law roomB (vXL s0 L xs) (tyl c d) (qF 123) (5906) (35436 + 1250) (wal a c S b d F gj968) 968 [(0, .ref (s0)), (1, .ref (a 0)), (2, .ref (b 0)), (3, .ref (b 1)), (4, .ref (b 2)), (5, .ref (b 3)), (6, .ref (b 4)), (7, .int (iZ 1)), (8, .int (iZ 45)), (9, .int (iZ 31)), (10, .int (iZ 0))] [] := by
    intro gj968 hgj968
    refine VB_iconst (q := 969) dL_law_968 rfl ?_
    refine VB_istore (q := 971) (lv' := [(0, _), (1, _), (2, _), (3, _), (4, _), (5, _), (6, _), (7, _), (8, _), (9, _), (10, _)]) dL_law_969 (by decide) rfl rfl ?_
    refine VB_iinc (q := 974) (y := 46) (lv' := [(0, _), (1, _), (2, _), (3, _), (4, _), (5, _), (6, _), (7, _), (8, _), (9, _), (10, _)]) dL_law_971 8 rfl (by omega) (by decide) rfl rfl ?_
    refine VB_goto (tgt := 64) dL_law_974 (by decide) ?_
    refine VB_iload (q := 66) dL_law_64 8 rfl rfl ?_
    refine VB_bipush (q := 68) dL_law_66 (by decide) rfl ?_
    refine VB_icmp_ge (q := 71) (tgt := 977) dL_law_68 (by decide) (by decide) (by decide) (fun hc => absurd hc (by decide)) (fun _ => ?_)
    refine VB_iload (q := 73) dL_law_71 7 rfl rfl ?_
    refine VB_if_eq (q := 76) (tgt := 977) dL_law_73 (by decide) (by decide) (fun _ => ?_) (fun hc => absurd hc (by decide))
    refine VB_iload (q := 979) dL_law_977 7 rfl rfl ?_
    exact VB_ret0 dL_law_979 rfl
  refine VB_uif_eq (q := 799) (tgt := 968) dL_law_796 (by decide) ?_ ?_
  · skip
    exact VB_widen (by omega) (by omega) (J968 g793 hg793)
  · skip
    refine VB_iload (q := 801) dL_law_799 8 rfl rfl ?_
    refine VB_iconst (q := 802) dL_law_801 rfl ?_
    refine VB_irem (q := 803) (a := 45) (b := 2) dL_law_802 (by omega) (by decide) (by decide) rfl ?_
    refine VB_top (y := iZ 1) rfl ?_
    refine VB_if_gt (q := 806) (tgt := 833) dL_law_803 (by decide) (by decide) (fun _ => ?_) (fun hc => absurd hc (by decide))
    refine VB_aload_n (q := 834) dL_law_833 1 rfl rfl ?_
    refine VB_aload_n (q := 835) dL_law_834 2 rfl rfl ?_
    refine VB_aload_n (q := 836) dL_law_835 3 rfl rfl ?_
    refine VB_aload (q := 838) dL_law_836 4 rfl rfl ?_
    refine VB_aload (q := 840) dL_law_838 6 rfl rfl ?_
    refine VB_callU (q := 843) dL_law_840 (u_isMissing (a := a) (c := c) (S := S) (b := b) (d := d) (F := F) hI hg793) yv_L_isMissing rfl gL_law_L_isMissing xU_L rfl (Nat.le_of_ble_eq_true rfl) (by decide) ⟨by show _ ≤ 20000; omega, by show _ ≤ 130000; omega⟩ (fun x840 g840 hP840 hg840 => ?_)
    refine VB_lo (lo' := 123) (Nat.le_add_right _ _) ?_
    refine VB_uif_eq (q := 846) (tgt := 968) dL_law_843 (by decide) ?_ ?_
    · skip
      exact VB_widen (by omega) (by omega) (J968 g840 hg840)
    · skip
      refine VB_aload_n (q := 847) dL_law_846 1 rfl rfl ?_
      refine VB_aload_n (q := 848) dL_law_847 2 rfl rfl ?_
      refine VB_aload (q := 850) dL_law_848 6 rfl rfl ?_
      refine VB_iload (q := 852) dL_law_850 10 rfl rfl ?_
      refine VB_aload (q := 854) dL_law_852 6 rfl rfl ?_
      refine VB_iconst (q := 855) dL_law_854 rfl ?_
      refine VB_iald (q := 856) (v := (iZ 4)) dL_law_855 13 12 rfl rfl (0) (by omega) (by omega) (by decide) (hM0) rfl ?_
      refine VB_iconst (q := 857) dL_law_856 rfl ?_
      refine VB_iadd (q := 858) dL_law_857 rfl ?_
      refine VB_top (y := iZ 5) rfl ?_
      refine VB_irem (q := 859) (a := 0) (b := 5) dL_law_858 (by omega) (by decide) (by decide) rfl ?_
      refine VB_top (y := iZ 0) rfl ?_
      refine VB_iload (q := 861) dL_law_859 10 rfl rfl ?_
      refine VB_bipush (q := 863) dL_law_861 (by decide) rfl ?_
      refine VB_idiv (q := 864) (a := 0) (b := 13) dL_law_863 (by omega) (by decide) (by decide) rfl ?_
      refine VB_top (y := iZ 0) rfl ?_
      refine VB_aload (q := 866) dL_law_864 6 rfl rfl ?_
      refine VB_iconst (q := 867) dL_law_866 rfl ?_
      refine VB_iald (q := 868) (v := (iZ 4)) dL_law_867 13 12 rfl rfl (0) (by omega) (by omega) (by decide) (hM0) rfl ?_
      refine VB_iconst (q := 869) dL_law_868 rfl ?_
      refine VB_iadd (q := 870) dL_law_869 rfl ?_
      refine VB_top (y := iZ 5) rfl ?_
      refine VB_irem (q := 871) (a := 0) (b := 5) dL_law_870 (by omega) (by decide) (by decide) rfl ?_
      refine VB_top (y := iZ 0) rfl ?_
      refine VB_iload (q := 873) dL_law_871 10 rfl rfl ?_
      refine VB_sipush (q := 876) dL_law_873 (by decide) rfl ?_
      refine VB_idiv (q := 877) (a := 0) (b := 169) dL_law_876 (by omega) (by decide) (by decide) rfl ?_
      refine VB_top (y := iZ 0) rfl ?_
      refine VB_aload (q := 879) dL_law_877 6 rfl rfl ?_
      refine VB_iconst (q := 880) dL_law_879 rfl ?_
      refine VB_iald (q := 881) (v := (iZ 4)) dL_law_880 13 12 rfl rfl (0) (by omega) (by omega) (by decide) (hM0) rfl ?_
      refine VB_iconst (q := 882) dL_law_881 rfl ?_
      refine VB_iadd (q := 883) dL_law_882 rfl ?_
      refine VB_top (y := iZ 6) rfl ?_
      refine VB_irem (q := 884) (a := 0) (b := 6) dL_law_883 (by omega) (by decide) (by decide) rfl ?_
      refine VB_top (y := iZ 0) rfl ?_
      refine VB_iconst (q := 885) dL_law_884 rfl ?_
      refine VB_isub (q := 886) dL_law_885 rfl ?_
      refine VB_top (y := iZ (-1)) rfl ?_
      refine VB_callU (q := 889) dL_law_886 (u_isWrong (a := a) (c := c) (S := S) (b := b) (d := d) (F := F) hI (wr0 hI (by decide) hK) hg840) yv_L_isWrong rfl gL_law_L_isWrong xU_L rfl (Nat.le_of_ble_eq_true rfl) (by decide) ⟨by show _ ≤ 20000; omega, by show _ ≤ 130000; omega⟩ (fun x886 g886 hP886 hg886 => ?_)
      refine VB_em (x := x886) (fun e886 => VB_lo (lo' := 123) (Nat.le_add_right _ _) (VB_top (y := iZ 0) e886 ?_)) (fun e886 => VB_lo (lo' := 125) (by show 125 ≤ 123 + (if x886 = 0 then 0 else 2); rw [if_neg e886]; omega) ?_)
      · skip
        refine VB_if_eq (q := 892) (tgt := 968) dL_law_889 (by decide) (by decide) (fun _ => ?_) (fun hc => absurd hc (by decide))
        exact VB_widen (by omega) (by omega) (J968 g886 hg886)
      · skip
        refine VB_uif_eq (q := 892) (tgt := 968) dL_law_889 (by decide) ?_ ?_
        · skip
          refine VB_lo (lo' := 123) (by omega) ?_
          exact VB_widen (by omega) (by omega) (J968 g886 hg886)
        · skip
          refine VB_iload (q := 894) dL_law_892 8 rfl rfl ?_
          refine VB_bipush (q := 896) dL_law_894 (by decide) rfl ?_
          refine VB_irem (q := 897) (a := 45) (b := 16) dL_law_896 (by omega) (by decide) (by decide) rfl ?_
          refine VB_top (y := iZ 13) rfl ?_
          refine VB_if_gt (q := 900) (tgt := 943) dL_law_897 (by decide) (by decide) (fun _ => ?_) (fun hc => absurd hc (by decide))
          refine VB_iload (q := 945) dL_law_943 8 rfl rfl ?_
          refine VB_bipush (q := 947) dL_law_945 (by decide) rfl ?_
          refine VB_irem (q := 948) (a := 45) (b := 20) dL_law_947 (by omega) (by decide) (by decide) rfl ?_
          refine VB_top (y := iZ 5) rfl ?_
          refine VB_if_gt (q := 951) (tgt := 964) dL_law_948 (by decide) (by decide) (fun _ => ?_) (fun hc => absurd hc (by decide))
          refine VB_iconst (q := 965) dL_law_964 rfl ?_
          refine VB_goto (tgt := 969) dL_law_965 (by decide) ?_
          refine VB_istore (q := 971) (lv' := [(0, _), (1, _), (2, _), (3, _), (4, _), (5, _), (6, _), (7, _), (8, _), (9, _), (10, _)]) dL_law_969 (by decide) rfl rfl ?_
          refine VB_iinc (q := 974) (y := 46) (lv' := [(0, _), (1, _), (2, _), (3, _), (4, _), (5, _), (6, _), (7, _), (8, _), (9, _), (10, _)]) dL_law_971 8 rfl (by omega) (by decide) rfl rfl ?_
          refine VB_goto (tgt := 64) dL_law_974 (by decide) ?_
          refine VB_loc (lv' := [(0, _), (1, _), (2, _), (3, _), (4, _), (5, _), (6, _), (7, _), (8, _)]) [0, 1, 2, 3, 4, 5, 6, 7, 8] rfl ?_
          refine VB_lo (lo' := 123) (by omega) ?_
          exact VB_widen (by omega) (by omega) (rd46 hL h16 hx S F g886 hI (fun _ => hK) hg886)
set_option maxRecDepth 100000 in
set_option maxHeartbeats 8000000 in
theorem rd45 {s0 L : Nat} {xs : Nat → Int32} {a : Nat → Nat} {c : Nat → ClassId} {b : Nat → Nat} {d : Nat → ClassId} (hL : L ≤ 260) (h16 : 80 ≤ L) (hx : ∀ j, j < 80 → xs j = 31) : ∀ (S : St) (F : Nat → Nat → Int32) (g : Nat → Nat), Iv S F 4 → (0 < 45 → sK S 0 = 0) → (∀ j, g j < 4096) → VB 123 RL cL_law 17 (some .boolean) wsL_law roomB (vXL s0 L xs) (tyl c d) (qF 123) (5886) (35316 + 1250) (wal a c S b d F g) 64 [(0, .ref (s0)), (1, .ref (a 0)), (2, .ref (b 0)), (3, .ref (b 1)), (4, .ref (b 2)), (5, .ref (b 3)), (6, .ref (b 4)), (7, .int (iZ 1)), (8, .int (iZ 45))] [] := by
  intro S F g hI hK hg
  obtain ⟨ho, hn, hm4, hM0, hG, hC⟩ := id hI
  refine VB_iload (q := 66) dL_law_64 8 rfl rfl ?_
  refine VB_bipush (q := 68) dL_law_66 (by decide) rfl ?_
  refine VB_icmp_ge (q := 71) (tgt := 977) dL_law_68 (by decide) (by decide) (by decide) (fun hc => absurd hc (by decide)) (fun _ => ?_)
  refine VB_iload (q := 73) dL_law_71 7 rfl rfl ?_
  refine VB_if_eq (q := 76) (tgt := 977) dL_law_73 (by decide) (by decide) (fun hc => absurd hc (by decide)) (fun _ => ?_)
  refine VB_aload_n (q := 77) dL_law_76 0 rfl rfl ?_
  refine VB_iload (q := 79) dL_law_77 8 rfl rfl ?_
  refine VB_callD (q := 82) dL_law_79 (u_dice (b := s0) (L := L) (xs := xs) 45 (by omega) hL (hx 45 (by omega))) yv_L_dice rfl gL_law_L_dice xL_s rfl (Nat.le_of_ble_eq_true rfl) (by decide) ⟨by show _ ≤ 20000; omega, by show _ ≤ 130000; omega⟩ ?_
  refine VB_istore (q := 84) (lv' := [(0, _), (1, _), (2, _), (3, _), (4, _), (5, _), (6, _), (7, _), (8, _), (9, _)]) dL_law_82 (by decide) rfl rfl ?_
  refine VB_iload (q := 86) dL_law_84 9 rfl rfl ?_
  refine VB_bipush (q := 88) dL_law_86 (by decide) rfl ?_
  refine VB_idiv (q := 89) (a := 31) (b := 32) dL_law_88 (by omega) (by decide) (by decide) rfl ?_
  refine VB_top (y := iZ 0) rfl ?_
  refine VB_istore (q := 91) (lv' := [(0, _), (1, _), (2, _), (3, _), (4, _), (5, _), (6, _), (7, _), (8, _), (9, _), (10, _)]) dL_law_89 (by decide) rfl rfl ?_
  refine VB_iload (q := 93) dL_law_91 9 rfl rfl ?_
  refine VB_bipush (q := 95) dL_law_93 (by decide) rfl ?_
  refine VB_irem (q := 96) (a := 31) (b := 32) dL_law_95 (by omega) (by decide) (by decide) rfl ?_
  refine VB_top (y := iZ 31) rfl ?_
  refine VB_istore (q := 98) (lv' := [(0, _), (1, _), (2, _), (3, _), (4, _), (5, _), (6, _), (7, _), (8, _), (9, _), (10, _), (11, _)]) dL_law_96 (by decide) rfl rfl ?_
  refine VB_aload (q := 100) dL_law_98 6 rfl rfl ?_
  refine VB_iconst (q := 101) dL_law_100 rfl ?_
  refine VB_iald (q := 102) (v := (iZ 4)) dL_law_101 13 12 rfl rfl (0) (by omega) (by omega) (by decide) (hM0) rfl ?_
  refine VB_if_ne (q := 105) (tgt := 109) dL_law_102 (by decide) (by decide) (fun _ => ?_) (fun hc => absurd hc (by decide))
  refine VB_iload (q := 111) dL_law_109 10 rfl rfl ?_
  refine VB_aload (q := 113) dL_law_111 6 rfl rfl ?_
  refine VB_iconst (q := 114) dL_law_113 rfl ?_
  refine VB_iald (q := 115) (v := (iZ 4)) dL_law_114 13 12 rfl rfl (0) (by omega) (by omega) (by decide) (hM0) rfl ?_
  refine VB_irem (q := 116) (a := 0) (b := 4) dL_law_115 (by omega) (by decide) (by decide) rfl ?_
  refine VB_top (y := iZ 0) rfl ?_
  refine VB_istore (q := 118) (lv' := [(0, _), (1, _), (2, _), (3, _), (4, _), (5, _), (6, _), (7, _), (8, _), (9, _), (10, _), (11, _), (12, _)]) dL_law_116 (by decide) rfl rfl ?_
  refine VB_aload (q := 120) dL_law_118 6 rfl rfl ?_
  refine VB_iconst (q := 121) dL_law_120 rfl ?_
  refine VB_iald (q := 122) (v := (iZ 4)) dL_law_121 13 12 rfl rfl (0) (by omega) (by omega) (by decide) (hM0) rfl ?_
  refine VB_iconst (q := 123) dL_law_122 rfl ?_
  refine VB_icmp_lt (q := 126) (tgt := 141) dL_law_123 (by decide) (by decide) (by decide) (fun hc => absurd hc (by decide)) (fun _ => ?_)
  refine VB_iload (q := 128) dL_law_126 11 rfl rfl ?_
  refine VB_iconst (q := 129) dL_law_128 rfl ?_
  refine VB_icmp_ge (q := 132) (tgt := 326) dL_law_129 (by decide) (by decide) (by decide) (fun _ => ?_) (fun hc => absurd hc (by decide))
  refine VB_iload (q := 328) dL_law_326 11 rfl rfl ?_
  refine VB_bipush (q := 330) dL_law_328 (by decide) rfl ?_
  refine VB_icmp_ge (q := 333) (tgt := 451) dL_law_330 (by decide) (by decide) (by decide) (fun _ => ?_) (fun hc => absurd hc (by decide))
  refine VB_iload (q := 453) dL_law_451 11 rfl rfl ?_
  refine VB_bipush (q := 455) dL_law_453 (by decide) rfl ?_
  refine VB_icmp_ge (q := 458) (tgt := 603) dL_law_455 (by decide) (by decide) (by decide) (fun _ => ?_) (fun hc => absurd hc (by decide))
  refine VB_iload (q := 605) dL_law_603 11 rfl rfl ?_
  refine VB_bipush (q := 607) dL_law_605 (by decide) rfl ?_
  refine VB_icmp_ge (q := 610) (tgt := 633) dL_law_607 (by decide) (by decide) (by decide) (fun _ => ?_) (fun hc => absurd hc (by decide))
  refine VB_iload (q := 635) dL_law_633 11 rfl rfl ?_
  refine VB_bipush (q := 637) dL_law_635 (by decide) rfl ?_
  refine VB_icmp_ge (q := 640) (tgt := 677) dL_law_637 (by decide) (by decide) (by decide) (fun _ => ?_) (fun hc => absurd hc (by decide))
  refine VB_iload (q := 679) dL_law_677 11 rfl rfl ?_
  refine VB_bipush (q := 681) dL_law_679 (by decide) rfl ?_
  refine VB_icmp_ne (q := 684) (tgt := 783) dL_law_681 (by decide) (by decide) (by decide) (fun _ => ?_) (fun hc => absurd hc (by decide))
  refine VB_loc (lv' := [(0, _), (1, _), (2, _), (3, _), (4, _), (5, _), (6, _), (7, _), (8, _), (9, _), (10, _)]) [0, 1, 2, 3, 4, 5, 6, 7, 8, 9, 10] rfl ?_
  exact VB_widen (by omega) (by omega) (ck45 hL h16 hx S F g hI (hK (by decide)) hg)
set_option maxRecDepth 100000 in
set_option maxHeartbeats 8000000 in
theorem ck44 {s0 L : Nat} {xs : Nat → Int32} {a : Nat → Nat} {c : Nat → ClassId} {b : Nat → Nat} {d : Nat → ClassId} (hL : L ≤ 260) (h16 : 80 ≤ L) (hx : ∀ j, j < 80 → xs j = 31) : ∀ (S : St) (F : Nat → Nat → Int32) (g : Nat → Nat), Iv S F 4 → sK S 0 = 0 → (∀ j, g j < 4096) → VB 123 RL cL_law 17 (some .boolean) wsL_law roomB (vXL s0 L xs) (tyl c d) (qF 123) (5666) (33996 + 1250) (wal a c S b d F g) 783 [(0, .ref (s0)), (1, .ref (a 0)), (2, .ref (b 0)), (3, .ref (b 1)), (4, .ref (b 2)), (5, .ref (b 3)), (6, .ref (b 4)), (7, .int (iZ 1)), (8, .int (iZ 44)), (9, .int (iZ 31)), (10, .int (iZ 0))] [] := by
  intro S F g hI hK hg
  obtain ⟨ho, hn, hm4, hM0, hG, hC⟩ := id hI
  refine VB_iload (q := 785) dL_law_783 7 rfl rfl ?_
  refine VB_if_eq (q := 788) (tgt := 968) dL_law_785 (by decide) (by decide) (fun hc => absurd hc (by decide)) (fun _ => ?_)
  refine VB_aload_n (q := 789) dL_law_788 1 rfl rfl ?_
  refine VB_aload_n (q := 790) dL_law_789 2 rfl rfl ?_
  refine VB_aload_n (q := 791) dL_law_790 3 rfl rfl ?_
  refine VB_aload (q := 793) dL_law_791 6 rfl rfl ?_
  refine VB_callU (q := 796) dL_law_793 (u_areThings (a := a) (c := c) (S := S) (b := b) (d := d) (F := F) hI hg) yv_L_areThings rfl gL_law_L_areThings xU_L rfl (Nat.le_of_ble_eq_true rfl) (by decide) ⟨by show _ ≤ 20000; omega, by show _ ≤ 130000; omega⟩ (fun x793 g793 hP793 hg793 => ?_)
  refine VB_lo (lo' := 123) (Nat.le_add_right _ _) ?_
  have J968 : ∀ (gj968 : Nat → Nat), (∀ j, gj968 j < 4096) → VB 123 RL cL_law 17 (some .boolean) wsL_law roomB (vXL s0 L xs) (tyl c d) (qF 123) (5886) (35316 + 1250) (wal a c S b d F gj968) 968 [(0, .ref (s0)), (1, .ref (a 0)), (2, .ref (b 0)), (3, .ref (b 1)), (4, .ref (b 2)), (5, .ref (b 3)), (6, .ref (b 4)), (7, .int (iZ 1)), (8, .int (iZ 44)), (9, .int (iZ 31)), (10, .int (iZ 0))] [] := by
    intro gj968 hgj968
    refine VB_iconst (q := 969) dL_law_968 rfl ?_
    refine VB_istore (q := 971) (lv' := [(0, _), (1, _), (2, _), (3, _), (4, _), (5, _), (6, _), (7, _), (8, _), (9, _), (10, _)]) dL_law_969 (by decide) rfl rfl ?_
    refine VB_iinc (q := 974) (y := 45) (lv' := [(0, _), (1, _), (2, _), (3, _), (4, _), (5, _), (6, _), (7, _), (8, _), (9, _), (10, _)]) dL_law_971 8 rfl (by omega) (by decide) rfl rfl ?_
    refine VB_goto (tgt := 64) dL_law_974 (by decide) ?_
    refine VB_iload (q := 66) dL_law_64 8 rfl rfl ?_
    refine VB_bipush (q := 68) dL_law_66 (by decide) rfl ?_
    refine VB_icmp_ge (q := 71) (tgt := 977) dL_law_68 (by decide) (by decide) (by decide) (fun hc => absurd hc (by decide)) (fun _ => ?_)
    refine VB_iload (q := 73) dL_law_71 7 rfl rfl ?_
    refine VB_if_eq (q := 76) (tgt := 977) dL_law_73 (by decide) (by decide) (fun _ => ?_) (fun hc => absurd hc (by decide))
    refine VB_iload (q := 979) dL_law_977 7 rfl rfl ?_
    exact VB_ret0 dL_law_979 rfl
  refine VB_uif_eq (q := 799) (tgt := 968) dL_law_796 (by decide) ?_ ?_
  · skip
    exact VB_widen (by omega) (by omega) (J968 g793 hg793)
  · skip
    refine VB_iload (q := 801) dL_law_799 8 rfl rfl ?_
    refine VB_iconst (q := 802) dL_law_801 rfl ?_
    refine VB_irem (q := 803) (a := 44) (b := 2) dL_law_802 (by omega) (by decide) (by decide) rfl ?_
    refine VB_top (y := iZ 0) rfl ?_
    refine VB_if_gt (q := 806) (tgt := 833) dL_law_803 (by decide) (by decide) (fun hc => absurd hc (by decide)) (fun _ => ?_)
    refine VB_aload_n (q := 807) dL_law_806 1 rfl rfl ?_
    refine VB_aload_n (q := 808) dL_law_807 2 rfl rfl ?_
    refine VB_aload_n (q := 809) dL_law_808 3 rfl rfl ?_
    refine VB_aload (q := 811) dL_law_809 4 rfl rfl ?_
    refine VB_aload (q := 813) dL_law_811 6 rfl rfl ?_
    refine VB_iload (q := 815) dL_law_813 10 rfl rfl ?_
    refine VB_bipush (q := 817) dL_law_815 (by decide) rfl ?_
    refine VB_irem (q := 818) (a := 0) (b := 31) dL_law_817 (by omega) (by decide) (by decide) rfl ?_
    refine VB_top (y := iZ 0) rfl ?_
    refine VB_iload (q := 820) dL_law_818 10 rfl rfl ?_
    refine VB_bipush (q := 822) dL_law_820 (by decide) rfl ?_
    refine VB_idiv (q := 823) (a := 0) (b := 31) dL_law_822 (by omega) (by decide) (by decide) rfl ?_
    refine VB_top (y := iZ 0) rfl ?_
    refine VB_sipush (q := 826) dL_law_823 (by decide) rfl ?_
    refine VB_irem (q := 827) (a := 0) (b := 256) dL_law_826 (by omega) (by decide) (by decide) rfl ?_
    refine VB_top (y := iZ 0) rfl ?_
    refine VB_callU (q := 830) dL_law_827 (u_areOutfits (a := a) (c := c) (S := S) (b := b) (d := d) (F := F) hI hg793) yv_L_areOutfits rfl gL_law_L_areOutfits xU_L rfl (Nat.le_of_ble_eq_true rfl) (by decide) ⟨by show _ ≤ 20000; omega, by show _ ≤ 130000; omega⟩ (fun x827 g827 hP827 hg827 => ?_)
    refine VB_lo (lo' := 123) (Nat.le_add_right _ _) ?_
    refine VB_uif_eq (q := 833) (tgt := 968) dL_law_830 (by decide) ?_ ?_
    · skip
      exact VB_widen (by omega) (by omega) (J968 g827 hg827)
    · skip
      refine VB_aload_n (q := 834) dL_law_833 1 rfl rfl ?_
      refine VB_aload_n (q := 835) dL_law_834 2 rfl rfl ?_
      refine VB_aload_n (q := 836) dL_law_835 3 rfl rfl ?_
      refine VB_aload (q := 838) dL_law_836 4 rfl rfl ?_
      refine VB_aload (q := 840) dL_law_838 6 rfl rfl ?_
      refine VB_callU (q := 843) dL_law_840 (u_isMissing (a := a) (c := c) (S := S) (b := b) (d := d) (F := F) hI hg827) yv_L_isMissing rfl gL_law_L_isMissing xU_L rfl (Nat.le_of_ble_eq_true rfl) (by decide) ⟨by show _ ≤ 20000; omega, by show _ ≤ 130000; omega⟩ (fun x840 g840 hP840 hg840 => ?_)
      refine VB_lo (lo' := 123) (Nat.le_add_right _ _) ?_
      refine VB_uif_eq (q := 846) (tgt := 968) dL_law_843 (by decide) ?_ ?_
      · skip
        exact VB_widen (by omega) (by omega) (J968 g840 hg840)
      · skip
        refine VB_aload_n (q := 847) dL_law_846 1 rfl rfl ?_
        refine VB_aload_n (q := 848) dL_law_847 2 rfl rfl ?_
        refine VB_aload (q := 850) dL_law_848 6 rfl rfl ?_
        refine VB_iload (q := 852) dL_law_850 10 rfl rfl ?_
        refine VB_aload (q := 854) dL_law_852 6 rfl rfl ?_
        refine VB_iconst (q := 855) dL_law_854 rfl ?_
        refine VB_iald (q := 856) (v := (iZ 4)) dL_law_855 13 12 rfl rfl (0) (by omega) (by omega) (by decide) (hM0) rfl ?_
        refine VB_iconst (q := 857) dL_law_856 rfl ?_
        refine VB_iadd (q := 858) dL_law_857 rfl ?_
        refine VB_top (y := iZ 5) rfl ?_
        refine VB_irem (q := 859) (a := 0) (b := 5) dL_law_858 (by omega) (by decide) (by decide) rfl ?_
        refine VB_top (y := iZ 0) rfl ?_
        refine VB_iload (q := 861) dL_law_859 10 rfl rfl ?_
        refine VB_bipush (q := 863) dL_law_861 (by decide) rfl ?_
        refine VB_idiv (q := 864) (a := 0) (b := 13) dL_law_863 (by omega) (by decide) (by decide) rfl ?_
        refine VB_top (y := iZ 0) rfl ?_
        refine VB_aload (q := 866) dL_law_864 6 rfl rfl ?_
        refine VB_iconst (q := 867) dL_law_866 rfl ?_
        refine VB_iald (q := 868) (v := (iZ 4)) dL_law_867 13 12 rfl rfl (0) (by omega) (by omega) (by decide) (hM0) rfl ?_
        refine VB_iconst (q := 869) dL_law_868 rfl ?_
        refine VB_iadd (q := 870) dL_law_869 rfl ?_
        refine VB_top (y := iZ 5) rfl ?_
        refine VB_irem (q := 871) (a := 0) (b := 5) dL_law_870 (by omega) (by decide) (by decide) rfl ?_
        refine VB_top (y := iZ 0) rfl ?_
        refine VB_iload (q := 873) dL_law_871 10 rfl rfl ?_
        refine VB_sipush (q := 876) dL_law_873 (by decide) rfl ?_
        refine VB_idiv (q := 877) (a := 0) (b := 169) dL_law_876 (by omega) (by decide) (by decide) rfl ?_
        refine VB_top (y := iZ 0) rfl ?_
        refine VB_aload (q := 879) dL_law_877 6 rfl rfl ?_
        refine VB_iconst (q := 880) dL_law_879 rfl ?_
        refine VB_iald (q := 881) (v := (iZ 4)) dL_law_880 13 12 rfl rfl (0) (by omega) (by omega) (by decide) (hM0) rfl ?_
        refine VB_iconst (q := 882) dL_law_881 rfl ?_
        refine VB_iadd (q := 883) dL_law_882 rfl ?_
        refine VB_top (y := iZ 6) rfl ?_
        refine VB_irem (q := 884) (a := 0) (b := 6) dL_law_883 (by omega) (by decide) (by decide) rfl ?_
        refine VB_top (y := iZ 0) rfl ?_
        refine VB_iconst (q := 885) dL_law_884 rfl ?_
        refine VB_isub (q := 886) dL_law_885 rfl ?_
        refine VB_top (y := iZ (-1)) rfl ?_
        refine VB_callU (q := 889) dL_law_886 (u_isWrong (a := a) (c := c) (S := S) (b := b) (d := d) (F := F) hI (wr0 hI (by decide) hK) hg840) yv_L_isWrong rfl gL_law_L_isWrong xU_L rfl (Nat.le_of_ble_eq_true rfl) (by decide) ⟨by show _ ≤ 20000; omega, by show _ ≤ 130000; omega⟩ (fun x886 g886 hP886 hg886 => ?_)
        refine VB_em (x := x886) (fun e886 => VB_lo (lo' := 123) (Nat.le_add_right _ _) (VB_top (y := iZ 0) e886 ?_)) (fun e886 => VB_lo (lo' := 125) (by show 125 ≤ 123 + (if x886 = 0 then 0 else 2); rw [if_neg e886]; omega) ?_)
        · skip
          refine VB_if_eq (q := 892) (tgt := 968) dL_law_889 (by decide) (by decide) (fun _ => ?_) (fun hc => absurd hc (by decide))
          exact VB_widen (by omega) (by omega) (J968 g886 hg886)
        · skip
          refine VB_uif_eq (q := 892) (tgt := 968) dL_law_889 (by decide) ?_ ?_
          · skip
            refine VB_lo (lo' := 123) (by omega) ?_
            exact VB_widen (by omega) (by omega) (J968 g886 hg886)
          · skip
            refine VB_iload (q := 894) dL_law_892 8 rfl rfl ?_
            refine VB_bipush (q := 896) dL_law_894 (by decide) rfl ?_
            refine VB_irem (q := 897) (a := 44) (b := 16) dL_law_896 (by omega) (by decide) (by decide) rfl ?_
            refine VB_top (y := iZ 12) rfl ?_
            refine VB_if_gt (q := 900) (tgt := 943) dL_law_897 (by decide) (by decide) (fun _ => ?_) (fun hc => absurd hc (by decide))
            refine VB_iload (q := 945) dL_law_943 8 rfl rfl ?_
            refine VB_bipush (q := 947) dL_law_945 (by decide) rfl ?_
            refine VB_irem (q := 948) (a := 44) (b := 20) dL_law_947 (by omega) (by decide) (by decide) rfl ?_
            refine VB_top (y := iZ 4) rfl ?_
            refine VB_if_gt (q := 951) (tgt := 964) dL_law_948 (by decide) (by decide) (fun _ => ?_) (fun hc => absurd hc (by decide))
            refine VB_iconst (q := 965) dL_law_964 rfl ?_
            refine VB_goto (tgt := 969) dL_law_965 (by decide) ?_
            refine VB_istore (q := 971) (lv' := [(0, _), (1, _), (2, _), (3, _), (4, _), (5, _), (6, _), (7, _), (8, _), (9, _), (10, _)]) dL_law_969 (by decide) rfl rfl ?_
            refine VB_iinc (q := 974) (y := 45) (lv' := [(0, _), (1, _), (2, _), (3, _), (4, _), (5, _), (6, _), (7, _), (8, _), (9, _), (10, _)]) dL_law_971 8 rfl (by omega) (by decide) rfl rfl ?_
            refine VB_goto (tgt := 64) dL_law_974 (by decide) ?_
            refine VB_loc (lv' := [(0, _), (1, _), (2, _), (3, _), (4, _), (5, _), (6, _), (7, _), (8, _)]) [0, 1, 2, 3, 4, 5, 6, 7, 8] rfl ?_
            refine VB_lo (lo' := 123) (by omega) ?_
            exact VB_widen (by omega) (by omega) (rd45 hL h16 hx S F g886 hI (fun _ => hK) hg886)
set_option maxRecDepth 100000 in
set_option maxHeartbeats 8000000 in
theorem rd44 {s0 L : Nat} {xs : Nat → Int32} {a : Nat → Nat} {c : Nat → ClassId} {b : Nat → Nat} {d : Nat → ClassId} (hL : L ≤ 260) (h16 : 80 ≤ L) (hx : ∀ j, j < 80 → xs j = 31) : ∀ (S : St) (F : Nat → Nat → Int32) (g : Nat → Nat), Iv S F 4 → (0 < 44 → sK S 0 = 0) → (∀ j, g j < 4096) → VB 123 RL cL_law 17 (some .boolean) wsL_law roomB (vXL s0 L xs) (tyl c d) (qF 123) (5666) (33996 + 1250) (wal a c S b d F g) 64 [(0, .ref (s0)), (1, .ref (a 0)), (2, .ref (b 0)), (3, .ref (b 1)), (4, .ref (b 2)), (5, .ref (b 3)), (6, .ref (b 4)), (7, .int (iZ 1)), (8, .int (iZ 44))] [] := by
  intro S F g hI hK hg
  obtain ⟨ho, hn, hm4, hM0, hG, hC⟩ := id hI
  refine VB_iload (q := 66) dL_law_64 8 rfl rfl ?_
  refine VB_bipush (q := 68) dL_law_66 (by decide) rfl ?_
  refine VB_icmp_ge (q := 71) (tgt := 977) dL_law_68 (by decide) (by decide) (by decide) (fun hc => absurd hc (by decide)) (fun _ => ?_)
  refine VB_iload (q := 73) dL_law_71 7 rfl rfl ?_
  refine VB_if_eq (q := 76) (tgt := 977) dL_law_73 (by decide) (by decide) (fun hc => absurd hc (by decide)) (fun _ => ?_)
  refine VB_aload_n (q := 77) dL_law_76 0 rfl rfl ?_
  refine VB_iload (q := 79) dL_law_77 8 rfl rfl ?_
  refine VB_callD (q := 82) dL_law_79 (u_dice (b := s0) (L := L) (xs := xs) 44 (by omega) hL (hx 44 (by omega))) yv_L_dice rfl gL_law_L_dice xL_s rfl (Nat.le_of_ble_eq_true rfl) (by decide) ⟨by show _ ≤ 20000; omega, by show _ ≤ 130000; omega⟩ ?_
  refine VB_istore (q := 84) (lv' := [(0, _), (1, _), (2, _), (3, _), (4, _), (5, _), (6, _), (7, _), (8, _), (9, _)]) dL_law_82 (by decide) rfl rfl ?_
  refine VB_iload (q := 86) dL_law_84 9 rfl rfl ?_
  refine VB_bipush (q := 88) dL_law_86 (by decide) rfl ?_
  refine VB_idiv (q := 89) (a := 31) (b := 32) dL_law_88 (by omega) (by decide) (by decide) rfl ?_
  refine VB_top (y := iZ 0) rfl ?_
  refine VB_istore (q := 91) (lv' := [(0, _), (1, _), (2, _), (3, _), (4, _), (5, _), (6, _), (7, _), (8, _), (9, _), (10, _)]) dL_law_89 (by decide) rfl rfl ?_
  refine VB_iload (q := 93) dL_law_91 9 rfl rfl ?_
  refine VB_bipush (q := 95) dL_law_93 (by decide) rfl ?_
  refine VB_irem (q := 96) (a := 31) (b := 32) dL_law_95 (by omega) (by decide) (by decide) rfl ?_
  refine VB_top (y := iZ 31) rfl ?_
  refine VB_istore (q := 98) (lv' := [(0, _), (1, _), (2, _), (3, _), (4, _), (5, _), (6, _), (7, _), (8, _), (9, _), (10, _), (11, _)]) dL_law_96 (by decide) rfl rfl ?_
  refine VB_aload (q := 100) dL_law_98 6 rfl rfl ?_
  refine VB_iconst (q := 101) dL_law_100 rfl ?_
  refine VB_iald (q := 102) (v := (iZ 4)) dL_law_101 13 12 rfl rfl (0) (by omega) (by omega) (by decide) (hM0) rfl ?_
  refine VB_if_ne (q := 105) (tgt := 109) dL_law_102 (by decide) (by decide) (fun _ => ?_) (fun hc => absurd hc (by decide))
  refine VB_iload (q := 111) dL_law_109 10 rfl rfl ?_
  refine VB_aload (q := 113) dL_law_111 6 rfl rfl ?_
  refine VB_iconst (q := 114) dL_law_113 rfl ?_
  refine VB_iald (q := 115) (v := (iZ 4)) dL_law_114 13 12 rfl rfl (0) (by omega) (by omega) (by decide) (hM0) rfl ?_
  refine VB_irem (q := 116) (a := 0) (b := 4) dL_law_115 (by omega) (by decide) (by decide) rfl ?_
  refine VB_top (y := iZ 0) rfl ?_
  refine VB_istore (q := 118) (lv' := [(0, _), (1, _), (2, _), (3, _), (4, _), (5, _), (6, _), (7, _), (8, _), (9, _), (10, _), (11, _), (12, _)]) dL_law_116 (by decide) rfl rfl ?_
  refine VB_aload (q := 120) dL_law_118 6 rfl rfl ?_
  refine VB_iconst (q := 121) dL_law_120 rfl ?_
  refine VB_iald (q := 122) (v := (iZ 4)) dL_law_121 13 12 rfl rfl (0) (by omega) (by omega) (by decide) (hM0) rfl ?_
  refine VB_iconst (q := 123) dL_law_122 rfl ?_
  refine VB_icmp_lt (q := 126) (tgt := 141) dL_law_123 (by decide) (by decide) (by decide) (fun hc => absurd hc (by decide)) (fun _ => ?_)
  refine VB_iload (q := 128) dL_law_126 11 rfl rfl ?_
  refine VB_iconst (q := 129) dL_law_128 rfl ?_
  refine VB_icmp_ge (q := 132) (tgt := 326) dL_law_129 (by decide) (by decide) (by decide) (fun _ => ?_) (fun hc => absurd hc (by decide))
  refine VB_iload (q := 328) dL_law_326 11 rfl rfl ?_
  refine VB_bipush (q := 330) dL_law_328 (by decide) rfl ?_
  refine VB_icmp_ge (q := 333) (tgt := 451) dL_law_330 (by decide) (by decide) (by decide) (fun _ => ?_) (fun hc => absurd hc (by decide))
  refine VB_iload (q := 453) dL_law_451 11 rfl rfl ?_
  refine VB_bipush (q := 455) dL_law_453 (by decide) rfl ?_
  refine VB_icmp_ge (q := 458) (tgt := 603) dL_law_455 (by decide) (by decide) (by decide) (fun _ => ?_) (fun hc => absurd hc (by decide))
  refine VB_iload (q := 605) dL_law_603 11 rfl rfl ?_
  refine VB_bipush (q := 607) dL_law_605 (by decide) rfl ?_
  refine VB_icmp_ge (q := 610) (tgt := 633) dL_law_607 (by decide) (by decide) (by decide) (fun _ => ?_) (fun hc => absurd hc (by decide))
  refine VB_iload (q := 635) dL_law_633 11 rfl rfl ?_
  refine VB_bipush (q := 637) dL_law_635 (by decide) rfl ?_
  refine VB_icmp_ge (q := 640) (tgt := 677) dL_law_637 (by decide) (by decide) (by decide) (fun _ => ?_) (fun hc => absurd hc (by decide))
  refine VB_iload (q := 679) dL_law_677 11 rfl rfl ?_
  refine VB_bipush (q := 681) dL_law_679 (by decide) rfl ?_
  refine VB_icmp_ne (q := 684) (tgt := 783) dL_law_681 (by decide) (by decide) (by decide) (fun _ => ?_) (fun hc => absurd hc (by decide))
  refine VB_loc (lv' := [(0, _), (1, _), (2, _), (3, _), (4, _), (5, _), (6, _), (7, _), (8, _), (9, _), (10, _)]) [0, 1, 2, 3, 4, 5, 6, 7, 8, 9, 10] rfl ?_
  exact VB_widen (by omega) (by omega) (ck44 hL h16 hx S F g hI (hK (by decide)) hg)
set_option maxRecDepth 100000 in
set_option maxHeartbeats 8000000 in
theorem ck43 {s0 L : Nat} {xs : Nat → Int32} {a : Nat → Nat} {c : Nat → ClassId} {b : Nat → Nat} {d : Nat → ClassId} (hL : L ≤ 260) (h16 : 80 ≤ L) (hx : ∀ j, j < 80 → xs j = 31) : ∀ (S : St) (F : Nat → Nat → Int32) (g : Nat → Nat), Iv S F 4 → sK S 0 = 0 → (∀ j, g j < 4096) → VB 123 RL cL_law 17 (some .boolean) wsL_law roomB (vXL s0 L xs) (tyl c d) (qF 123) (5646) (33876 + 1250) (wal a c S b d F g) 783 [(0, .ref (s0)), (1, .ref (a 0)), (2, .ref (b 0)), (3, .ref (b 1)), (4, .ref (b 2)), (5, .ref (b 3)), (6, .ref (b 4)), (7, .int (iZ 1)), (8, .int (iZ 43)), (9, .int (iZ 31)), (10, .int (iZ 0))] [] := by
  intro S F g hI hK hg
  obtain ⟨ho, hn, hm4, hM0, hG, hC⟩ := id hI
  refine VB_iload (q := 785) dL_law_783 7 rfl rfl ?_
  refine VB_if_eq (q := 788) (tgt := 968) dL_law_785 (by decide) (by decide) (fun hc => absurd hc (by decide)) (fun _ => ?_)
  refine VB_aload_n (q := 789) dL_law_788 1 rfl rfl ?_
  refine VB_aload_n (q := 790) dL_law_789 2 rfl rfl ?_
  refine VB_aload_n (q := 791) dL_law_790 3 rfl rfl ?_
  refine VB_aload (q := 793) dL_law_791 6 rfl rfl ?_
  refine VB_callU (q := 796) dL_law_793 (u_areThings (a := a) (c := c) (S := S) (b := b) (d := d) (F := F) hI hg) yv_L_areThings rfl gL_law_L_areThings xU_L rfl (Nat.le_of_ble_eq_true rfl) (by decide) ⟨by show _ ≤ 20000; omega, by show _ ≤ 130000; omega⟩ (fun x793 g793 hP793 hg793 => ?_)
  refine VB_lo (lo' := 123) (Nat.le_add_right _ _) ?_
  have J968 : ∀ (gj968 : Nat → Nat), (∀ j, gj968 j < 4096) → VB 123 RL cL_law 17 (some .boolean) wsL_law roomB (vXL s0 L xs) (tyl c d) (qF 123) (5666) (33996 + 1250) (wal a c S b d F gj968) 968 [(0, .ref (s0)), (1, .ref (a 0)), (2, .ref (b 0)), (3, .ref (b 1)), (4, .ref (b 2)), (5, .ref (b 3)), (6, .ref (b 4)), (7, .int (iZ 1)), (8, .int (iZ 43)), (9, .int (iZ 31)), (10, .int (iZ 0))] [] := by
    intro gj968 hgj968
    refine VB_iconst (q := 969) dL_law_968 rfl ?_
    refine VB_istore (q := 971) (lv' := [(0, _), (1, _), (2, _), (3, _), (4, _), (5, _), (6, _), (7, _), (8, _), (9, _), (10, _)]) dL_law_969 (by decide) rfl rfl ?_
    refine VB_iinc (q := 974) (y := 44) (lv' := [(0, _), (1, _), (2, _), (3, _), (4, _), (5, _), (6, _), (7, _), (8, _), (9, _), (10, _)]) dL_law_971 8 rfl (by omega) (by decide) rfl rfl ?_
    refine VB_goto (tgt := 64) dL_law_974 (by decide) ?_
    refine VB_iload (q := 66) dL_law_64 8 rfl rfl ?_
    refine VB_bipush (q := 68) dL_law_66 (by decide) rfl ?_
    refine VB_icmp_ge (q := 71) (tgt := 977) dL_law_68 (by decide) (by decide) (by decide) (fun hc => absurd hc (by decide)) (fun _ => ?_)
    refine VB_iload (q := 73) dL_law_71 7 rfl rfl ?_
    refine VB_if_eq (q := 76) (tgt := 977) dL_law_73 (by decide) (by decide) (fun _ => ?_) (fun hc => absurd hc (by decide))
    refine VB_iload (q := 979) dL_law_977 7 rfl rfl ?_
    exact VB_ret0 dL_law_979 rfl
  refine VB_uif_eq (q := 799) (tgt := 968) dL_law_796 (by decide) ?_ ?_
  · skip
    exact VB_widen (by omega) (by omega) (J968 g793 hg793)
  · skip
    refine VB_iload (q := 801) dL_law_799 8 rfl rfl ?_
    refine VB_iconst (q := 802) dL_law_801 rfl ?_
    refine VB_irem (q := 803) (a := 43) (b := 2) dL_law_802 (by omega) (by decide) (by decide) rfl ?_
    refine VB_top (y := iZ 1) rfl ?_
    refine VB_if_gt (q := 806) (tgt := 833) dL_law_803 (by decide) (by decide) (fun _ => ?_) (fun hc => absurd hc (by decide))
    refine VB_aload_n (q := 834) dL_law_833 1 rfl rfl ?_
    refine VB_aload_n (q := 835) dL_law_834 2 rfl rfl ?_
    refine VB_aload_n (q := 836) dL_law_835 3 rfl rfl ?_
    refine VB_aload (q := 838) dL_law_836 4 rfl rfl ?_
    refine VB_aload (q := 840) dL_law_838 6 rfl rfl ?_
    refine VB_callU (q := 843) dL_law_840 (u_isMissing (a := a) (c := c) (S := S) (b := b) (d := d) (F := F) hI hg793) yv_L_isMissing rfl gL_law_L_isMissing xU_L rfl (Nat.le_of_ble_eq_true rfl) (by decide) ⟨by show _ ≤ 20000; omega, by show _ ≤ 130000; omega⟩ (fun x840 g840 hP840 hg840 => ?_)
    refine VB_lo (lo' := 123) (Nat.le_add_right _ _) ?_
    refine VB_uif_eq (q := 846) (tgt := 968) dL_law_843 (by decide) ?_ ?_
    · skip
      exact VB_widen (by omega) (by omega) (J968 g840 hg840)
    · skip
      refine VB_aload_n (q := 847) dL_law_846 1 rfl rfl ?_
      refine VB_aload_n (q := 848) dL_law_847 2 rfl rfl ?_
      refine VB_aload (q := 850) dL_law_848 6 rfl rfl ?_
      refine VB_iload (q := 852) dL_law_850 10 rfl rfl ?_
      refine VB_aload (q := 854) dL_law_852 6 rfl rfl ?_
      refine VB_iconst (q := 855) dL_law_854 rfl ?_
      refine VB_iald (q := 856) (v := (iZ 4)) dL_law_855 13 12 rfl rfl (0) (by omega) (by omega) (by decide) (hM0) rfl ?_
      refine VB_iconst (q := 857) dL_law_856 rfl ?_
      refine VB_iadd (q := 858) dL_law_857 rfl ?_
      refine VB_top (y := iZ 5) rfl ?_
      refine VB_irem (q := 859) (a := 0) (b := 5) dL_law_858 (by omega) (by decide) (by decide) rfl ?_
      refine VB_top (y := iZ 0) rfl ?_
      refine VB_iload (q := 861) dL_law_859 10 rfl rfl ?_
      refine VB_bipush (q := 863) dL_law_861 (by decide) rfl ?_
      refine VB_idiv (q := 864) (a := 0) (b := 13) dL_law_863 (by omega) (by decide) (by decide) rfl ?_
      refine VB_top (y := iZ 0) rfl ?_
      refine VB_aload (q := 866) dL_law_864 6 rfl rfl ?_
      refine VB_iconst (q := 867) dL_law_866 rfl ?_
      refine VB_iald (q := 868) (v := (iZ 4)) dL_law_867 13 12 rfl rfl (0) (by omega) (by omega) (by decide) (hM0) rfl ?_
      refine VB_iconst (q := 869) dL_law_868 rfl ?_
      refine VB_iadd (q := 870) dL_law_869 rfl ?_
      refine VB_top (y := iZ 5) rfl ?_
      refine VB_irem (q := 871) (a := 0) (b := 5) dL_law_870 (by omega) (by decide) (by decide) rfl ?_
      refine VB_top (y := iZ 0) rfl ?_
      refine VB_iload (q := 873) dL_law_871 10 rfl rfl ?_
      refine VB_sipush (q := 876) dL_law_873 (by decide) rfl ?_
      refine VB_idiv (q := 877) (a := 0) (b := 169) dL_law_876 (by omega) (by decide) (by decide) rfl ?_
      refine VB_top (y := iZ 0) rfl ?_
      refine VB_aload (q := 879) dL_law_877 6 rfl rfl ?_
      refine VB_iconst (q := 880) dL_law_879 rfl ?_
      refine VB_iald (q := 881) (v := (iZ 4)) dL_law_880 13 12 rfl rfl (0) (by omega) (by omega) (by decide) (hM0) rfl ?_
      refine VB_iconst (q := 882) dL_law_881 rfl ?_
      refine VB_iadd (q := 883) dL_law_882 rfl ?_
      refine VB_top (y := iZ 6) rfl ?_
      refine VB_irem (q := 884) (a := 0) (b := 6) dL_law_883 (by omega) (by decide) (by decide) rfl ?_
      refine VB_top (y := iZ 0) rfl ?_
      refine VB_iconst (q := 885) dL_law_884 rfl ?_
      refine VB_isub (q := 886) dL_law_885 rfl ?_
      refine VB_top (y := iZ (-1)) rfl ?_
      refine VB_callU (q := 889) dL_law_886 (u_isWrong (a := a) (c := c) (S := S) (b := b) (d := d) (F := F) hI (wr0 hI (by decide) hK) hg840) yv_L_isWrong rfl gL_law_L_isWrong xU_L rfl (Nat.le_of_ble_eq_true rfl) (by decide) ⟨by show _ ≤ 20000; omega, by show _ ≤ 130000; omega⟩ (fun x886 g886 hP886 hg886 => ?_)
      refine VB_em (x := x886) (fun e886 => VB_lo (lo' := 123) (Nat.le_add_right _ _) (VB_top (y := iZ 0) e886 ?_)) (fun e886 => VB_lo (lo' := 125) (by show 125 ≤ 123 + (if x886 = 0 then 0 else 2); rw [if_neg e886]; omega) ?_)
      · skip
        refine VB_if_eq (q := 892) (tgt := 968) dL_law_889 (by decide) (by decide) (fun _ => ?_) (fun hc => absurd hc (by decide))
        exact VB_widen (by omega) (by omega) (J968 g886 hg886)
      · skip
        refine VB_uif_eq (q := 892) (tgt := 968) dL_law_889 (by decide) ?_ ?_
        · skip
          refine VB_lo (lo' := 123) (by omega) ?_
          exact VB_widen (by omega) (by omega) (J968 g886 hg886)
        · skip
          refine VB_iload (q := 894) dL_law_892 8 rfl rfl ?_
          refine VB_bipush (q := 896) dL_law_894 (by decide) rfl ?_
          refine VB_irem (q := 897) (a := 43) (b := 16) dL_law_896 (by omega) (by decide) (by decide) rfl ?_
          refine VB_top (y := iZ 11) rfl ?_
          refine VB_if_gt (q := 900) (tgt := 943) dL_law_897 (by decide) (by decide) (fun _ => ?_) (fun hc => absurd hc (by decide))
          refine VB_iload (q := 945) dL_law_943 8 rfl rfl ?_
          refine VB_bipush (q := 947) dL_law_945 (by decide) rfl ?_
          refine VB_irem (q := 948) (a := 43) (b := 20) dL_law_947 (by omega) (by decide) (by decide) rfl ?_
          refine VB_top (y := iZ 3) rfl ?_
          refine VB_if_gt (q := 951) (tgt := 964) dL_law_948 (by decide) (by decide) (fun _ => ?_) (fun hc => absurd hc (by decide))
          refine VB_iconst (q := 965) dL_law_964 rfl ?_
          refine VB_goto (tgt := 969) dL_law_965 (by decide) ?_
          refine VB_istore (q := 971) (lv' := [(0, _), (1, _), (2, _), (3, _), (4, _), (5, _), (6, _), (7, _), (8, _), (9, _), (10, _)]) dL_law_969 (by decide) rfl rfl ?_
          refine VB_iinc (q := 974) (y := 44) (lv' := [(0, _), (1, _), (2, _), (3, _), (4, _), (5, _), (6, _), (7, _), (8, _), (9, _), (10, _)]) dL_law_971 8 rfl (by omega) (by decide) rfl rfl ?_
          refine VB_goto (tgt := 64) dL_law_974 (by decide) ?_
          refine VB_loc (lv' := [(0, _), (1, _), (2, _), (3, _), (4, _), (5, _), (6, _), (7, _), (8, _)]) [0, 1, 2, 3, 4, 5, 6, 7, 8] rfl ?_
          refine VB_lo (lo' := 123) (by omega) ?_
          exact VB_widen (by omega) (by omega) (rd44 hL h16 hx S F g886 hI (fun _ => hK) hg886)
set_option maxRecDepth 100000 in
set_option maxHeartbeats 8000000 in
theorem rd43 {s0 L : Nat} {xs : Nat → Int32} {a : Nat → Nat} {c : Nat → ClassId} {b : Nat → Nat} {d : Nat → ClassId} (hL : L ≤ 260) (h16 : 80 ≤ L) (hx : ∀ j, j < 80 → xs j = 31) : ∀ (S : St) (F : Nat → Nat → Int32) (g : Nat → Nat), Iv S F 4 → (0 < 43 → sK S 0 = 0) → (∀ j, g j < 4096) → VB 123 RL cL_law 17 (some .boolean) wsL_law roomB (vXL s0 L xs) (tyl c d) (qF 123) (5646) (33876 + 1250) (wal a c S b d F g) 64 [(0, .ref (s0)), (1, .ref (a 0)), (2, .ref (b 0)), (3, .ref (b 1)), (4, .ref (b 2)), (5, .ref (b 3)), (6, .ref (b 4)), (7, .int (iZ 1)), (8, .int (iZ 43))] [] := by
  intro S F g hI hK hg
  obtain ⟨ho, hn, hm4, hM0, hG, hC⟩ := id hI
  refine VB_iload (q := 66) dL_law_64 8 rfl rfl ?_
  refine VB_bipush (q := 68) dL_law_66 (by decide) rfl ?_
  refine VB_icmp_ge (q := 71) (tgt := 977) dL_law_68 (by decide) (by decide) (by decide) (fun hc => absurd hc (by decide)) (fun _ => ?_)
  refine VB_iload (q := 73) dL_law_71 7 rfl rfl ?_
  refine VB_if_eq (q := 76) (tgt := 977) dL_law_73 (by decide) (by decide) (fun hc => absurd hc (by decide)) (fun _ => ?_)
  refine VB_aload_n (q := 77) dL_law_76 0 rfl rfl ?_
  refine VB_iload (q := 79) dL_law_77 8 rfl rfl ?_
  refine VB_callD (q := 82) dL_law_79 (u_dice (b := s0) (L := L) (xs := xs) 43 (by omega) hL (hx 43 (by omega))) yv_L_dice rfl gL_law_L_dice xL_s rfl (Nat.le_of_ble_eq_true rfl) (by decide) ⟨by show _ ≤ 20000; omega, by show _ ≤ 130000; omega⟩ ?_
  refine VB_istore (q := 84) (lv' := [(0, _), (1, _), (2, _), (3, _), (4, _), (5, _), (6, _), (7, _), (8, _), (9, _)]) dL_law_82 (by decide) rfl rfl ?_
  refine VB_iload (q := 86) dL_law_84 9 rfl rfl ?_
  refine VB_bipush (q := 88) dL_law_86 (by decide) rfl ?_
  refine VB_idiv (q := 89) (a := 31) (b := 32) dL_law_88 (by omega) (by decide) (by decide) rfl ?_
  refine VB_top (y := iZ 0) rfl ?_
  refine VB_istore (q := 91) (lv' := [(0, _), (1, _), (2, _), (3, _), (4, _), (5, _), (6, _), (7, _), (8, _), (9, _), (10, _)]) dL_law_89 (by decide) rfl rfl ?_
  refine VB_iload (q := 93) dL_law_91 9 rfl rfl ?_
  refine VB_bipush (q := 95) dL_law_93 (by decide) rfl ?_
  refine VB_irem (q := 96) (a := 31) (b := 32) dL_law_95 (by omega) (by decide) (by decide) rfl ?_
  refine VB_top (y := iZ 31) rfl ?_
  refine VB_istore (q := 98) (lv' := [(0, _), (1, _), (2, _), (3, _), (4, _), (5, _), (6, _), (7, _), (8, _), (9, _), (10, _), (11, _)]) dL_law_96 (by decide) rfl rfl ?_
  refine VB_aload (q := 100) dL_law_98 6 rfl rfl ?_
  refine VB_iconst (q := 101) dL_law_100 rfl ?_
  refine VB_iald (q := 102) (v := (iZ 4)) dL_law_101 13 12 rfl rfl (0) (by omega) (by omega) (by decide) (hM0) rfl ?_
  refine VB_if_ne (q := 105) (tgt := 109) dL_law_102 (by decide) (by decide) (fun _ => ?_) (fun hc => absurd hc (by decide))
  refine VB_iload (q := 111) dL_law_109 10 rfl rfl ?_
  refine VB_aload (q := 113) dL_law_111 6 rfl rfl ?_
  refine VB_iconst (q := 114) dL_law_113 rfl ?_
  refine VB_iald (q := 115) (v := (iZ 4)) dL_law_114 13 12 rfl rfl (0) (by omega) (by omega) (by decide) (hM0) rfl ?_
  refine VB_irem (q := 116) (a := 0) (b := 4) dL_law_115 (by omega) (by decide) (by decide) rfl ?_
  refine VB_top (y := iZ 0) rfl ?_
  refine VB_istore (q := 118) (lv' := [(0, _), (1, _), (2, _), (3, _), (4, _), (5, _), (6, _), (7, _), (8, _), (9, _), (10, _), (11, _), (12, _)]) dL_law_116 (by decide) rfl rfl ?_
  refine VB_aload (q := 120) dL_law_118 6 rfl rfl ?_
  refine VB_iconst (q := 121) dL_law_120 rfl ?_
  refine VB_iald (q := 122) (v := (iZ 4)) dL_law_121 13 12 rfl rfl (0) (by omega) (by omega) (by decide) (hM0) rfl ?_
  refine VB_iconst (q := 123) dL_law_122 rfl ?_
  refine VB_icmp_lt (q := 126) (tgt := 141) dL_law_123 (by decide) (by decide) (by decide) (fun hc => absurd hc (by decide)) (fun _ => ?_)
  refine VB_iload (q := 128) dL_law_126 11 rfl rfl ?_
  refine VB_iconst (q := 129) dL_law_128 rfl ?_
  refine VB_icmp_ge (q := 132) (tgt := 326) dL_law_129 (by decide) (by decide) (by decide) (fun _ => ?_) (fun hc => absurd hc (by decide))
  refine VB_iload (q := 328) dL_law_326 11 rfl rfl ?_
  refine VB_bipush (q := 330) dL_law_328 (by decide) rfl ?_
  refine VB_icmp_ge (q := 333) (tgt := 451) dL_law_330 (by decide) (by decide) (by decide) (fun _ => ?_) (fun hc => absurd hc (by decide))
  refine VB_iload (q := 453) dL_law_451 11 rfl rfl ?_
  refine VB_bipush (q := 455) dL_law_453 (by decide) rfl ?_
  refine VB_icmp_ge (q := 458) (tgt := 603) dL_law_455 (by decide) (by decide) (by decide) (fun _ => ?_) (fun hc => absurd hc (by decide))
  refine VB_iload (q := 605) dL_law_603 11 rfl rfl ?_
  refine VB_bipush (q := 607) dL_law_605 (by decide) rfl ?_
  refine VB_icmp_ge (q := 610) (tgt := 633) dL_law_607 (by decide) (by decide) (by decide) (fun _ => ?_) (fun hc => absurd hc (by decide))
  refine VB_iload (q := 635) dL_law_633 11 rfl rfl ?_
  refine VB_bipush (q := 637) dL_law_635 (by decide) rfl ?_
  refine VB_icmp_ge (q := 640) (tgt := 677) dL_law_637 (by decide) (by decide) (by decide) (fun _ => ?_) (fun hc => absurd hc (by decide))
  refine VB_iload (q := 679) dL_law_677 11 rfl rfl ?_
  refine VB_bipush (q := 681) dL_law_679 (by decide) rfl ?_
  refine VB_icmp_ne (q := 684) (tgt := 783) dL_law_681 (by decide) (by decide) (by decide) (fun _ => ?_) (fun hc => absurd hc (by decide))
  refine VB_loc (lv' := [(0, _), (1, _), (2, _), (3, _), (4, _), (5, _), (6, _), (7, _), (8, _), (9, _), (10, _)]) [0, 1, 2, 3, 4, 5, 6, 7, 8, 9, 10] rfl ?_
  exact VB_widen (by omega) (by omega) (ck43 hL h16 hx S F g hI (hK (by decide)) hg)
set_option maxRecDepth 100000 in
set_option maxHeartbeats 8000000 in
theorem ck42 {s0 L : Nat} {xs : Nat → Int32} {a : Nat → Nat} {c : Nat → ClassId} {b : Nat → Nat} {d : Nat → ClassId} (hL : L ≤ 260) (h16 : 80 ≤ L) (hx : ∀ j, j < 80 → xs j = 31) : ∀ (S : St) (F : Nat → Nat → Int32) (g : Nat → Nat), Iv S F 4 → sK S 0 = 0 → (∀ j, g j < 4096) → VB 123 RL cL_law 17 (some .boolean) wsL_law roomB (vXL s0 L xs) (tyl c d) (qF 123) (5426) (32556 + 1250) (wal a c S b d F g) 783 [(0, .ref (s0)), (1, .ref (a 0)), (2, .ref (b 0)), (3, .ref (b 1)), (4, .ref (b 2)), (5, .ref (b 3)), (6, .ref (b 4)), (7, .int (iZ 1)), (8, .int (iZ 42)), (9, .int (iZ 31)), (10, .int (iZ 0))] [] := by
  intro S F g hI hK hg
  obtain ⟨ho, hn, hm4, hM0, hG, hC⟩ := id hI
  refine VB_iload (q := 785) dL_law_783 7 rfl rfl ?_
  refine VB_if_eq (q := 788) (tgt := 968) dL_law_785 (by decide) (by decide) (fun hc => absurd hc (by decide)) (fun _ => ?_)
  refine VB_aload_n (q := 789) dL_law_788 1 rfl rfl ?_
  refine VB_aload_n (q := 790) dL_law_789 2 rfl rfl ?_
  refine VB_aload_n (q := 791) dL_law_790 3 rfl rfl ?_
  refine VB_aload (q := 793) dL_law_791 6 rfl rfl ?_
  refine VB_callU (q := 796) dL_law_793 (u_areThings (a := a) (c := c) (S := S) (b := b) (d := d) (F := F) hI hg) yv_L_areThings rfl gL_law_L_areThings xU_L rfl (Nat.le_of_ble_eq_true rfl) (by decide) ⟨by show _ ≤ 20000; omega, by show _ ≤ 130000; omega⟩ (fun x793 g793 hP793 hg793 => ?_)
  refine VB_lo (lo' := 123) (Nat.le_add_right _ _) ?_
  have J968 : ∀ (gj968 : Nat → Nat), (∀ j, gj968 j < 4096) → VB 123 RL cL_law 17 (some .boolean) wsL_law roomB (vXL s0 L xs) (tyl c d) (qF 123) (5646) (33876 + 1250) (wal a c S b d F gj968) 968 [(0, .ref (s0)), (1, .ref (a 0)), (2, .ref (b 0)), (3, .ref (b 1)), (4, .ref (b 2)), (5, .ref (b 3)), (6, .ref (b 4)), (7, .int (iZ 1)), (8, .int (iZ 42)), (9, .int (iZ 31)), (10, .int (iZ 0))] [] := by
    intro gj968 hgj968
    refine VB_iconst (q := 969) dL_law_968 rfl ?_
    refine VB_istore (q := 971) (lv' := [(0, _), (1, _), (2, _), (3, _), (4, _), (5, _), (6, _), (7, _), (8, _), (9, _), (10, _)]) dL_law_969 (by decide) rfl rfl ?_
    refine VB_iinc (q := 974) (y := 43) (lv' := [(0, _), (1, _), (2, _), (3, _), (4, _), (5, _), (6, _), (7, _), (8, _), (9, _), (10, _)]) dL_law_971 8 rfl (by omega) (by decide) rfl rfl ?_
    refine VB_goto (tgt := 64) dL_law_974 (by decide) ?_
    refine VB_iload (q := 66) dL_law_64 8 rfl rfl ?_
    refine VB_bipush (q := 68) dL_law_66 (by decide) rfl ?_
    refine VB_icmp_ge (q := 71) (tgt := 977) dL_law_68 (by decide) (by decide) (by decide) (fun hc => absurd hc (by decide)) (fun _ => ?_)
    refine VB_iload (q := 73) dL_law_71 7 rfl rfl ?_
    refine VB_if_eq (q := 76) (tgt := 977) dL_law_73 (by decide) (by decide) (fun _ => ?_) (fun hc => absurd hc (by decide))
    refine VB_iload (q := 979) dL_law_977 7 rfl rfl ?_
    exact VB_ret0 dL_law_979 rfl
  refine VB_uif_eq (q := 799) (tgt := 968) dL_law_796 (by decide) ?_ ?_
  · skip
    exact VB_widen (by omega) (by omega) (J968 g793 hg793)
  · skip
    refine VB_iload (q := 801) dL_law_799 8 rfl rfl ?_
    refine VB_iconst (q := 802) dL_law_801 rfl ?_
    refine VB_irem (q := 803) (a := 42) (b := 2) dL_law_802 (by omega) (by decide) (by decide) rfl ?_
    refine VB_top (y := iZ 0) rfl ?_
    refine VB_if_gt (q := 806) (tgt := 833) dL_law_803 (by decide) (by decide) (fun hc => absurd hc (by decide)) (fun _ => ?_)
    refine VB_aload_n (q := 807) dL_law_806 1 rfl rfl ?_
    refine VB_aload_n (q := 808) dL_law_807 2 rfl rfl ?_
    refine VB_aload_n (q := 809) dL_law_808 3 rfl rfl ?_
    refine VB_aload (q := 811) dL_law_809 4 rfl rfl ?_
    refine VB_aload (q := 813) dL_law_811 6 rfl rfl ?_
    refine VB_iload (q := 815) dL_law_813 10 rfl rfl ?_
    refine VB_bipush (q := 817) dL_law_815 (by decide) rfl ?_
    refine VB_irem (q := 818) (a := 0) (b := 31) dL_law_817 (by omega) (by decide) (by decide) rfl ?_
    refine VB_top (y := iZ 0) rfl ?_
    refine VB_iload (q := 820) dL_law_818 10 rfl rfl ?_
    refine VB_bipush (q := 822) dL_law_820 (by decide) rfl ?_
    refine VB_idiv (q := 823) (a := 0) (b := 31) dL_law_822 (by omega) (by decide) (by decide) rfl ?_
    refine VB_top (y := iZ 0) rfl ?_
    refine VB_sipush (q := 826) dL_law_823 (by decide) rfl ?_
    refine VB_irem (q := 827) (a := 0) (b := 256) dL_law_826 (by omega) (by decide) (by decide) rfl ?_
    refine VB_top (y := iZ 0) rfl ?_
    refine VB_callU (q := 830) dL_law_827 (u_areOutfits (a := a) (c := c) (S := S) (b := b) (d := d) (F := F) hI hg793) yv_L_areOutfits rfl gL_law_L_areOutfits xU_L rfl (Nat.le_of_ble_eq_true rfl) (by decide) ⟨by show _ ≤ 20000; omega, by show _ ≤ 130000; omega⟩ (fun x827 g827 hP827 hg827 => ?_)
    refine VB_lo (lo' := 123) (Nat.le_add_right _ _) ?_
    refine VB_uif_eq (q := 833) (tgt := 968) dL_law_830 (by decide) ?_ ?_
    · skip
      exact VB_widen (by omega) (by omega) (J968 g827 hg827)
    · skip
      refine VB_aload_n (q := 834) dL_law_833 1 rfl rfl ?_
      refine VB_aload_n (q := 835) dL_law_834 2 rfl rfl ?_
      refine VB_aload_n (q := 836) dL_law_835 3 rfl rfl ?_
      refine VB_aload (q := 838) dL_law_836 4 rfl rfl ?_
      refine VB_aload (q := 840) dL_law_838 6 rfl rfl ?_
      refine VB_callU (q := 843) dL_law_840 (u_isMissing (a := a) (c := c) (S := S) (b := b) (d := d) (F := F) hI hg827) yv_L_isMissing rfl gL_law_L_isMissing xU_L rfl (Nat.le_of_ble_eq_true rfl) (by decide) ⟨by show _ ≤ 20000; omega, by show _ ≤ 130000; omega⟩ (fun x840 g840 hP840 hg840 => ?_)
      refine VB_lo (lo' := 123) (Nat.le_add_right _ _) ?_
      refine VB_uif_eq (q := 846) (tgt := 968) dL_law_843 (by decide) ?_ ?_
      · skip
        exact VB_widen (by omega) (by omega) (J968 g840 hg840)
      · skip
        refine VB_aload_n (q := 847) dL_law_846 1 rfl rfl ?_
        refine VB_aload_n (q := 848) dL_law_847 2 rfl rfl ?_
        refine VB_aload (q := 850) dL_law_848 6 rfl rfl ?_
        refine VB_iload (q := 852) dL_law_850 10 rfl rfl ?_
        refine VB_aload (q := 854) dL_law_852 6 rfl rfl ?_
        refine VB_iconst (q := 855) dL_law_854 rfl ?_
        refine VB_iald (q := 856) (v := (iZ 4)) dL_law_855 13 12 rfl rfl (0) (by omega) (by omega) (by decide) (hM0) rfl ?_
        refine VB_iconst (q := 857) dL_law_856 rfl ?_
        refine VB_iadd (q := 858) dL_law_857 rfl ?_
        refine VB_top (y := iZ 5) rfl ?_
        refine VB_irem (q := 859) (a := 0) (b := 5) dL_law_858 (by omega) (by decide) (by decide) rfl ?_
        refine VB_top (y := iZ 0) rfl ?_
        refine VB_iload (q := 861) dL_law_859 10 rfl rfl ?_
        refine VB_bipush (q := 863) dL_law_861 (by decide) rfl ?_
        refine VB_idiv (q := 864) (a := 0) (b := 13) dL_law_863 (by omega) (by decide) (by decide) rfl ?_
        refine VB_top (y := iZ 0) rfl ?_
        refine VB_aload (q := 866) dL_law_864 6 rfl rfl ?_
        refine VB_iconst (q := 867) dL_law_866 rfl ?_
        refine VB_iald (q := 868) (v := (iZ 4)) dL_law_867 13 12 rfl rfl (0) (by omega) (by omega) (by decide) (hM0) rfl ?_
        refine VB_iconst (q := 869) dL_law_868 rfl ?_
        refine VB_iadd (q := 870) dL_law_869 rfl ?_
        refine VB_top (y := iZ 5) rfl ?_
        refine VB_irem (q := 871) (a := 0) (b := 5) dL_law_870 (by omega) (by decide) (by decide) rfl ?_
        refine VB_top (y := iZ 0) rfl ?_
        refine VB_iload (q := 873) dL_law_871 10 rfl rfl ?_
        refine VB_sipush (q := 876) dL_law_873 (by decide) rfl ?_
        refine VB_idiv (q := 877) (a := 0) (b := 169) dL_law_876 (by omega) (by decide) (by decide) rfl ?_
        refine VB_top (y := iZ 0) rfl ?_
        refine VB_aload (q := 879) dL_law_877 6 rfl rfl ?_
        refine VB_iconst (q := 880) dL_law_879 rfl ?_
        refine VB_iald (q := 881) (v := (iZ 4)) dL_law_880 13 12 rfl rfl (0) (by omega) (by omega) (by decide) (hM0) rfl ?_
        refine VB_iconst (q := 882) dL_law_881 rfl ?_
        refine VB_iadd (q := 883) dL_law_882 rfl ?_
        refine VB_top (y := iZ 6) rfl ?_
        refine VB_irem (q := 884) (a := 0) (b := 6) dL_law_883 (by omega) (by decide) (by decide) rfl ?_
        refine VB_top (y := iZ 0) rfl ?_
        refine VB_iconst (q := 885) dL_law_884 rfl ?_
        refine VB_isub (q := 886) dL_law_885 rfl ?_
        refine VB_top (y := iZ (-1)) rfl ?_
        refine VB_callU (q := 889) dL_law_886 (u_isWrong (a := a) (c := c) (S := S) (b := b) (d := d) (F := F) hI (wr0 hI (by decide) hK) hg840) yv_L_isWrong rfl gL_law_L_isWrong xU_L rfl (Nat.le_of_ble_eq_true rfl) (by decide) ⟨by show _ ≤ 20000; omega, by show _ ≤ 130000; omega⟩ (fun x886 g886 hP886 hg886 => ?_)
        refine VB_em (x := x886) (fun e886 => VB_lo (lo' := 123) (Nat.le_add_right _ _) (VB_top (y := iZ 0) e886 ?_)) (fun e886 => VB_lo (lo' := 125) (by show 125 ≤ 123 + (if x886 = 0 then 0 else 2); rw [if_neg e886]; omega) ?_)
        · skip
          refine VB_if_eq (q := 892) (tgt := 968) dL_law_889 (by decide) (by decide) (fun _ => ?_) (fun hc => absurd hc (by decide))
          exact VB_widen (by omega) (by omega) (J968 g886 hg886)
        · skip
          refine VB_uif_eq (q := 892) (tgt := 968) dL_law_889 (by decide) ?_ ?_
          · skip
            refine VB_lo (lo' := 123) (by omega) ?_
            exact VB_widen (by omega) (by omega) (J968 g886 hg886)
          · skip
            refine VB_iload (q := 894) dL_law_892 8 rfl rfl ?_
            refine VB_bipush (q := 896) dL_law_894 (by decide) rfl ?_
            refine VB_irem (q := 897) (a := 42) (b := 16) dL_law_896 (by omega) (by decide) (by decide) rfl ?_
            refine VB_top (y := iZ 10) rfl ?_
            refine VB_if_gt (q := 900) (tgt := 943) dL_law_897 (by decide) (by decide) (fun _ => ?_) (fun hc => absurd hc (by decide))
            refine VB_iload (q := 945) dL_law_943 8 rfl rfl ?_
            refine VB_bipush (q := 947) dL_law_945 (by decide) rfl ?_
            refine VB_irem (q := 948) (a := 42) (b := 20) dL_law_947 (by omega) (by decide) (by decide) rfl ?_
            refine VB_top (y := iZ 2) rfl ?_
            refine VB_if_gt (q := 951) (tgt := 964) dL_law_948 (by decide) (by decide) (fun _ => ?_) (fun hc => absurd hc (by decide))
            refine VB_iconst (q := 965) dL_law_964 rfl ?_
            refine VB_goto (tgt := 969) dL_law_965 (by decide) ?_
            refine VB_istore (q := 971) (lv' := [(0, _), (1, _), (2, _), (3, _), (4, _), (5, _), (6, _), (7, _), (8, _), (9, _), (10, _)]) dL_law_969 (by decide) rfl rfl ?_
            refine VB_iinc (q := 974) (y := 43) (lv' := [(0, _), (1, _), (2, _), (3, _), (4, _), (5, _), (6, _), (7, _), (8, _), (9, _), (10, _)]) dL_law_971 8 rfl (by omega) (by decide) rfl rfl ?_
            refine VB_goto (tgt := 64) dL_law_974 (by decide) ?_
            refine VB_loc (lv' := [(0, _), (1, _), (2, _), (3, _), (4, _), (5, _), (6, _), (7, _), (8, _)]) [0, 1, 2, 3, 4, 5, 6, 7, 8] rfl ?_
            refine VB_lo (lo' := 123) (by omega) ?_
            exact VB_widen (by omega) (by omega) (rd43 hL h16 hx S F g886 hI (fun _ => hK) hg886)
set_option maxRecDepth 100000 in
set_option maxHeartbeats 8000000 in
theorem rd42 {s0 L : Nat} {xs : Nat → Int32} {a : Nat → Nat} {c : Nat → ClassId} {b : Nat → Nat} {d : Nat → ClassId} (hL : L ≤ 260) (h16 : 80 ≤ L) (hx : ∀ j, j < 80 → xs j = 31) : ∀ (S : St) (F : Nat → Nat → Int32) (g : Nat → Nat), Iv S F 4 → (0 < 42 → sK S 0 = 0) → (∀ j, g j < 4096) → VB 123 RL cL_law 17 (some .boolean) wsL_law roomB (vXL s0 L xs) (tyl c d) (qF 123) (5426) (32556 + 1250) (wal a c S b d F g) 64 [(0, .ref (s0)), (1, .ref (a 0)), (2, .ref (b 0)), (3, .ref (b 1)), (4, .ref (b 2)), (5, .ref (b 3)), (6, .ref (b 4)), (7, .int (iZ 1)), (8, .int (iZ 42))] [] := by
  intro S F g hI hK hg
  obtain ⟨ho, hn, hm4, hM0, hG, hC⟩ := id hI
  refine VB_iload (q := 66) dL_law_64 8 rfl rfl ?_
  refine VB_bipush (q := 68) dL_law_66 (by decide) rfl ?_
  refine VB_icmp_ge (q := 71) (tgt := 977) dL_law_68 (by decide) (by decide) (by decide) (fun hc => absurd hc (by decide)) (fun _ => ?_)
  refine VB_iload (q := 73) dL_law_71 7 rfl rfl ?_
  refine VB_if_eq (q := 76) (tgt := 977) dL_law_73 (by decide) (by decide) (fun hc => absurd hc (by decide)) (fun _ => ?_)
  refine VB_aload_n (q := 77) dL_law_76 0 rfl rfl ?_
  refine VB_iload (q := 79) dL_law_77 8 rfl rfl ?_
  refine VB_callD (q := 82) dL_law_79 (u_dice (b := s0) (L := L) (xs := xs) 42 (by omega) hL (hx 42 (by omega))) yv_L_dice rfl gL_law_L_dice xL_s rfl (Nat.le_of_ble_eq_true rfl) (by decide) ⟨by show _ ≤ 20000; omega, by show _ ≤ 130000; omega⟩ ?_
  refine VB_istore (q := 84) (lv' := [(0, _), (1, _), (2, _), (3, _), (4, _), (5, _), (6, _), (7, _), (8, _), (9, _)]) dL_law_82 (by decide) rfl rfl ?_
  refine VB_iload (q := 86) dL_law_84 9 rfl rfl ?_
  refine VB_bipush (q := 88) dL_law_86 (by decide) rfl ?_
  refine VB_idiv (q := 89) (a := 31) (b := 32) dL_law_88 (by omega) (by decide) (by decide) rfl ?_
  refine VB_top (y := iZ 0) rfl ?_
  refine VB_istore (q := 91) (lv' := [(0, _), (1, _), (2, _), (3, _), (4, _), (5, _), (6, _), (7, _), (8, _), (9, _), (10, _)]) dL_law_89 (by decide) rfl rfl ?_
  refine VB_iload (q := 93) dL_law_91 9 rfl rfl ?_
  refine VB_bipush (q := 95) dL_law_93 (by decide) rfl ?_
  refine VB_irem (q := 96) (a := 31) (b := 32) dL_law_95 (by omega) (by decide) (by decide) rfl ?_
  refine VB_top (y := iZ 31) rfl ?_
  refine VB_istore (q := 98) (lv' := [(0, _), (1, _), (2, _), (3, _), (4, _), (5, _), (6, _), (7, _), (8, _), (9, _), (10, _), (11, _)]) dL_law_96 (by decide) rfl rfl ?_
  refine VB_aload (q := 100) dL_law_98 6 rfl rfl ?_
  refine VB_iconst (q := 101) dL_law_100 rfl ?_
  refine VB_iald (q := 102) (v := (iZ 4)) dL_law_101 13 12 rfl rfl (0) (by omega) (by omega) (by decide) (hM0) rfl ?_
  refine VB_if_ne (q := 105) (tgt := 109) dL_law_102 (by decide) (by decide) (fun _ => ?_) (fun hc => absurd hc (by decide))
  refine VB_iload (q := 111) dL_law_109 10 rfl rfl ?_
  refine VB_aload (q := 113) dL_law_111 6 rfl rfl ?_
  refine VB_iconst (q := 114) dL_law_113 rfl ?_
  refine VB_iald (q := 115) (v := (iZ 4)) dL_law_114 13 12 rfl rfl (0) (by omega) (by omega) (by decide) (hM0) rfl ?_
  refine VB_irem (q := 116) (a := 0) (b := 4) dL_law_115 (by omega) (by decide) (by decide) rfl ?_
  refine VB_top (y := iZ 0) rfl ?_
  refine VB_istore (q := 118) (lv' := [(0, _), (1, _), (2, _), (3, _), (4, _), (5, _), (6, _), (7, _), (8, _), (9, _), (10, _), (11, _), (12, _)]) dL_law_116 (by decide) rfl rfl ?_
  refine VB_aload (q := 120) dL_law_118 6 rfl rfl ?_
  refine VB_iconst (q := 121) dL_law_120 rfl ?_
  refine VB_iald (q := 122) (v := (iZ 4)) dL_law_121 13 12 rfl rfl (0) (by omega) (by omega) (by decide) (hM0) rfl ?_
  refine VB_iconst (q := 123) dL_law_122 rfl ?_
  refine VB_icmp_lt (q := 126) (tgt := 141) dL_law_123 (by decide) (by decide) (by decide) (fun hc => absurd hc (by decide)) (fun _ => ?_)
  refine VB_iload (q := 128) dL_law_126 11 rfl rfl ?_
  refine VB_iconst (q := 129) dL_law_128 rfl ?_
  refine VB_icmp_ge (q := 132) (tgt := 326) dL_law_129 (by decide) (by decide) (by decide) (fun _ => ?_) (fun hc => absurd hc (by decide))
  refine VB_iload (q := 328) dL_law_326 11 rfl rfl ?_
  refine VB_bipush (q := 330) dL_law_328 (by decide) rfl ?_
  refine VB_icmp_ge (q := 333) (tgt := 451) dL_law_330 (by decide) (by decide) (by decide) (fun _ => ?_) (fun hc => absurd hc (by decide))
  refine VB_iload (q := 453) dL_law_451 11 rfl rfl ?_
  refine VB_bipush (q := 455) dL_law_453 (by decide) rfl ?_
  refine VB_icmp_ge (q := 458) (tgt := 603) dL_law_455 (by decide) (by decide) (by decide) (fun _ => ?_) (fun hc => absurd hc (by decide))
  refine VB_iload (q := 605) dL_law_603 11 rfl rfl ?_
  refine VB_bipush (q := 607) dL_law_605 (by decide) rfl ?_
  refine VB_icmp_ge (q := 610) (tgt := 633) dL_law_607 (by decide) (by decide) (by decide) (fun _ => ?_) (fun hc => absurd hc (by decide))
  refine VB_iload (q := 635) dL_law_633 11 rfl rfl ?_
  refine VB_bipush (q := 637) dL_law_635 (by decide) rfl ?_
  refine VB_icmp_ge (q := 640) (tgt := 677) dL_law_637 (by decide) (by decide) (by decide) (fun _ => ?_) (fun hc => absurd hc (by decide))
  refine VB_iload (q := 679) dL_law_677 11 rfl rfl ?_
  refine VB_bipush (q := 681) dL_law_679 (by decide) rfl ?_
  refine VB_icmp_ne (q := 684) (tgt := 783) dL_law_681 (by decide) (by decide) (by decide) (fun _ => ?_) (fun hc => absurd hc (by decide))
  refine VB_loc (lv' := [(0, _), (1, _), (2, _), (3, _), (4, _), (5, _), (6, _), (7, _), (8, _), (9, _), (10, _)]) [0, 1, 2, 3, 4, 5, 6, 7, 8, 9, 10] rfl ?_
  exact VB_widen (by omega) (by omega) (ck42 hL h16 hx S F g hI (hK (by decide)) hg)
set_option maxRecDepth 100000 in
set_option maxHeartbeats 8000000 in
theorem ck41 {s0 L : Nat} {xs : Nat → Int32} {a : Nat → Nat} {c : Nat → ClassId} {b : Nat → Nat} {d : Nat → ClassId} (hL : L ≤ 260) (h16 : 80 ≤ L) (hx : ∀ j, j < 80 → xs j = 31) : ∀ (S : St) (F : Nat → Nat → Int32) (g : Nat → Nat), Iv S F 4 → sK S 0 = 0 → (∀ j, g j < 4096) → VB 123 RL cL_law 17 (some .boolean) wsL_law roomB (vXL s0 L xs) (tyl c d) (qF 123) (5406) (32436 + 1250) (wal a c S b d F g) 783 [(0, .ref (s0)), (1, .ref (a 0)), (2, .ref (b 0)), (3, .ref (b 1)), (4, .ref (b 2)), (5, .ref (b 3)), (6, .ref (b 4)), (7, .int (iZ 1)), (8, .int (iZ 41)), (9, .int (iZ 31)), (10, .int (iZ 0))] [] := by
  intro S F g hI hK hg
  obtain ⟨ho, hn, hm4, hM0, hG, hC⟩ := id hI
  refine VB_iload (q := 785) dL_law_783 7 rfl rfl ?_
  refine VB_if_eq (q := 788) (tgt := 968) dL_law_785 (by decide) (by decide) (fun hc => absurd hc (by decide)) (fun _ => ?_)
  refine VB_aload_n (q := 789) dL_law_788 1 rfl rfl ?_
  refine VB_aload_n (q := 790) dL_law_789 2 rfl rfl ?_
  refine VB_aload_n (q := 791) dL_law_790 3 rfl rfl ?_
  refine VB_aload (q := 793) dL_law_791 6 rfl rfl ?_
  refine VB_callU (q := 796) dL_law_793 (u_areThings (a := a) (c := c) (S := S) (b := b) (d := d) (F := F) hI hg) yv_L_areThings rfl gL_law_L_areThings xU_L rfl (Nat.le_of_ble_eq_true rfl) (by decide) ⟨by show _ ≤ 20000; omega, by show _ ≤ 130000; omega⟩ (fun x793 g793 hP793 hg793 => ?_)
  refine VB_lo (lo' := 123) (Nat.le_add_right _ _) ?_
  have J968 : ∀ (gj968 : Nat → Nat), (∀ j, gj968 j < 4096) → VB 123 RL cL_law 17 (some .boolean) wsL_law roomB (vXL s0 L xs) (tyl c d) (qF 123) (5426) (32556 + 1250) (wal a c S b d F gj968) 968 [(0, .ref (s0)), (1, .ref (a 0)), (2, .ref (b 0)), (3, .ref (b 1)), (4, .ref (b 2)), (5, .ref (b 3)), (6, .ref (b 4)), (7, .int (iZ 1)), (8, .int (iZ 41)), (9, .int (iZ 31)), (10, .int (iZ 0))] [] := by
    intro gj968 hgj968
    refine VB_iconst (q := 969) dL_law_968 rfl ?_
    refine VB_istore (q := 971) (lv' := [(0, _), (1, _), (2, _), (3, _), (4, _), (5, _), (6, _), (7, _), (8, _), (9, _), (10, _)]) dL_law_969 (by decide) rfl rfl ?_
    refine VB_iinc (q := 974) (y := 42) (lv' := [(0, _), (1, _), (2, _), (3, _), (4, _), (5, _), (6, _), (7, _), (8, _), (9, _), (10, _)]) dL_law_971 8 rfl (by omega) (by decide) rfl rfl ?_
    refine VB_goto (tgt := 64) dL_law_974 (by decide) ?_
    refine VB_iload (q := 66) dL_law_64 8 rfl rfl ?_
    refine VB_bipush (q := 68) dL_law_66 (by decide) rfl ?_
    refine VB_icmp_ge (q := 71) (tgt := 977) dL_law_68 (by decide) (by decide) (by decide) (fun hc => absurd hc (by decide)) (fun _ => ?_)
    refine VB_iload (q := 73) dL_law_71 7 rfl rfl ?_
    refine VB_if_eq (q := 76) (tgt := 977) dL_law_73 (by decide) (by decide) (fun _ => ?_) (fun hc => absurd hc (by decide))
    refine VB_iload (q := 979) dL_law_977 7 rfl rfl ?_
    exact VB_ret0 dL_law_979 rfl
  refine VB_uif_eq (q := 799) (tgt := 968) dL_law_796 (by decide) ?_ ?_
  · skip
    exact VB_widen (by omega) (by omega) (J968 g793 hg793)
  · skip
    refine VB_iload (q := 801) dL_law_799 8 rfl rfl ?_
    refine VB_iconst (q := 802) dL_law_801 rfl ?_
    refine VB_irem (q := 803) (a := 41) (b := 2) dL_law_802 (by omega) (by decide) (by decide) rfl ?_
    refine VB_top (y := iZ 1) rfl ?_
    refine VB_if_gt (q := 806) (tgt := 833) dL_law_803 (by decide) (by decide) (fun _ => ?_) (fun hc => absurd hc (by decide))
    refine VB_aload_n (q := 834) dL_law_833 1 rfl rfl ?_
    refine VB_aload_n (q := 835) dL_law_834 2 rfl rfl ?_
    refine VB_aload_n (q := 836) dL_law_835 3 rfl rfl ?_
    refine VB_aload (q := 838) dL_law_836 4 rfl rfl ?_
    refine VB_aload (q := 840) dL_law_838 6 rfl rfl ?_
    refine VB_callU (q := 843) dL_law_840 (u_isMissing (a := a) (c := c) (S := S) (b := b) (d := d) (F := F) hI hg793) yv_L_isMissing rfl gL_law_L_isMissing xU_L rfl (Nat.le_of_ble_eq_true rfl) (by decide) ⟨by show _ ≤ 20000; omega, by show _ ≤ 130000; omega⟩ (fun x840 g840 hP840 hg840 => ?_)
    refine VB_lo (lo' := 123) (Nat.le_add_right _ _) ?_
    refine VB_uif_eq (q := 846) (tgt := 968) dL_law_843 (by decide) ?_ ?_
    · skip
      exact VB_widen (by omega) (by omega) (J968 g840 hg840)
    · skip
      refine VB_aload_n (q := 847) dL_law_846 1 rfl rfl ?_
      refine VB_aload_n (q := 848) dL_law_847 2 rfl rfl ?_
      refine VB_aload (q := 850) dL_law_848 6 rfl rfl ?_
      refine VB_iload (q := 852) dL_law_850 10 rfl rfl ?_
      refine VB_aload (q := 854) dL_law_852 6 rfl rfl ?_
      refine VB_iconst (q := 855) dL_law_854 rfl ?_
      refine VB_iald (q := 856) (v := (iZ 4)) dL_law_855 13 12 rfl rfl (0) (by omega) (by omega) (by decide) (hM0) rfl ?_
      refine VB_iconst (q := 857) dL_law_856 rfl ?_
      refine VB_iadd (q := 858) dL_law_857 rfl ?_
      refine VB_top (y := iZ 5) rfl ?_
      refine VB_irem (q := 859) (a := 0) (b := 5) dL_law_858 (by omega) (by decide) (by decide) rfl ?_
      refine VB_top (y := iZ 0) rfl ?_
      refine VB_iload (q := 861) dL_law_859 10 rfl rfl ?_
      refine VB_bipush (q := 863) dL_law_861 (by decide) rfl ?_
      refine VB_idiv (q := 864) (a := 0) (b := 13) dL_law_863 (by omega) (by decide) (by decide) rfl ?_
      refine VB_top (y := iZ 0) rfl ?_
      refine VB_aload (q := 866) dL_law_864 6 rfl rfl ?_
      refine VB_iconst (q := 867) dL_law_866 rfl ?_
      refine VB_iald (q := 868) (v := (iZ 4)) dL_law_867 13 12 rfl rfl (0) (by omega) (by omega) (by decide) (hM0) rfl ?_
      refine VB_iconst (q := 869) dL_law_868 rfl ?_
      refine VB_iadd (q := 870) dL_law_869 rfl ?_
      refine VB_top (y := iZ 5) rfl ?_
      refine VB_irem (q := 871) (a := 0) (b := 5) dL_law_870 (by omega) (by decide) (by decide) rfl ?_
      refine VB_top (y := iZ 0) rfl ?_
      refine VB_iload (q := 873) dL_law_871 10 rfl rfl ?_
      refine VB_sipush (q := 876) dL_law_873 (by decide) rfl ?_
      refine VB_idiv (q := 877) (a := 0) (b := 169) dL_law_876 (by omega) (by decide) (by decide) rfl ?_
      refine VB_top (y := iZ 0) rfl ?_
      refine VB_aload (q := 879) dL_law_877 6 rfl rfl ?_
      refine VB_iconst (q := 880) dL_law_879 rfl ?_
      refine VB_iald (q := 881) (v := (iZ 4)) dL_law_880 13 12 rfl rfl (0) (by omega) (by omega) (by decide) (hM0) rfl ?_
      refine VB_iconst (q := 882) dL_law_881 rfl ?_
      refine VB_iadd (q := 883) dL_law_882 rfl ?_
      refine VB_top (y := iZ 6) rfl ?_
      refine VB_irem (q := 884) (a := 0) (b := 6) dL_law_883 (by omega) (by decide) (by decide) rfl ?_
      refine VB_top (y := iZ 0) rfl ?_
      refine VB_iconst (q := 885) dL_law_884 rfl ?_
      refine VB_isub (q := 886) dL_law_885 rfl ?_
      refine VB_top (y := iZ (-1)) rfl ?_
      refine VB_callU (q := 889) dL_law_886 (u_isWrong (a := a) (c := c) (S := S) (b := b) (d := d) (F := F) hI (wr0 hI (by decide) hK) hg840) yv_L_isWrong rfl gL_law_L_isWrong xU_L rfl (Nat.le_of_ble_eq_true rfl) (by decide) ⟨by show _ ≤ 20000; omega, by show _ ≤ 130000; omega⟩ (fun x886 g886 hP886 hg886 => ?_)
      refine VB_em (x := x886) (fun e886 => VB_lo (lo' := 123) (Nat.le_add_right _ _) (VB_top (y := iZ 0) e886 ?_)) (fun e886 => VB_lo (lo' := 125) (by show 125 ≤ 123 + (if x886 = 0 then 0 else 2); rw [if_neg e886]; omega) ?_)
      · skip
        refine VB_if_eq (q := 892) (tgt := 968) dL_law_889 (by decide) (by decide) (fun _ => ?_) (fun hc => absurd hc (by decide))
        exact VB_widen (by omega) (by omega) (J968 g886 hg886)
      · skip
        refine VB_uif_eq (q := 892) (tgt := 968) dL_law_889 (by decide) ?_ ?_
        · skip
          refine VB_lo (lo' := 123) (by omega) ?_
          exact VB_widen (by omega) (by omega) (J968 g886 hg886)
        · skip
          refine VB_iload (q := 894) dL_law_892 8 rfl rfl ?_
          refine VB_bipush (q := 896) dL_law_894 (by decide) rfl ?_
          refine VB_irem (q := 897) (a := 41) (b := 16) dL_law_896 (by omega) (by decide) (by decide) rfl ?_
          refine VB_top (y := iZ 9) rfl ?_
          refine VB_if_gt (q := 900) (tgt := 943) dL_law_897 (by decide) (by decide) (fun _ => ?_) (fun hc => absurd hc (by decide))
          refine VB_iload (q := 945) dL_law_943 8 rfl rfl ?_
          refine VB_bipush (q := 947) dL_law_945 (by decide) rfl ?_
          refine VB_irem (q := 948) (a := 41) (b := 20) dL_law_947 (by omega) (by decide) (by decide) rfl ?_
          refine VB_top (y := iZ 1) rfl ?_
          refine VB_if_gt (q := 951) (tgt := 964) dL_law_948 (by decide) (by decide) (fun _ => ?_) (fun hc => absurd hc (by decide))
          refine VB_iconst (q := 965) dL_law_964 rfl ?_
          refine VB_goto (tgt := 969) dL_law_965 (by decide) ?_
          refine VB_istore (q := 971) (lv' := [(0, _), (1, _), (2, _), (3, _), (4, _), (5, _), (6, _), (7, _), (8, _), (9, _), (10, _)]) dL_law_969 (by decide) rfl rfl ?_
          refine VB_iinc (q := 974) (y := 42) (lv' := [(0, _), (1, _), (2, _), (3, _), (4, _), (5, _), (6, _), (7, _), (8, _), (9, _), (10, _)]) dL_law_971 8 rfl (by omega) (by decide) rfl rfl ?_
          refine VB_goto (tgt := 64) dL_law_974 (by decide) ?_
          refine VB_loc (lv' := [(0, _), (1, _), (2, _), (3, _), (4, _), (5, _), (6, _), (7, _), (8, _)]) [0, 1, 2, 3, 4, 5, 6, 7, 8] rfl ?_
          refine VB_lo (lo' := 123) (by omega) ?_
          exact VB_widen (by omega) (by omega) (rd42 hL h16 hx S F g886 hI (fun _ => hK) hg886)
set_option maxRecDepth 100000 in
set_option maxHeartbeats 8000000 in
theorem rd41 {s0 L : Nat} {xs : Nat → Int32} {a : Nat → Nat} {c : Nat → ClassId} {b : Nat → Nat} {d : Nat → ClassId} (hL : L ≤ 260) (h16 : 80 ≤ L) (hx : ∀ j, j < 80 → xs j = 31) : ∀ (S : St) (F : Nat → Nat → Int32) (g : Nat → Nat), Iv S F 4 → (0 < 41 → sK S 0 = 0) → (∀ j, g j < 4096) → VB 123 RL cL_law 17 (some .boolean) wsL_law roomB (vXL s0 L xs) (tyl c d) (qF 123) (5406) (32436 + 1250) (wal a c S b d F g) 64 [(0, .ref (s0)), (1, .ref (a 0)), (2, .ref (b 0)), (3, .ref (b 1)), (4, .ref (b 2)), (5, .ref (b 3)), (6, .ref (b 4)), (7, .int (iZ 1)), (8, .int (iZ 41))] [] := by
  intro S F g hI hK hg
  obtain ⟨ho, hn, hm4, hM0, hG, hC⟩ := id hI
  refine VB_iload (q := 66) dL_law_64 8 rfl rfl ?_
  refine VB_bipush (q := 68) dL_law_66 (by decide) rfl ?_
  refine VB_icmp_ge (q := 71) (tgt := 977) dL_law_68 (by decide) (by decide) (by decide) (fun hc => absurd hc (by decide)) (fun _ => ?_)
  refine VB_iload (q := 73) dL_law_71 7 rfl rfl ?_
  refine VB_if_eq (q := 76) (tgt := 977) dL_law_73 (by decide) (by decide) (fun hc => absurd hc (by decide)) (fun _ => ?_)
  refine VB_aload_n (q := 77) dL_law_76 0 rfl rfl ?_
  refine VB_iload (q := 79) dL_law_77 8 rfl rfl ?_
  refine VB_callD (q := 82) dL_law_79 (u_dice (b := s0) (L := L) (xs := xs) 41 (by omega) hL (hx 41 (by omega))) yv_L_dice rfl gL_law_L_dice xL_s rfl (Nat.le_of_ble_eq_true rfl) (by decide) ⟨by show _ ≤ 20000; omega, by show _ ≤ 130000; omega⟩ ?_
  refine VB_istore (q := 84) (lv' := [(0, _), (1, _), (2, _), (3, _), (4, _), (5, _), (6, _), (7, _), (8, _), (9, _)]) dL_law_82 (by decide) rfl rfl ?_
  refine VB_iload (q := 86) dL_law_84 9 rfl rfl ?_
  refine VB_bipush (q := 88) dL_law_86 (by decide) rfl ?_
  refine VB_idiv (q := 89) (a := 31) (b := 32) dL_law_88 (by omega) (by decide) (by decide) rfl ?_
  refine VB_top (y := iZ 0) rfl ?_
  refine VB_istore (q := 91) (lv' := [(0, _), (1, _), (2, _), (3, _), (4, _), (5, _), (6, _), (7, _), (8, _), (9, _), (10, _)]) dL_law_89 (by decide) rfl rfl ?_
  refine VB_iload (q := 93) dL_law_91 9 rfl rfl ?_
  refine VB_bipush (q := 95) dL_law_93 (by decide) rfl ?_
  refine VB_irem (q := 96) (a := 31) (b := 32) dL_law_95 (by omega) (by decide) (by decide) rfl ?_
  refine VB_top (y := iZ 31) rfl ?_
  refine VB_istore (q := 98) (lv' := [(0, _), (1, _), (2, _), (3, _), (4, _), (5, _), (6, _), (7, _), (8, _), (9, _), (10, _), (11, _)]) dL_law_96 (by decide) rfl rfl ?_
  refine VB_aload (q := 100) dL_law_98 6 rfl rfl ?_
  refine VB_iconst (q := 101) dL_law_100 rfl ?_
  refine VB_iald (q := 102) (v := (iZ 4)) dL_law_101 13 12 rfl rfl (0) (by omega) (by omega) (by decide) (hM0) rfl ?_
  refine VB_if_ne (q := 105) (tgt := 109) dL_law_102 (by decide) (by decide) (fun _ => ?_) (fun hc => absurd hc (by decide))
  refine VB_iload (q := 111) dL_law_109 10 rfl rfl ?_
  refine VB_aload (q := 113) dL_law_111 6 rfl rfl ?_
  refine VB_iconst (q := 114) dL_law_113 rfl ?_
  refine VB_iald (q := 115) (v := (iZ 4)) dL_law_114 13 12 rfl rfl (0) (by omega) (by omega) (by decide) (hM0) rfl ?_
  refine VB_irem (q := 116) (a := 0) (b := 4) dL_law_115 (by omega) (by decide) (by decide) rfl ?_
  refine VB_top (y := iZ 0) rfl ?_
  refine VB_istore (q := 118) (lv' := [(0, _), (1, _), (2, _), (3, _), (4, _), (5, _), (6, _), (7, _), (8, _), (9, _), (10, _), (11, _), (12, _)]) dL_law_116 (by decide) rfl rfl ?_
  refine VB_aload (q := 120) dL_law_118 6 rfl rfl ?_
  refine VB_iconst (q := 121) dL_law_120 rfl ?_
  refine VB_iald (q := 122) (v := (iZ 4)) dL_law_121 13 12 rfl rfl (0) (by omega) (by omega) (by decide) (hM0) rfl ?_
  refine VB_iconst (q := 123) dL_law_122 rfl ?_
  refine VB_icmp_lt (q := 126) (tgt := 141) dL_law_123 (by decide) (by decide) (by decide) (fun hc => absurd hc (by decide)) (fun _ => ?_)
  refine VB_iload (q := 128) dL_law_126 11 rfl rfl ?_
  refine VB_iconst (q := 129) dL_law_128 rfl ?_
  refine VB_icmp_ge (q := 132) (tgt := 326) dL_law_129 (by decide) (by decide) (by decide) (fun _ => ?_) (fun hc => absurd hc (by decide))
  refine VB_iload (q := 328) dL_law_326 11 rfl rfl ?_
  refine VB_bipush (q := 330) dL_law_328 (by decide) rfl ?_
  refine VB_icmp_ge (q := 333) (tgt := 451) dL_law_330 (by decide) (by decide) (by decide) (fun _ => ?_) (fun hc => absurd hc (by decide))
  refine VB_iload (q := 453) dL_law_451 11 rfl rfl ?_
  refine VB_bipush (q := 455) dL_law_453 (by decide) rfl ?_
  refine VB_icmp_ge (q := 458) (tgt := 603) dL_law_455 (by decide) (by decide) (by decide) (fun _ => ?_) (fun hc => absurd hc (by decide))
  refine VB_iload (q := 605) dL_law_603 11 rfl rfl ?_
  refine VB_bipush (q := 607) dL_law_605 (by decide) rfl ?_
  refine VB_icmp_ge (q := 610) (tgt := 633) dL_law_607 (by decide) (by decide) (by decide) (fun _ => ?_) (fun hc => absurd hc (by decide))
  refine VB_iload (q := 635) dL_law_633 11 rfl rfl ?_
  refine VB_bipush (q := 637) dL_law_635 (by decide) rfl ?_
  refine VB_icmp_ge (q := 640) (tgt := 677) dL_law_637 (by decide) (by decide) (by decide) (fun _ => ?_) (fun hc => absurd hc (by decide))
  refine VB_iload (q := 679) dL_law_677 11 rfl rfl ?_
  refine VB_bipush (q := 681) dL_law_679 (by decide) rfl ?_
  refine VB_icmp_ne (q := 684) (tgt := 783) dL_law_681 (by decide) (by decide) (by decide) (fun _ => ?_) (fun hc => absurd hc (by decide))
  refine VB_loc (lv' := [(0, _), (1, _), (2, _), (3, _), (4, _), (5, _), (6, _), (7, _), (8, _), (9, _), (10, _)]) [0, 1, 2, 3, 4, 5, 6, 7, 8, 9, 10] rfl ?_
  exact VB_widen (by omega) (by omega) (ck41 hL h16 hx S F g hI (hK (by decide)) hg)
set_option maxRecDepth 100000 in
set_option maxHeartbeats 8000000 in
theorem ck40 {s0 L : Nat} {xs : Nat → Int32} {a : Nat → Nat} {c : Nat → ClassId} {b : Nat → Nat} {d : Nat → ClassId} (hL : L ≤ 260) (h16 : 80 ≤ L) (hx : ∀ j, j < 80 → xs j = 31) : ∀ (S : St) (F : Nat → Nat → Int32) (g : Nat → Nat), Iv S F 4 → sK S 0 = 0 → (∀ j, g j < 4096) → VB 123 RL cL_law 17 (some .boolean) wsL_law roomB (vXL s0 L xs) (tyl c d) (qF 123) (5122) (30732 + 1250) (wal a c S b d F g) 783 [(0, .ref (s0)), (1, .ref (a 0)), (2, .ref (b 0)), (3, .ref (b 1)), (4, .ref (b 2)), (5, .ref (b 3)), (6, .ref (b 4)), (7, .int (iZ 1)), (8, .int (iZ 40)), (9, .int (iZ 31)), (10, .int (iZ 0))] [] := by
  intro S F g hI hK hg
  obtain ⟨ho, hn, hm4, hM0, hG, hC⟩ := id hI
  refine VB_iload (q := 785) dL_law_783 7 rfl rfl ?_
  refine VB_if_eq (q := 788) (tgt := 968) dL_law_785 (by decide) (by decide) (fun hc => absurd hc (by decide)) (fun _ => ?_)
  refine VB_aload_n (q := 789) dL_law_788 1 rfl rfl ?_
  refine VB_aload_n (q := 790) dL_law_789 2 rfl rfl ?_
  refine VB_aload_n (q := 791) dL_law_790 3 rfl rfl ?_
  refine VB_aload (q := 793) dL_law_791 6 rfl rfl ?_
  refine VB_callU (q := 796) dL_law_793 (u_areThings (a := a) (c := c) (S := S) (b := b) (d := d) (F := F) hI hg) yv_L_areThings rfl gL_law_L_areThings xU_L rfl (Nat.le_of_ble_eq_true rfl) (by decide) ⟨by show _ ≤ 20000; omega, by show _ ≤ 130000; omega⟩ (fun x793 g793 hP793 hg793 => ?_)
  refine VB_lo (lo' := 123) (Nat.le_add_right _ _) ?_
  have J968 : ∀ (gj968 : Nat → Nat), (∀ j, gj968 j < 4096) → VB 123 RL cL_law 17 (some .boolean) wsL_law roomB (vXL s0 L xs) (tyl c d) (qF 123) (5406) (32436 + 1250) (wal a c S b d F gj968) 968 [(0, .ref (s0)), (1, .ref (a 0)), (2, .ref (b 0)), (3, .ref (b 1)), (4, .ref (b 2)), (5, .ref (b 3)), (6, .ref (b 4)), (7, .int (iZ 1)), (8, .int (iZ 40)), (9, .int (iZ 31)), (10, .int (iZ 0))] [] := by
    intro gj968 hgj968
    refine VB_iconst (q := 969) dL_law_968 rfl ?_
    refine VB_istore (q := 971) (lv' := [(0, _), (1, _), (2, _), (3, _), (4, _), (5, _), (6, _), (7, _), (8, _), (9, _), (10, _)]) dL_law_969 (by decide) rfl rfl ?_
    refine VB_iinc (q := 974) (y := 41) (lv' := [(0, _), (1, _), (2, _), (3, _), (4, _), (5, _), (6, _), (7, _), (8, _), (9, _), (10, _)]) dL_law_971 8 rfl (by omega) (by decide) rfl rfl ?_
    refine VB_goto (tgt := 64) dL_law_974 (by decide) ?_
    refine VB_iload (q := 66) dL_law_64 8 rfl rfl ?_
    refine VB_bipush (q := 68) dL_law_66 (by decide) rfl ?_
    refine VB_icmp_ge (q := 71) (tgt := 977) dL_law_68 (by decide) (by decide) (by decide) (fun hc => absurd hc (by decide)) (fun _ => ?_)
    refine VB_iload (q := 73) dL_law_71 7 rfl rfl ?_
    refine VB_if_eq (q := 76) (tgt := 977) dL_law_73 (by decide) (by decide) (fun _ => ?_) (fun hc => absurd hc (by decide))
    refine VB_iload (q := 979) dL_law_977 7 rfl rfl ?_
    exact VB_ret0 dL_law_979 rfl
  refine VB_uif_eq (q := 799) (tgt := 968) dL_law_796 (by decide) ?_ ?_
  · skip
    exact VB_widen (by omega) (by omega) (J968 g793 hg793)
  · skip
    refine VB_iload (q := 801) dL_law_799 8 rfl rfl ?_
    refine VB_iconst (q := 802) dL_law_801 rfl ?_
    refine VB_irem (q := 803) (a := 40) (b := 2) dL_law_802 (by omega) (by decide) (by decide) rfl ?_
    refine VB_top (y := iZ 0) rfl ?_
    refine VB_if_gt (q := 806) (tgt := 833) dL_law_803 (by decide) (by decide) (fun hc => absurd hc (by decide)) (fun _ => ?_)
    refine VB_aload_n (q := 807) dL_law_806 1 rfl rfl ?_
    refine VB_aload_n (q := 808) dL_law_807 2 rfl rfl ?_
    refine VB_aload_n (q := 809) dL_law_808 3 rfl rfl ?_
    refine VB_aload (q := 811) dL_law_809 4 rfl rfl ?_
    refine VB_aload (q := 813) dL_law_811 6 rfl rfl ?_
    refine VB_iload (q := 815) dL_law_813 10 rfl rfl ?_
    refine VB_bipush (q := 817) dL_law_815 (by decide) rfl ?_
    refine VB_irem (q := 818) (a := 0) (b := 31) dL_law_817 (by omega) (by decide) (by decide) rfl ?_
    refine VB_top (y := iZ 0) rfl ?_
    refine VB_iload (q := 820) dL_law_818 10 rfl rfl ?_
    refine VB_bipush (q := 822) dL_law_820 (by decide) rfl ?_
    refine VB_idiv (q := 823) (a := 0) (b := 31) dL_law_822 (by omega) (by decide) (by decide) rfl ?_
    refine VB_top (y := iZ 0) rfl ?_
    refine VB_sipush (q := 826) dL_law_823 (by decide) rfl ?_
    refine VB_irem (q := 827) (a := 0) (b := 256) dL_law_826 (by omega) (by decide) (by decide) rfl ?_
    refine VB_top (y := iZ 0) rfl ?_
    refine VB_callU (q := 830) dL_law_827 (u_areOutfits (a := a) (c := c) (S := S) (b := b) (d := d) (F := F) hI hg793) yv_L_areOutfits rfl gL_law_L_areOutfits xU_L rfl (Nat.le_of_ble_eq_true rfl) (by decide) ⟨by show _ ≤ 20000; omega, by show _ ≤ 130000; omega⟩ (fun x827 g827 hP827 hg827 => ?_)
    refine VB_lo (lo' := 123) (Nat.le_add_right _ _) ?_
    refine VB_uif_eq (q := 833) (tgt := 968) dL_law_830 (by decide) ?_ ?_
    · skip
      exact VB_widen (by omega) (by omega) (J968 g827 hg827)
    · skip
      refine VB_aload_n (q := 834) dL_law_833 1 rfl rfl ?_
      refine VB_aload_n (q := 835) dL_law_834 2 rfl rfl ?_
      refine VB_aload_n (q := 836) dL_law_835 3 rfl rfl ?_
      refine VB_aload (q := 838) dL_law_836 4 rfl rfl ?_
      refine VB_aload (q := 840) dL_law_838 6 rfl rfl ?_
      refine VB_callU (q := 843) dL_law_840 (u_isMissing (a := a) (c := c) (S := S) (b := b) (d := d) (F := F) hI hg827) yv_L_isMissing rfl gL_law_L_isMissing xU_L rfl (Nat.le_of_ble_eq_true rfl) (by decide) ⟨by show _ ≤ 20000; omega, by show _ ≤ 130000; omega⟩ (fun x840 g840 hP840 hg840 => ?_)
      refine VB_lo (lo' := 123) (Nat.le_add_right _ _) ?_
      refine VB_uif_eq (q := 846) (tgt := 968) dL_law_843 (by decide) ?_ ?_
      · skip
        exact VB_widen (by omega) (by omega) (J968 g840 hg840)
      · skip
        refine VB_aload_n (q := 847) dL_law_846 1 rfl rfl ?_
        refine VB_aload_n (q := 848) dL_law_847 2 rfl rfl ?_
        refine VB_aload (q := 850) dL_law_848 6 rfl rfl ?_
        refine VB_iload (q := 852) dL_law_850 10 rfl rfl ?_
        refine VB_aload (q := 854) dL_law_852 6 rfl rfl ?_
        refine VB_iconst (q := 855) dL_law_854 rfl ?_
        refine VB_iald (q := 856) (v := (iZ 4)) dL_law_855 13 12 rfl rfl (0) (by omega) (by omega) (by decide) (hM0) rfl ?_
        refine VB_iconst (q := 857) dL_law_856 rfl ?_
        refine VB_iadd (q := 858) dL_law_857 rfl ?_
        refine VB_top (y := iZ 5) rfl ?_
        refine VB_irem (q := 859) (a := 0) (b := 5) dL_law_858 (by omega) (by decide) (by decide) rfl ?_
        refine VB_top (y := iZ 0) rfl ?_
        refine VB_iload (q := 861) dL_law_859 10 rfl rfl ?_
        refine VB_bipush (q := 863) dL_law_861 (by decide) rfl ?_
        refine VB_idiv (q := 864) (a := 0) (b := 13) dL_law_863 (by omega) (by decide) (by decide) rfl ?_
        refine VB_top (y := iZ 0) rfl ?_
        refine VB_aload (q := 866) dL_law_864 6 rfl rfl ?_
        refine VB_iconst (q := 867) dL_law_866 rfl ?_
        refine VB_iald (q := 868) (v := (iZ 4)) dL_law_867 13 12 rfl rfl (0) (by omega) (by omega) (by decide) (hM0) rfl ?_
        refine VB_iconst (q := 869) dL_law_868 rfl ?_
        refine VB_iadd (q := 870) dL_law_869 rfl ?_
        refine VB_top (y := iZ 5) rfl ?_
        refine VB_irem (q := 871) (a := 0) (b := 5) dL_law_870 (by omega) (by decide) (by decide) rfl ?_
        refine VB_top (y := iZ 0) rfl ?_
        refine VB_iload (q := 873) dL_law_871 10 rfl rfl ?_
        refine VB_sipush (q := 876) dL_law_873 (by decide) rfl ?_
        refine VB_idiv (q := 877) (a := 0) (b := 169) dL_law_876 (by omega) (by decide) (by decide) rfl ?_
        refine VB_top (y := iZ 0) rfl ?_
        refine VB_aload (q := 879) dL_law_877 6 rfl rfl ?_
        refine VB_iconst (q := 880) dL_law_879 rfl ?_
        refine VB_iald (q := 881) (v := (iZ 4)) dL_law_880 13 12 rfl rfl (0) (by omega) (by omega) (by decide) (hM0) rfl ?_
        refine VB_iconst (q := 882) dL_law_881 rfl ?_
        refine VB_iadd (q := 883) dL_law_882 rfl ?_
        refine VB_top (y := iZ 6) rfl ?_
        refine VB_irem (q := 884) (a := 0) (b := 6) dL_law_883 (by omega) (by decide) (by decide) rfl ?_
        refine VB_top (y := iZ 0) rfl ?_
        refine VB_iconst (q := 885) dL_law_884 rfl ?_
        refine VB_isub (q := 886) dL_law_885 rfl ?_
        refine VB_top (y := iZ (-1)) rfl ?_
        refine VB_callU (q := 889) dL_law_886 (u_isWrong (a := a) (c := c) (S := S) (b := b) (d := d) (F := F) hI (wr0 hI (by decide) hK) hg840) yv_L_isWrong rfl gL_law_L_isWrong xU_L rfl (Nat.le_of_ble_eq_true rfl) (by decide) ⟨by show _ ≤ 20000; omega, by show _ ≤ 130000; omega⟩ (fun x886 g886 hP886 hg886 => ?_)
        refine VB_em (x := x886) (fun e886 => VB_lo (lo' := 123) (Nat.le_add_right _ _) (VB_top (y := iZ 0) e886 ?_)) (fun e886 => VB_lo (lo' := 125) (by show 125 ≤ 123 + (if x886 = 0 then 0 else 2); rw [if_neg e886]; omega) ?_)
        · skip
          refine VB_if_eq (q := 892) (tgt := 968) dL_law_889 (by decide) (by decide) (fun _ => ?_) (fun hc => absurd hc (by decide))
          exact VB_widen (by omega) (by omega) (J968 g886 hg886)
        · skip
          refine VB_uif_eq (q := 892) (tgt := 968) dL_law_889 (by decide) ?_ ?_
          · skip
            refine VB_lo (lo' := 123) (by omega) ?_
            exact VB_widen (by omega) (by omega) (J968 g886 hg886)
          · skip
            refine VB_iload (q := 894) dL_law_892 8 rfl rfl ?_
            refine VB_bipush (q := 896) dL_law_894 (by decide) rfl ?_
            refine VB_irem (q := 897) (a := 40) (b := 16) dL_law_896 (by omega) (by decide) (by decide) rfl ?_
            refine VB_top (y := iZ 8) rfl ?_
            refine VB_if_gt (q := 900) (tgt := 943) dL_law_897 (by decide) (by decide) (fun _ => ?_) (fun hc => absurd hc (by decide))
            refine VB_iload (q := 945) dL_law_943 8 rfl rfl ?_
            refine VB_bipush (q := 947) dL_law_945 (by decide) rfl ?_
            refine VB_irem (q := 948) (a := 40) (b := 20) dL_law_947 (by omega) (by decide) (by decide) rfl ?_
            refine VB_top (y := iZ 0) rfl ?_
            refine VB_if_gt (q := 951) (tgt := 964) dL_law_948 (by decide) (by decide) (fun hc => absurd hc (by decide)) (fun _ => ?_)
            refine VB_aload_n (q := 952) dL_law_951 1 rfl rfl ?_
            refine VB_aload (q := 954) dL_law_952 6 rfl rfl ?_
            refine VB_iload (q := 956) dL_law_954 9 rfl rfl ?_
            refine VB_iconst (q := 957) dL_law_956 rfl ?_
            refine VB_idiv (q := 958) (a := 31) (b := 3) dL_law_957 (by omega) (by decide) (by decide) rfl ?_
            refine VB_top (y := iZ 10) rfl ?_
            refine VB_callU (q := 961) dL_law_958 (u_isRefused10b (a := a) (c := c) (S := S) (b := b) (d := d) (F := F) hI hg886) yv_L_isRefused rfl gL_law_L_isRefused xU_L rfl (Nat.le_of_ble_eq_true rfl) (by decide) ⟨by show _ ≤ 20000; omega, by show _ ≤ 130000; omega⟩ (fun x958 g958 hP958 hg958 => ?_)
            refine VB_em (x := x958) (fun e958 => VB_lo (lo' := 125) (Nat.le_add_right _ _) (VB_top (y := iZ 0) e958 ?_)) (fun e958 => VB_lo (lo' := 151) (by show 151 ≤ 125 + (if x958 = 0 then 0 else 26); rw [if_neg e958]; omega) ?_)
            · skip
              refine VB_if_eq (q := 964) (tgt := 968) dL_law_961 (by decide) (by decide) (fun _ => ?_) (fun hc => absurd hc (by decide))
              refine VB_lo (lo' := 123) (by omega) ?_
              exact VB_widen (by omega) (by omega) (J968 g958 hg958)
            · skip
              refine VB_uif_eq (q := 964) (tgt := 968) dL_law_961 (by decide) ?_ ?_
              · skip
                refine VB_lo (lo' := 123) (by omega) ?_
                exact VB_widen (by omega) (by omega) (J968 g958 hg958)
              · skip
                refine VB_iconst (q := 965) dL_law_964 rfl ?_
                refine VB_goto (tgt := 969) dL_law_965 (by decide) ?_
                refine VB_istore (q := 971) (lv' := [(0, _), (1, _), (2, _), (3, _), (4, _), (5, _), (6, _), (7, _), (8, _), (9, _), (10, _)]) dL_law_969 (by decide) rfl rfl ?_
                refine VB_iinc (q := 974) (y := 41) (lv' := [(0, _), (1, _), (2, _), (3, _), (4, _), (5, _), (6, _), (7, _), (8, _), (9, _), (10, _)]) dL_law_971 8 rfl (by omega) (by decide) rfl rfl ?_
                refine VB_goto (tgt := 64) dL_law_974 (by decide) ?_
                refine VB_loc (lv' := [(0, _), (1, _), (2, _), (3, _), (4, _), (5, _), (6, _), (7, _), (8, _)]) [0, 1, 2, 3, 4, 5, 6, 7, 8] rfl ?_
                refine VB_lo (lo' := 123) (by omega) ?_
                exact VB_widen (by omega) (by omega) (rd41 hL h16 hx S F g958 hI (fun _ => hK) hg958)
set_option maxRecDepth 100000 in
set_option maxHeartbeats 8000000 in
theorem rd40 {s0 L : Nat} {xs : Nat → Int32} {a : Nat → Nat} {c : Nat → ClassId} {b : Nat → Nat} {d : Nat → ClassId} (hL : L ≤ 260) (h16 : 80 ≤ L) (hx : ∀ j, j < 80 → xs j = 31) : ∀ (S : St) (F : Nat → Nat → Int32) (g : Nat → Nat), Iv S F 4 → (0 < 40 → sK S 0 = 0) → (∀ j, g j < 4096) → VB 123 RL cL_law 17 (some .boolean) wsL_law roomB (vXL s0 L xs) (tyl c d) (qF 123) (5122) (30732 + 1250) (wal a c S b d F g) 64 [(0, .ref (s0)), (1, .ref (a 0)), (2, .ref (b 0)), (3, .ref (b 1)), (4, .ref (b 2)), (5, .ref (b 3)), (6, .ref (b 4)), (7, .int (iZ 1)), (8, .int (iZ 40))] [] := by
  intro S F g hI hK hg
  obtain ⟨ho, hn, hm4, hM0, hG, hC⟩ := id hI
  refine VB_iload (q := 66) dL_law_64 8 rfl rfl ?_
  refine VB_bipush (q := 68) dL_law_66 (by decide) rfl ?_
  refine VB_icmp_ge (q := 71) (tgt := 977) dL_law_68 (by decide) (by decide) (by decide) (fun hc => absurd hc (by decide)) (fun _ => ?_)
  refine VB_iload (q := 73) dL_law_71 7 rfl rfl ?_
  refine VB_if_eq (q := 76) (tgt := 977) dL_law_73 (by decide) (by decide) (fun hc => absurd hc (by decide)) (fun _ => ?_)
  refine VB_aload_n (q := 77) dL_law_76 0 rfl rfl ?_
  refine VB_iload (q := 79) dL_law_77 8 rfl rfl ?_
  refine VB_callD (q := 82) dL_law_79 (u_dice (b := s0) (L := L) (xs := xs) 40 (by omega) hL (hx 40 (by omega))) yv_L_dice rfl gL_law_L_dice xL_s rfl (Nat.le_of_ble_eq_true rfl) (by decide) ⟨by show _ ≤ 20000; omega, by show _ ≤ 130000; omega⟩ ?_
  refine VB_istore (q := 84) (lv' := [(0, _), (1, _), (2, _), (3, _), (4, _), (5, _), (6, _), (7, _), (8, _), (9, _)]) dL_law_82 (by decide) rfl rfl ?_
  refine VB_iload (q := 86) dL_law_84 9 rfl rfl ?_
  refine VB_bipush (q := 88) dL_law_86 (by decide) rfl ?_
  refine VB_idiv (q := 89) (a := 31) (b := 32) dL_law_88 (by omega) (by decide) (by decide) rfl ?_
  refine VB_top (y := iZ 0) rfl ?_
  refine VB_istore (q := 91) (lv' := [(0, _), (1, _), (2, _), (3, _), (4, _), (5, _), (6, _), (7, _), (8, _), (9, _), (10, _)]) dL_law_89 (by decide) rfl rfl ?_
  refine VB_iload (q := 93) dL_law_91 9 rfl rfl ?_
  refine VB_bipush (q := 95) dL_law_93 (by decide) rfl ?_
  refine VB_irem (q := 96) (a := 31) (b := 32) dL_law_95 (by omega) (by decide) (by decide) rfl ?_
  refine VB_top (y := iZ 31) rfl ?_
  refine VB_istore (q := 98) (lv' := [(0, _), (1, _), (2, _), (3, _), (4, _), (5, _), (6, _), (7, _), (8, _), (9, _), (10, _), (11, _)]) dL_law_96 (by decide) rfl rfl ?_
  refine VB_aload (q := 100) dL_law_98 6 rfl rfl ?_
  refine VB_iconst (q := 101) dL_law_100 rfl ?_
  refine VB_iald (q := 102) (v := (iZ 4)) dL_law_101 13 12 rfl rfl (0) (by omega) (by omega) (by decide) (hM0) rfl ?_
  refine VB_if_ne (q := 105) (tgt := 109) dL_law_102 (by decide) (by decide) (fun _ => ?_) (fun hc => absurd hc (by decide))
  refine VB_iload (q := 111) dL_law_109 10 rfl rfl ?_
  refine VB_aload (q := 113) dL_law_111 6 rfl rfl ?_
  refine VB_iconst (q := 114) dL_law_113 rfl ?_
  refine VB_iald (q := 115) (v := (iZ 4)) dL_law_114 13 12 rfl rfl (0) (by omega) (by omega) (by decide) (hM0) rfl ?_
  refine VB_irem (q := 116) (a := 0) (b := 4) dL_law_115 (by omega) (by decide) (by decide) rfl ?_
  refine VB_top (y := iZ 0) rfl ?_
  refine VB_istore (q := 118) (lv' := [(0, _), (1, _), (2, _), (3, _), (4, _), (5, _), (6, _), (7, _), (8, _), (9, _), (10, _), (11, _), (12, _)]) dL_law_116 (by decide) rfl rfl ?_
  refine VB_aload (q := 120) dL_law_118 6 rfl rfl ?_
  refine VB_iconst (q := 121) dL_law_120 rfl ?_
  refine VB_iald (q := 122) (v := (iZ 4)) dL_law_121 13 12 rfl rfl (0) (by omega) (by omega) (by decide) (hM0) rfl ?_
  refine VB_iconst (q := 123) dL_law_122 rfl ?_
  refine VB_icmp_lt (q := 126) (tgt := 141) dL_law_123 (by decide) (by decide) (by decide) (fun hc => absurd hc (by decide)) (fun _ => ?_)
  refine VB_iload (q := 128) dL_law_126 11 rfl rfl ?_
  refine VB_iconst (q := 129) dL_law_128 rfl ?_
  refine VB_icmp_ge (q := 132) (tgt := 326) dL_law_129 (by decide) (by decide) (by decide) (fun _ => ?_) (fun hc => absurd hc (by decide))
  refine VB_iload (q := 328) dL_law_326 11 rfl rfl ?_
  refine VB_bipush (q := 330) dL_law_328 (by decide) rfl ?_
  refine VB_icmp_ge (q := 333) (tgt := 451) dL_law_330 (by decide) (by decide) (by decide) (fun _ => ?_) (fun hc => absurd hc (by decide))
  refine VB_iload (q := 453) dL_law_451 11 rfl rfl ?_
  refine VB_bipush (q := 455) dL_law_453 (by decide) rfl ?_
  refine VB_icmp_ge (q := 458) (tgt := 603) dL_law_455 (by decide) (by decide) (by decide) (fun _ => ?_) (fun hc => absurd hc (by decide))
  refine VB_iload (q := 605) dL_law_603 11 rfl rfl ?_
  refine VB_bipush (q := 607) dL_law_605 (by decide) rfl ?_
  refine VB_icmp_ge (q := 610) (tgt := 633) dL_law_607 (by decide) (by decide) (by decide) (fun _ => ?_) (fun hc => absurd hc (by decide))
  refine VB_iload (q := 635) dL_law_633 11 rfl rfl ?_
  refine VB_bipush (q := 637) dL_law_635 (by decide) rfl ?_
  refine VB_icmp_ge (q := 640) (tgt := 677) dL_law_637 (by decide) (by decide) (by decide) (fun _ => ?_) (fun hc => absurd hc (by decide))
  refine VB_iload (q := 679) dL_law_677 11 rfl rfl ?_
  refine VB_bipush (q := 681) dL_law_679 (by decide) rfl ?_
  refine VB_icmp_ne (q := 684) (tgt := 783) dL_law_681 (by decide) (by decide) (by decide) (fun _ => ?_) (fun hc => absurd hc (by decide))
  refine VB_loc (lv' := [(0, _), (1, _), (2, _), (3, _), (4, _), (5, _), (6, _), (7, _), (8, _), (9, _), (10, _)]) [0, 1, 2, 3, 4, 5, 6, 7, 8, 9, 10] rfl ?_
  exact VB_widen (by omega) (by omega) (ck40 hL h16 hx S F g hI (hK (by decide)) hg)
