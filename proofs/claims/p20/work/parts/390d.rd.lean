/-! the law's rounds, further -/
set_option maxRecDepth 100000 in
set_option maxHeartbeats 8000000 in
theorem ck19 {s0 L : Nat} {xs : Nat → Int32} {a : Nat → Nat} {c : Nat → ClassId} {b : Nat → Nat} {d : Nat → ClassId} (hL : L ≤ 260) (h16 : 80 ≤ L) (hx : ∀ j, j < 80 → xs j = 31) : ∀ (S : St) (F : Nat → Nat → Int32) (g : Nat → Nat), Iv S F 4 → sK S 0 = 0 → (∀ j, g j < 4096) → VB 123 RL cL_law 17 (some .boolean) wsL_law roomB (vXL s0 L xs) (tyl c d) (qF 123) (2622) (15732 + 1250) (wal a c S b d F g) 783 [(0, .ref (s0)), (1, .ref (a 0)), (2, .ref (b 0)), (3, .ref (b 1)), (4, .ref (b 2)), (5, .ref (b 3)), (6, .ref (b 4)), (7, .int (iZ 1)), (8, .int (iZ 19)), (9, .int (iZ 31)), (10, .int (iZ 0))] [] := by
  intro S F g hI hK hg
  obtain ⟨ho, hn, hm4, hM0, hG, hC⟩ := id hI
  refine VB_iload (q := 785) dL_law_783 7 rfl rfl ?_
  refine VB_if_eq (q := 788) (tgt := 968) dL_law_785 (by decide) (by decide) (fun hc => absurd hc (by decide)) (fun _ => ?_)
  refine VB_aload_n (q := 789) dL_law_788 1 rfl rfl ?_
  refine VB_aload_n (q := 790) dL_law_789 2 rfl rfl ?_
  refine VB_aload_n (q := 791) dL_law_790 3 rfl rfl ?_
  refine VB_aload (q := 793) dL_law_791 6 rfl rfl ?_
  refine VB_callU (q := 796) dL_law_793 (u_areThings (a := a) (c := c) (S := S) (b := b) (d := d) (F := F) hI hg) yv_L_areThings rfl gL_law_L_areThings xU_L rfl (Nat.le_of_ble_eq_true rfl) (by decide) ⟨by show _ ≤ 20000; omega, by show _ ≤ 130000; omega⟩ (fun x793 g793 hP793 hg793 => ?_)
  refine VB_lo (lo' := 123) (Nat.le_add_right _ _) ?_
  have J968 : ∀ (gj968 : Nat → Nat), (∀ j, gj968 j < 4096) → VB 123 RL cL_law 17 (some .boolean) wsL_law roomB (vXL s0 L xs) (tyl c d) (qF 123) (2642) (15852 + 1250) (wal a c S b d F gj968) 968 [(0, .ref (s0)), (1, .ref (a 0)), (2, .ref (b 0)), (3, .ref (b 1)), (4, .ref (b 2)), (5, .ref (b 3)), (6, .ref (b 4)), (7, .int (iZ 1)), (8, .int (iZ 19)), (9, .int (iZ 31)), (10, .int (iZ 0))] [] := by
    intro gj968 hgj968
    refine VB_iconst (q := 969) dL_law_968 rfl ?_
    refine VB_istore (q := 971) (lv' := [(0, _), (1, _), (2, _), (3, _), (4, _), (5, _), (6, _), (7, _), (8, _), (9, _), (10, _)]) dL_law_969 (by decide) rfl rfl ?_
    refine VB_iinc (q := 974) (y := 20) (lv' := [(0, _), (1, _), (2, _), (3, _), (4, _), (5, _), (6, _), (7, _), (8, _), (9, _), (10, _)]) dL_law_971 8 rfl (by omega) (by decide) rfl rfl ?_
    refine VB_goto (tgt := 64) dL_law_974 (by decide) ?_
    refine VB_iload (q := 66) dL_law_64 8 rfl rfl ?_
    refine VB_bipush (q := 68) dL_law_66 (by decide) rfl ?_
    refine VB_icmp_ge (q := 71) (tgt := 977) dL_law_68 (by decide) (by decide) (by decide) (fun hc => absurd hc (by decide)) (fun _ => ?_)
    refine VB_iload (q := 73) dL_law_71 7 rfl rfl ?_
    refine VB_if_eq (q := 76) (tgt := 977) dL_law_73 (by decide) (by decide) (fun _ => ?_) (fun hc => absurd hc (by decide))
    refine VB_iload (q := 979) dL_law_977 7 rfl rfl ?_
    exact VB_ret0 dL_law_979 rfl
  refine VB_uif_eq (q := 799) (tgt := 968) dL_law_796 (by decide) ?_ ?_
  · skip
    exact VB_widen (by omega) (by omega) (J968 g793 hg793)
  · skip
    refine VB_iload (q := 801) dL_law_799 8 rfl rfl ?_
    refine VB_iconst (q := 802) dL_law_801 rfl ?_
    refine VB_irem (q := 803) (a := 19) (b := 2) dL_law_802 (by omega) (by decide) (by decide) rfl ?_
    refine VB_top (y := iZ 1) rfl ?_
    refine VB_if_gt (q := 806) (tgt := 833) dL_law_803 (by decide) (by decide) (fun _ => ?_) (fun hc => absurd hc (by decide))
    refine VB_aload_n (q := 834) dL_law_833 1 rfl rfl ?_
    refine VB_aload_n (q := 835) dL_law_834 2 rfl rfl ?_
    refine VB_aload_n (q := 836) dL_law_835 3 rfl rfl ?_
    refine VB_aload (q := 838) dL_law_836 4 rfl rfl ?_
    refine VB_aload (q := 840) dL_law_838 6 rfl rfl ?_
    refine VB_callU (q := 843) dL_law_840 (u_isMissing (a := a) (c := c) (S := S) (b := b) (d := d) (F := F) hI hg793) yv_L_isMissing rfl gL_law_L_isMissing xU_L rfl (Nat.le_of_ble_eq_true rfl) (by decide) ⟨by show _ ≤ 20000; omega, by show _ ≤ 130000; omega⟩ (fun x840 g840 hP840 hg840 => ?_)
    refine VB_lo (lo' := 123) (Nat.le_add_right _ _) ?_
    refine VB_uif_eq (q := 846) (tgt := 968) dL_law_843 (by decide) ?_ ?_
    · skip
      exact VB_widen (by omega) (by omega) (J968 g840 hg840)
    · skip
      refine VB_aload_n (q := 847) dL_law_846 1 rfl rfl ?_
      refine VB_aload_n (q := 848) dL_law_847 2 rfl rfl ?_
      refine VB_aload (q := 850) dL_law_848 6 rfl rfl ?_
      refine VB_iload (q := 852) dL_law_850 10 rfl rfl ?_
      refine VB_aload (q := 854) dL_law_852 6 rfl rfl ?_
      refine VB_iconst (q := 855) dL_law_854 rfl ?_
      refine VB_iald (q := 856) (v := (iZ 4)) dL_law_855 13 12 rfl rfl (0) (by omega) (by omega) (by decide) (hM0) rfl ?_
      refine VB_iconst (q := 857) dL_law_856 rfl ?_
      refine VB_iadd (q := 858) dL_law_857 rfl ?_
      refine VB_top (y := iZ 5) rfl ?_
      refine VB_irem (q := 859) (a := 0) (b := 5) dL_law_858 (by omega) (by decide) (by decide) rfl ?_
      refine VB_top (y := iZ 0) rfl ?_
      refine VB_iload (q := 861) dL_law_859 10 rfl rfl ?_
      refine VB_bipush (q := 863) dL_law_861 (by decide) rfl ?_
      refine VB_idiv (q := 864) (a := 0) (b := 13) dL_law_863 (by omega) (by decide) (by decide) rfl ?_
      refine VB_top (y := iZ 0) rfl ?_
      refine VB_aload (q := 866) dL_law_864 6 rfl rfl ?_
      refine VB_iconst (q := 867) dL_law_866 rfl ?_
      refine VB_iald (q := 868) (v := (iZ 4)) dL_law_867 13 12 rfl rfl (0) (by omega) (by omega) (by decide) (hM0) rfl ?_
      refine VB_iconst (q := 869) dL_law_868 rfl ?_
      refine VB_iadd (q := 870) dL_law_869 rfl ?_
      refine VB_top (y := iZ 5) rfl ?_
      refine VB_irem (q := 871) (a := 0) (b := 5) dL_law_870 (by omega) (by decide) (by decide) rfl ?_
      refine VB_top (y := iZ 0) rfl ?_
      refine VB_iload (q := 873) dL_law_871 10 rfl rfl ?_
      refine VB_sipush (q := 876) dL_law_873 (by decide) rfl ?_
      refine VB_idiv (q := 877) (a := 0) (b := 169) dL_law_876 (by omega) (by decide) (by decide) rfl ?_
      refine VB_top (y := iZ 0) rfl ?_
      refine VB_aload (q := 879) dL_law_877 6 rfl rfl ?_
      refine VB_iconst (q := 880) dL_law_879 rfl ?_
      refine VB_iald (q := 881) (v := (iZ 4)) dL_law_880 13 12 rfl rfl (0) (by omega) (by omega) (by decide) (hM0) rfl ?_
      refine VB_iconst (q := 882) dL_law_881 rfl ?_
      refine VB_iadd (q := 883) dL_law_882 rfl ?_
      refine VB_top (y := iZ 6) rfl ?_
      refine VB_irem (q := 884) (a := 0) (b := 6) dL_law_883 (by omega) (by decide) (by decide) rfl ?_
      refine VB_top (y := iZ 0) rfl ?_
      refine VB_iconst (q := 885) dL_law_884 rfl ?_
      refine VB_isub (q := 886) dL_law_885 rfl ?_
      refine VB_top (y := iZ (-1)) rfl ?_
      refine VB_callU (q := 889) dL_law_886 (u_isWrong (a := a) (c := c) (S := S) (b := b) (d := d) (F := F) hI (wr0 hI (by decide) hK) hg840) yv_L_isWrong rfl gL_law_L_isWrong xU_L rfl (Nat.le_of_ble_eq_true rfl) (by decide) ⟨by show _ ≤ 20000; omega, by show _ ≤ 130000; omega⟩ (fun x886 g886 hP886 hg886 => ?_)
      refine VB_em (x := x886) (fun e886 => VB_lo (lo' := 123) (Nat.le_add_right _ _) (VB_top (y := iZ 0) e886 ?_)) (fun e886 => VB_lo (lo' := 125) (by show 125 ≤ 123 + (if x886 = 0 then 0 else 2); rw [if_neg e886]; omega) ?_)
      · skip
        refine VB_if_eq (q := 892) (tgt := 968) dL_law_889 (by decide) (by decide) (fun _ => ?_) (fun hc => absurd hc (by decide))
        exact VB_widen (by omega) (by omega) (J968 g886 hg886)
      · skip
        refine VB_uif_eq (q := 892) (tgt := 968) dL_law_889 (by decide) ?_ ?_
        · skip
          refine VB_lo (lo' := 123) (by omega) ?_
          exact VB_widen (by omega) (by omega) (J968 g886 hg886)
        · skip
          refine VB_iload (q := 894) dL_law_892 8 rfl rfl ?_
          refine VB_bipush (q := 896) dL_law_894 (by decide) rfl ?_
          refine VB_irem (q := 897) (a := 19) (b := 16) dL_law_896 (by omega) (by decide) (by decide) rfl ?_
          refine VB_top (y := iZ 3) rfl ?_
          refine VB_if_gt (q := 900) (tgt := 943) dL_law_897 (by decide) (by decide) (fun _ => ?_) (fun hc => absurd hc (by decide))
          refine VB_iload (q := 945) dL_law_943 8 rfl rfl ?_
          refine VB_bipush (q := 947) dL_law_945 (by decide) rfl ?_
          refine VB_irem (q := 948) (a := 19) (b := 20) dL_law_947 (by omega) (by decide) (by decide) rfl ?_
          refine VB_top (y := iZ 19) rfl ?_
          refine VB_if_gt (q := 951) (tgt := 964) dL_law_948 (by decide) (by decide) (fun _ => ?_) (fun hc => absurd hc (by decide))
          refine VB_iconst (q := 965) dL_law_964 rfl ?_
          refine VB_goto (tgt := 969) dL_law_965 (by decide) ?_
          refine VB_istore (q := 971) (lv' := [(0, _), (1, _), (2, _), (3, _), (4, _), (5, _), (6, _), (7, _), (8, _), (9, _), (10, _)]) dL_law_969 (by decide) rfl rfl ?_
          refine VB_iinc (q := 974) (y := 20) (lv' := [(0, _), (1, _), (2, _), (3, _), (4, _), (5, _), (6, _), (7, _), (8, _), (9, _), (10, _)]) dL_law_971 8 rfl (by omega) (by decide) rfl rfl ?_
          refine VB_goto (tgt := 64) dL_law_974 (by decide) ?_
          refine VB_loc (lv' := [(0, _), (1, _), (2, _), (3, _), (4, _), (5, _), (6, _), (7, _), (8, _)]) [0, 1, 2, 3, 4, 5, 6, 7, 8] rfl ?_
          refine VB_lo (lo' := 123) (by omega) ?_
          exact VB_widen (by omega) (by omega) (rd20 hL h16 hx S F g886 hI (fun _ => hK) hg886)
set_option maxRecDepth 100000 in
set_option maxHeartbeats 8000000 in
theorem rd19 {s0 L : Nat} {xs : Nat → Int32} {a : Nat → Nat} {c : Nat → ClassId} {b : Nat → Nat} {d : Nat → ClassId} (hL : L ≤ 260) (h16 : 80 ≤ L) (hx : ∀ j, j < 80 → xs j = 31) : ∀ (S : St) (F : Nat → Nat → Int32) (g : Nat → Nat), Iv S F 4 → (0 < 19 → sK S 0 = 0) → (∀ j, g j < 4096) → VB 123 RL cL_law 17 (some .boolean) wsL_law roomB (vXL s0 L xs) (tyl c d) (qF 123) (2622) (15732 + 1250) (wal a c S b d F g) 64 [(0, .ref (s0)), (1, .ref (a 0)), (2, .ref (b 0)), (3, .ref (b 1)), (4, .ref (b 2)), (5, .ref (b 3)), (6, .ref (b 4)), (7, .int (iZ 1)), (8, .int (iZ 19))] [] := by
  intro S F g hI hK hg
  obtain ⟨ho, hn, hm4, hM0, hG, hC⟩ := id hI
  refine VB_iload (q := 66) dL_law_64 8 rfl rfl ?_
  refine VB_bipush (q := 68) dL_law_66 (by decide) rfl ?_
  refine VB_icmp_ge (q := 71) (tgt := 977) dL_law_68 (by decide) (by decide) (by decide) (fun hc => absurd hc (by decide)) (fun _ => ?_)
  refine VB_iload (q := 73) dL_law_71 7 rfl rfl ?_
  refine VB_if_eq (q := 76) (tgt := 977) dL_law_73 (by decide) (by decide) (fun hc => absurd hc (by decide)) (fun _ => ?_)
  refine VB_aload_n (q := 77) dL_law_76 0 rfl rfl ?_
  refine VB_iload (q := 79) dL_law_77 8 rfl rfl ?_
  refine VB_callD (q := 82) dL_law_79 (u_dice (b := s0) (L := L) (xs := xs) 19 (by omega) hL (hx 19 (by omega))) yv_L_dice rfl gL_law_L_dice xL_s rfl (Nat.le_of_ble_eq_true rfl) (by decide) ⟨by show _ ≤ 20000; omega, by show _ ≤ 130000; omega⟩ ?_
  refine VB_istore (q := 84) (lv' := [(0, _), (1, _), (2, _), (3, _), (4, _), (5, _), (6, _), (7, _), (8, _), (9, _)]) dL_law_82 (by decide) rfl rfl ?_
  refine VB_iload (q := 86) dL_law_84 9 rfl rfl ?_
  refine VB_bipush (q := 88) dL_law_86 (by decide) rfl ?_
  refine VB_idiv (q := 89) (a := 31) (b := 32) dL_law_88 (by omega) (by decide) (by decide) rfl ?_
  refine VB_top (y := iZ 0) rfl ?_
  refine VB_istore (q := 91) (lv' := [(0, _), (1, _), (2, _), (3, _), (4, _), (5, _), (6, _), (7, _), (8, _), (9, _), (10, _)]) dL_law_89 (by decide) rfl rfl ?_
  refine VB_iload (q := 93) dL_law_91 9 rfl rfl ?_
  refine VB_bipush (q := 95) dL_law_93 (by decide) rfl ?_
  refine VB_irem (q := 96) (a := 31) (b := 32) dL_law_95 (by omega) (by decide) (by decide) rfl ?_
  refine VB_top (y := iZ 31) rfl ?_
  refine VB_istore (q := 98) (lv' := [(0, _), (1, _), (2, _), (3, _), (4, _), (5, _), (6, _), (7, _), (8, _), (9, _), (10, _), (11, _)]) dL_law_96 (by decide) rfl rfl ?_
  refine VB_aload (q := 100) dL_law_98 6 rfl rfl ?_
  refine VB_iconst (q := 101) dL_law_100 rfl ?_
  refine VB_iald (q := 102) (v := (iZ 4)) dL_law_101 13 12 rfl rfl (0) (by omega) (by omega) (by decide) (hM0) rfl ?_
  refine VB_if_ne (q := 105) (tgt := 109) dL_law_102 (by decide) (by decide) (fun _ => ?_) (fun hc => absurd hc (by decide))
  refine VB_iload (q := 111) dL_law_109 10 rfl rfl ?_
  refine VB_aload (q := 113) dL_law_111 6 rfl rfl ?_
  refine VB_iconst (q := 114) dL_law_113 rfl ?_
  refine VB_iald (q := 115) (v := (iZ 4)) dL_law_114 13 12 rfl rfl (0) (by omega) (by omega) (by decide) (hM0) rfl ?_
  refine VB_irem (q := 116) (a := 0) (b := 4) dL_law_115 (by omega) (by decide) (by decide) rfl ?_
  refine VB_top (y := iZ 0) rfl ?_
  refine VB_istore (q := 118) (lv' := [(0, _), (1, _), (2, _), (3, _), (4, _), (5, _), (6, _), (7, _), (8, _), (9, _), (10, _), (11, _), (12, _)]) dL_law_116 (by decide) rfl rfl ?_
  refine VB_aload (q := 120) dL_law_118 6 rfl rfl ?_
  refine VB_iconst (q := 121) dL_law_120 rfl ?_
  refine VB_iald (q := 122) (v := (iZ 4)) dL_law_121 13 12 rfl rfl (0) (by omega) (by omega) (by decide) (hM0) rfl ?_
  refine VB_iconst (q := 123) dL_law_122 rfl ?_
  refine VB_icmp_lt (q := 126) (tgt := 141) dL_law_123 (by decide) (by decide) (by decide) (fun hc => absurd hc (by decide)) (fun _ => ?_)
  refine VB_iload (q := 128) dL_law_126 11 rfl rfl ?_
  refine VB_iconst (q := 129) dL_law_128 rfl ?_
  refine VB_icmp_ge (q := 132) (tgt := 326) dL_law_129 (by decide) (by decide) (by decide) (fun _ => ?_) (fun hc => absurd hc (by decide))
  refine VB_iload (q := 328) dL_law_326 11 rfl rfl ?_
  refine VB_bipush (q := 330) dL_law_328 (by decide) rfl ?_
  refine VB_icmp_ge (q := 333) (tgt := 451) dL_law_330 (by decide) (by decide) (by decide) (fun _ => ?_) (fun hc => absurd hc (by decide))
  refine VB_iload (q := 453) dL_law_451 11 rfl rfl ?_
  refine VB_bipush (q := 455) dL_law_453 (by decide) rfl ?_
  refine VB_icmp_ge (q := 458) (tgt := 603) dL_law_455 (by decide) (by decide) (by decide) (fun _ => ?_) (fun hc => absurd hc (by decide))
  refine VB_iload (q := 605) dL_law_603 11 rfl rfl ?_
  refine VB_bipush (q := 607) dL_law_605 (by decide) rfl ?_
  refine VB_icmp_ge (q := 610) (tgt := 633) dL_law_607 (by decide) (by decide) (by decide) (fun _ => ?_) (fun hc => absurd hc (by decide))
  refine VB_iload (q := 635) dL_law_633 11 rfl rfl ?_
  refine VB_bipush (q := 637) dL_law_635 (by decide) rfl ?_
  refine VB_icmp_ge (q := 640) (tgt := 677) dL_law_637 (by decide) (by decide) (by decide) (fun _ => ?_) (fun hc => absurd hc (by decide))
  refine VB_iload (q := 679) dL_law_677 11 rfl rfl ?_
  refine VB_bipush (q := 681) dL_law_679 (by decide) rfl ?_
  refine VB_icmp_ne (q := 684) (tgt := 783) dL_law_681 (by decide) (by decide) (by decide) (fun _ => ?_) (fun hc => absurd hc (by decide))
  refine VB_loc (lv' := [(0, _), (1, _), (2, _), (3, _), (4, _), (5, _), (6, _), (7, _), (8, _), (9, _), (10, _)]) [0, 1, 2, 3, 4, 5, 6, 7, 8, 9, 10] rfl ?_
  exact VB_widen (by omega) (by omega) (ck19 hL h16 hx S F g hI (hK (by decide)) hg)
set_option maxRecDepth 100000 in
set_option maxHeartbeats 8000000 in
theorem ck18 {s0 L : Nat} {xs : Nat → Int32} {a : Nat → Nat} {c : Nat → ClassId} {b : Nat → Nat} {d : Nat → ClassId} (hL : L ≤ 260) (h16 : 80 ≤ L) (hx : ∀ j, j < 80 → xs j = 31) : ∀ (S : St) (F : Nat → Nat → Int32) (g : Nat → Nat), Iv S F 4 → sK S 0 = 0 → (∀ j, g j < 4096) → VB 123 RL cL_law 17 (some .boolean) wsL_law roomB (vXL s0 L xs) (tyl c d) (qF 123) (2402) (14412 + 1250) (wal a c S b d F g) 783 [(0, .ref (s0)), (1, .ref (a 0)), (2, .ref (b 0)), (3, .ref (b 1)), (4, .ref (b 2)), (5, .ref (b 3)), (6, .ref (b 4)), (7, .int (iZ 1)), (8, .int (iZ 18)), (9, .int (iZ 31)), (10, .int (iZ 0))] [] := by
  intro S F g hI hK hg
  obtain ⟨ho, hn, hm4, hM0, hG, hC⟩ := id hI
  refine VB_iload (q := 785) dL_law_783 7 rfl rfl ?_
  refine VB_if_eq (q := 788) (tgt := 968) dL_law_785 (by decide) (by decide) (fun hc => absurd hc (by decide)) (fun _ => ?_)
  refine VB_aload_n (q := 789) dL_law_788 1 rfl rfl ?_
  refine VB_aload_n (q := 790) dL_law_789 2 rfl rfl ?_
  refine VB_aload_n (q := 791) dL_law_790 3 rfl rfl ?_
  refine VB_aload (q := 793) dL_law_791 6 rfl rfl ?_
  refine VB_callU (q := 796) dL_law_793 (u_areThings (a := a) (c := c) (S := S) (b := b) (d := d) (F := F) hI hg) yv_L_areThings rfl gL_law_L_areThings xU_L rfl (Nat.le_of_ble_eq_true rfl) (by decide) ⟨by show _ ≤ 20000; omega, by show _ ≤ 130000; omega⟩ (fun x793 g793 hP793 hg793 => ?_)
  refine VB_lo (lo' := 123) (Nat.le_add_right _ _) ?_
  have J968 : ∀ (gj968 : Nat → Nat), (∀ j, gj968 j < 4096) → VB 123 RL cL_law 17 (some .boolean) wsL_law roomB (vXL s0 L xs) (tyl c d) (qF 123) (2622) (15732 + 1250) (wal a c S b d F gj968) 968 [(0, .ref (s0)), (1, .ref (a 0)), (2, .ref (b 0)), (3, .ref (b 1)), (4, .ref (b 2)), (5, .ref (b 3)), (6, .ref (b 4)), (7, .int (iZ 1)), (8, .int (iZ 18)), (9, .int (iZ 31)), (10, .int (iZ 0))] [] := by
    intro gj968 hgj968
    refine VB_iconst (q := 969) dL_law_968 rfl ?_
    refine VB_istore (q := 971) (lv' := [(0, _), (1, _), (2, _), (3, _), (4, _), (5, _), (6, _), (7, _), (8, _), (9, _), (10, _)]) dL_law_969 (by decide) rfl rfl ?_
    refine VB_iinc (q := 974) (y := 19) (lv' := [(0, _), (1, _), (2, _), (3, _), (4, _), (5, _), (6, _), (7, _), (8, _), (9, _), (10, _)]) dL_law_971 8 rfl (by omega) (by decide) rfl rfl ?_
    refine VB_goto (tgt := 64) dL_law_974 (by decide) ?_
    refine VB_iload (q := 66) dL_law_64 8 rfl rfl ?_
    refine VB_bipush (q := 68) dL_law_66 (by decide) rfl ?_
    refine VB_icmp_ge (q := 71) (tgt := 977) dL_law_68 (by decide) (by decide) (by decide) (fun hc => absurd hc (by decide)) (fun _ => ?_)
    refine VB_iload (q := 73) dL_law_71 7 rfl rfl ?_
    refine VB_if_eq (q := 76) (tgt := 977) dL_law_73 (by decide) (by decide) (fun _ => ?_) (fun hc => absurd hc (by decide))
    refine VB_iload (q := 979) dL_law_977 7 rfl rfl ?_
    exact VB_ret0 dL_law_979 rfl
  refine VB_uif_eq (q := 799) (tgt := 968) dL_law_796 (by decide) ?_ ?_
  · skip
    exact VB_widen (by omega) (by omega) (J968 g793 hg793)
  · skip
    refine VB_iload (q := 801) dL_law_799 8 rfl rfl ?_
    refine VB_iconst (q := 802) dL_law_801 rfl ?_
    refine VB_irem (q := 803) (a := 18) (b := 2) dL_law_802 (by omega) (by decide) (by decide) rfl ?_
    refine VB_top (y := iZ 0) rfl ?_
    refine VB_if_gt (q := 806) (tgt := 833) dL_law_803 (by decide) (by decide) (fun hc => absurd hc (by decide)) (fun _ => ?_)
    refine VB_aload_n (q := 807) dL_law_806 1 rfl rfl ?_
    refine VB_aload_n (q := 808) dL_law_807 2 rfl rfl ?_
    refine VB_aload_n (q := 809) dL_law_808 3 rfl rfl ?_
    refine VB_aload (q := 811) dL_law_809 4 rfl rfl ?_
    refine VB_aload (q := 813) dL_law_811 6 rfl rfl ?_
    refine VB_iload (q := 815) dL_law_813 10 rfl rfl ?_
    refine VB_bipush (q := 817) dL_law_815 (by decide) rfl ?_
    refine VB_irem (q := 818) (a := 0) (b := 31) dL_law_817 (by omega) (by decide) (by decide) rfl ?_
    refine VB_top (y := iZ 0) rfl ?_
    refine VB_iload (q := 820) dL_law_818 10 rfl rfl ?_
    refine VB_bipush (q := 822) dL_law_820 (by decide) rfl ?_
    refine VB_idiv (q := 823) (a := 0) (b := 31) dL_law_822 (by omega) (by decide) (by decide) rfl ?_
    refine VB_top (y := iZ 0) rfl ?_
    refine VB_sipush (q := 826) dL_law_823 (by decide) rfl ?_
    refine VB_irem (q := 827) (a := 0) (b := 256) dL_law_826 (by omega) (by decide) (by decide) rfl ?_
    refine VB_top (y := iZ 0) rfl ?_
    refine VB_callU (q := 830) dL_law_827 (u_areOutfits (a := a) (c := c) (S := S) (b := b) (d := d) (F := F) hI hg793) yv_L_areOutfits rfl gL_law_L_areOutfits xU_L rfl (Nat.le_of_ble_eq_true rfl) (by decide) ⟨by show _ ≤ 20000; omega, by show _ ≤ 130000; omega⟩ (fun x827 g827 hP827 hg827 => ?_)
    refine VB_lo (lo' := 123) (Nat.le_add_right _ _) ?_
    refine VB_uif_eq (q := 833) (tgt := 968) dL_law_830 (by decide) ?_ ?_
    · skip
      exact VB_widen (by omega) (by omega) (J968 g827 hg827)
    · skip
      refine VB_aload_n (q := 834) dL_law_833 1 rfl rfl ?_
      refine VB_aload_n (q := 835) dL_law_834 2 rfl rfl ?_
      refine VB_aload_n (q := 836) dL_law_835 3 rfl rfl ?_
      refine VB_aload (q := 838) dL_law_836 4 rfl rfl ?_
      refine VB_aload (q := 840) dL_law_838 6 rfl rfl ?_
      refine VB_callU (q := 843) dL_law_840 (u_isMissing (a := a) (c := c) (S := S) (b := b) (d := d) (F := F) hI hg827) yv_L_isMissing rfl gL_law_L_isMissing xU_L rfl (Nat.le_of_ble_eq_true rfl) (by decide) ⟨by show _ ≤ 20000; omega, by show _ ≤ 130000; omega⟩ (fun x840 g840 hP840 hg840 => ?_)
      refine VB_lo (lo' := 123) (Nat.le_add_right _ _) ?_
      refine VB_uif_eq (q := 846) (tgt := 968) dL_law_843 (by decide) ?_ ?_
      · skip
        exact VB_widen (by omega) (by omega) (J968 g840 hg840)
      · skip
        refine VB_aload_n (q := 847) dL_law_846 1 rfl rfl ?_
        refine VB_aload_n (q := 848) dL_law_847 2 rfl rfl ?_
        refine VB_aload (q := 850) dL_law_848 6 rfl rfl ?_
        refine VB_iload (q := 852) dL_law_850 10 rfl rfl ?_
        refine VB_aload (q := 854) dL_law_852 6 rfl rfl ?_
        refine VB_iconst (q := 855) dL_law_854 rfl ?_
        refine VB_iald (q := 856) (v := (iZ 4)) dL_law_855 13 12 rfl rfl (0) (by omega) (by omega) (by decide) (hM0) rfl ?_
        refine VB_iconst (q := 857) dL_law_856 rfl ?_
        refine VB_iadd (q := 858) dL_law_857 rfl ?_
        refine VB_top (y := iZ 5) rfl ?_
        refine VB_irem (q := 859) (a := 0) (b := 5) dL_law_858 (by omega) (by decide) (by decide) rfl ?_
        refine VB_top (y := iZ 0) rfl ?_
        refine VB_iload (q := 861) dL_law_859 10 rfl rfl ?_
        refine VB_bipush (q := 863) dL_law_861 (by decide) rfl ?_
        refine VB_idiv (q := 864) (a := 0) (b := 13) dL_law_863 (by omega) (by decide) (by decide) rfl ?_
        refine VB_top (y := iZ 0) rfl ?_
        refine VB_aload (q := 866) dL_law_864 6 rfl rfl ?_
        refine VB_iconst (q := 867) dL_law_866 rfl ?_
        refine VB_iald (q := 868) (v := (iZ 4)) dL_law_867 13 12 rfl rfl (0) (by omega) (by omega) (by decide) (hM0) rfl ?_
        refine VB_iconst (q := 869) dL_law_868 rfl ?_
        refine VB_iadd (q := 870) dL_law_869 rfl ?_
        refine VB_top (y := iZ 5) rfl ?_
        refine VB_irem (q := 871) (a := 0) (b := 5) dL_law_870 (by omega) (by decide) (by decide) rfl ?_
        refine VB_top (y := iZ 0) rfl ?_
        refine VB_iload (q := 873) dL_law_871 10 rfl rfl ?_
        refine VB_sipush (q := 876) dL_law_873 (by decide) rfl ?_
        refine VB_idiv (q := 877) (a := 0) (b := 169) dL_law_876 (by omega) (by decide) (by decide) rfl ?_
        refine VB_top (y := iZ 0) rfl ?_
        refine VB_aload (q := 879) dL_law_877 6 rfl rfl ?_
        refine VB_iconst (q := 880) dL_law_879 rfl ?_
        refine VB_iald (q := 881) (v := (iZ 4)) dL_law_880 13 12 rfl rfl (0) (by omega) (by omega) (by decide) (hM0) rfl ?_
        refine VB_iconst (q := 882) dL_law_881 rfl ?_
        refine VB_iadd (q := 883) dL_law_882 rfl ?_
        refine VB_top (y := iZ 6) rfl ?_
        refine VB_irem (q := 884) (a := 0) (b := 6) dL_law_883 (by omega) (by decide) (by decide) rfl ?_
        refine VB_top (y := iZ 0) rfl ?_
        refine VB_iconst (q := 885) dL_law_884 rfl ?_
        refine VB_isub (q := 886) dL_law_885 rfl ?_
        refine VB_top (y := iZ (-1)) rfl ?_
        refine VB_callU (q := 889) dL_law_886 (u_isWrong (a := a) (c := c) (S := S) (b := b) (d := d) (F := F) hI (wr0 hI (by decide) hK) hg840) yv_L_isWrong rfl gL_law_L_isWrong xU_L rfl (Nat.le_of_ble_eq_true rfl) (by decide) ⟨by show _ ≤ 20000; omega, by show _ ≤ 130000; omega⟩ (fun x886 g886 hP886 hg886 => ?_)
        refine VB_em (x := x886) (fun e886 => VB_lo (lo' := 123) (Nat.le_add_right _ _) (VB_top (y := iZ 0) e886 ?_)) (fun e886 => VB_lo (lo' := 125) (by show 125 ≤ 123 + (if x886 = 0 then 0 else 2); rw [if_neg e886]; omega) ?_)
        · skip
          refine VB_if_eq (q := 892) (tgt := 968) dL_law_889 (by decide) (by decide) (fun _ => ?_) (fun hc => absurd hc (by decide))
          exact VB_widen (by omega) (by omega) (J968 g886 hg886)
        · skip
          refine VB_uif_eq (q := 892) (tgt := 968) dL_law_889 (by decide) ?_ ?_
          · skip
            refine VB_lo (lo' := 123) (by omega) ?_
            exact VB_widen (by omega) (by omega) (J968 g886 hg886)
          · skip
            refine VB_iload (q := 894) dL_law_892 8 rfl rfl ?_
            refine VB_bipush (q := 896) dL_law_894 (by decide) rfl ?_
            refine VB_irem (q := 897) (a := 18) (b := 16) dL_law_896 (by omega) (by decide) (by decide) rfl ?_
            refine VB_top (y := iZ 2) rfl ?_
            refine VB_if_gt (q := 900) (tgt := 943) dL_law_897 (by decide) (by decide) (fun _ => ?_) (fun hc => absurd hc (by decide))
            refine VB_iload (q := 945) dL_law_943 8 rfl rfl ?_
            refine VB_bipush (q := 947) dL_law_945 (by decide) rfl ?_
            refine VB_irem (q := 948) (a := 18) (b := 20) dL_law_947 (by omega) (by decide) (by decide) rfl ?_
            refine VB_top (y := iZ 18) rfl ?_
            refine VB_if_gt (q := 951) (tgt := 964) dL_law_948 (by decide) (by decide) (fun _ => ?_) (fun hc => absurd hc (by decide))
            refine VB_iconst (q := 965) dL_law_964 rfl ?_
            refine VB_goto (tgt := 969) dL_law_965 (by decide) ?_
            refine VB_istore (q := 971) (lv' := [(0, _), (1, _), (2, _), (3, _), (4, _), (5, _), (6, _), (7, _), (8, _), (9, _), (10, _)]) dL_law_969 (by decide) rfl rfl ?_
            refine VB_iinc (q := 974) (y := 19) (lv' := [(0, _), (1, _), (2, _), (3, _), (4, _), (5, _), (6, _), (7, _), (8, _), (9, _), (10, _)]) dL_law_971 8 rfl (by omega) (by decide) rfl rfl ?_
            refine VB_goto (tgt := 64) dL_law_974 (by decide) ?_
            refine VB_loc (lv' := [(0, _), (1, _), (2, _), (3, _), (4, _), (5, _), (6, _), (7, _), (8, _)]) [0, 1, 2, 3, 4, 5, 6, 7, 8] rfl ?_
            refine VB_lo (lo' := 123) (by omega) ?_
            exact VB_widen (by omega) (by omega) (rd19 hL h16 hx S F g886 hI (fun _ => hK) hg886)
set_option maxRecDepth 100000 in
set_option maxHeartbeats 8000000 in
theorem rd18 {s0 L : Nat} {xs : Nat → Int32} {a : Nat → Nat} {c : Nat → ClassId} {b : Nat → Nat} {d : Nat → ClassId} (hL : L ≤ 260) (h16 : 80 ≤ L) (hx : ∀ j, j < 80 → xs j = 31) : ∀ (S : St) (F : Nat → Nat → Int32) (g : Nat → Nat), Iv S F 4 → (0 < 18 → sK S 0 = 0) → (∀ j, g j < 4096) → VB 123 RL cL_law 17 (some .boolean) wsL_law roomB (vXL s0 L xs) (tyl c d) (qF 123) (2402) (14412 + 1250) (wal a c S b d F g) 64 [(0, .ref (s0)), (1, .ref (a 0)), (2, .ref (b 0)), (3, .ref (b 1)), (4, .ref (b 2)), (5, .ref (b 3)), (6, .ref (b 4)), (7, .int (iZ 1)), (8, .int (iZ 18))] [] := by
  intro S F g hI hK hg
  obtain ⟨ho, hn, hm4, hM0, hG, hC⟩ := id hI
  refine VB_iload (q := 66) dL_law_64 8 rfl rfl ?_
  refine VB_bipush (q := 68) dL_law_66 (by decide) rfl ?_
  refine VB_icmp_ge (q := 71) (tgt := 977) dL_law_68 (by decide) (by decide) (by decide) (fun hc => absurd hc (by decide)) (fun _ => ?_)
  refine VB_iload (q := 73) dL_law_71 7 rfl rfl ?_
  refine VB_if_eq (q := 76) (tgt := 977) dL_law_73 (by decide) (by decide) (fun hc => absurd hc (by decide)) (fun _ => ?_)
  refine VB_aload_n (q := 77) dL_law_76 0 rfl rfl ?_
  refine VB_iload (q := 79) dL_law_77 8 rfl rfl ?_
  refine VB_callD (q := 82) dL_law_79 (u_dice (b := s0) (L := L) (xs := xs) 18 (by omega) hL (hx 18 (by omega))) yv_L_dice rfl gL_law_L_dice xL_s rfl (Nat.le_of_ble_eq_true rfl) (by decide) ⟨by show _ ≤ 20000; omega, by show _ ≤ 130000; omega⟩ ?_
  refine VB_istore (q := 84) (lv' := [(0, _), (1, _), (2, _), (3, _), (4, _), (5, _), (6, _), (7, _), (8, _), (9, _)]) dL_law_82 (by decide) rfl rfl ?_
  refine VB_iload (q := 86) dL_law_84 9 rfl rfl ?_
  refine VB_bipush (q := 88) dL_law_86 (by decide) rfl ?_
  refine VB_idiv (q := 89) (a := 31) (b := 32) dL_law_88 (by omega) (by decide) (by decide) rfl ?_
  refine VB_top (y := iZ 0) rfl ?_
  refine VB_istore (q := 91) (lv' := [(0, _), (1, _), (2, _), (3, _), (4, _), (5, _), (6, _), (7, _), (8, _), (9, _), (10, _)]) dL_law_89 (by decide) rfl rfl ?_
  refine VB_iload (q := 93) dL_law_91 9 rfl rfl ?_
  refine VB_bipush (q := 95) dL_law_93 (by decide) rfl ?_
  refine VB_irem (q := 96) (a := 31) (b := 32) dL_law_95 (by omega) (by decide) (by decide) rfl ?_
  refine VB_top (y := iZ 31) rfl ?_
  refine VB_istore (q := 98) (lv' := [(0, _), (1, _), (2, _), (3, _), (4, _), (5, _), (6, _), (7, _), (8, _), (9, _), (10, _), (11, _)]) dL_law_96 (by decide) rfl rfl ?_
  refine VB_aload (q := 100) dL_law_98 6 rfl rfl ?_
  refine VB_iconst (q := 101) dL_law_100 rfl ?_
  refine VB_iald (q := 102) (v := (iZ 4)) dL_law_101 13 12 rfl rfl (0) (by omega) (by omega) (by decide) (hM0) rfl ?_
  refine VB_if_ne (q := 105) (tgt := 109) dL_law_102 (by decide) (by decide) (fun _ => ?_) (fun hc => absurd hc (by decide))
  refine VB_iload (q := 111) dL_law_109 10 rfl rfl ?_
  refine VB_aload (q := 113) dL_law_111 6 rfl rfl ?_
  refine VB_iconst (q := 114) dL_law_113 rfl ?_
  refine VB_iald (q := 115) (v := (iZ 4)) dL_law_114 13 12 rfl rfl (0) (by omega) (by omega) (by decide) (hM0) rfl ?_
  refine VB_irem (q := 116) (a := 0) (b := 4) dL_law_115 (by omega) (by decide) (by decide) rfl ?_
  refine VB_top (y := iZ 0) rfl ?_
  refine VB_istore (q := 118) (lv' := [(0, _), (1, _), (2, _), (3, _), (4, _), (5, _), (6, _), (7, _), (8, _), (9, _), (10, _), (11, _), (12, _)]) dL_law_116 (by decide) rfl rfl ?_
  refine VB_aload (q := 120) dL_law_118 6 rfl rfl ?_
  refine VB_iconst (q := 121) dL_law_120 rfl ?_
  refine VB_iald (q := 122) (v := (iZ 4)) dL_law_121 13 12 rfl rfl (0) (by omega) (by omega) (by decide) (hM0) rfl ?_
  refine VB_iconst (q := 123) dL_law_122 rfl ?_
  refine VB_icmp_lt (q := 126) (tgt := 141) dL_law_123 (by decide) (by decide) (by decide) (fun hc => absurd hc (by decide)) (fun _ => ?_)
  refine VB_iload (q := 128) dL_law_126 11 rfl rfl ?_
  refine VB_iconst (q := 129) dL_law_128 rfl ?_
  refine VB_icmp_ge (q := 132) (tgt := 326) dL_law_129 (by decide) (by decide) (by decide) (fun _ => ?_) (fun hc => absurd hc (by decide))
  refine VB_iload (q := 328) dL_law_326 11 rfl rfl ?_
  refine VB_bipush (q := 330) dL_law_328 (by decide) rfl ?_
  refine VB_icmp_ge (q := 333) (tgt := 451) dL_law_330 (by decide) (by decide) (by decide) (fun _ => ?_) (fun hc => absurd hc (by decide))
  refine VB_iload (q := 453) dL_law_451 11 rfl rfl ?_
  refine VB_bipush (q := 455) dL_law_453 (by decide) rfl ?_
  refine VB_icmp_ge (q := 458) (tgt := 603) dL_law_455 (by decide) (by decide) (by decide) (fun _ => ?_) (fun hc => absurd hc (by decide))
  refine VB_iload (q := 605) dL_law_603 11 rfl rfl ?_
  refine VB_bipush (q := 607) dL_law_605 (by decide) rfl ?_
  refine VB_icmp_ge (q := 610) (tgt := 633) dL_law_607 (by decide) (by decide) (by decide) (fun _ => ?_) (fun hc => absurd hc (by decide))
  refine VB_iload (q := 635) dL_law_633 11 rfl rfl ?_
  refine VB_bipush (q := 637) dL_law_635 (by decide) rfl ?_
  refine VB_icmp_ge (q := 640) (tgt := 677) dL_law_637 (by decide) (by decide) (by decide) (fun _ => ?_) (fun hc => absurd hc (by decide))
  refine VB_iload (q := 679) dL_law_677 11 rfl rfl ?_
  refine VB_bipush (q := 681) dL_law_679 (by decide) rfl ?_
  refine VB_icmp_ne (q := 684) (tgt := 783) dL_law_681 (by decide) (by decide) (by decide) (fun _ => ?_) (fun hc => absurd hc (by decide))
  refine VB_loc (lv' := [(0, _), (1, _), (2, _), (3, _), (4, _), (5, _), (6, _), (7, _), (8, _), (9, _), (10, _)]) [0, 1, 2, 3, 4, 5, 6, 7, 8, 9, 10] rfl ?_
  exact VB_widen (by omega) (by omega) (ck18 hL h16 hx S F g hI (hK (by decide)) hg)
set_option maxRecDepth 100000 in
set_option maxHeartbeats 8000000 in
theorem ck17 {s0 L : Nat} {xs : Nat → Int32} {a : Nat → Nat} {c : Nat → ClassId} {b : Nat → Nat} {d : Nat → ClassId} (hL : L ≤ 260) (h16 : 80 ≤ L) (hx : ∀ j, j < 80 → xs j = 31) : ∀ (S : St) (F : Nat → Nat → Int32) (g : Nat → Nat), Iv S F 4 → sK S 0 = 0 → (∀ j, g j < 4096) → VB 123 RL cL_law 17 (some .boolean) wsL_law roomB (vXL s0 L xs) (tyl c d) (qF 123) (2382) (14292 + 1250) (wal a c S b d F g) 783 [(0, .ref (s0)), (1, .ref (a 0)), (2, .ref (b 0)), (3, .ref (b 1)), (4, .ref (b 2)), (5, .ref (b 3)), (6, .ref (b 4)), (7, .int (iZ 1)), (8, .int (iZ 17)), (9, .int (iZ 31)), (10, .int (iZ 0))] [] := by
  intro S F g hI hK hg
  obtain ⟨ho, hn, hm4, hM0, hG, hC⟩ := id hI
  refine VB_iload (q := 785) dL_law_783 7 rfl rfl ?_
  refine VB_if_eq (q := 788) (tgt := 968) dL_law_785 (by decide) (by decide) (fun hc => absurd hc (by decide)) (fun _ => ?_)
  refine VB_aload_n (q := 789) dL_law_788 1 rfl rfl ?_
  refine VB_aload_n (q := 790) dL_law_789 2 rfl rfl ?_
  refine VB_aload_n (q := 791) dL_law_790 3 rfl rfl ?_
  refine VB_aload (q := 793) dL_law_791 6 rfl rfl ?_
  refine VB_callU (q := 796) dL_law_793 (u_areThings (a := a) (c := c) (S := S) (b := b) (d := d) (F := F) hI hg) yv_L_areThings rfl gL_law_L_areThings xU_L rfl (Nat.le_of_ble_eq_true rfl) (by decide) ⟨by show _ ≤ 20000; omega, by show _ ≤ 130000; omega⟩ (fun x793 g793 hP793 hg793 => ?_)
  refine VB_lo (lo' := 123) (Nat.le_add_right _ _) ?_
  have J968 : ∀ (gj968 : Nat → Nat), (∀ j, gj968 j < 4096) → VB 123 RL cL_law 17 (some .boolean) wsL_law roomB (vXL s0 L xs) (tyl c d) (qF 123) (2402) (14412 + 1250) (wal a c S b d F gj968) 968 [(0, .ref (s0)), (1, .ref (a 0)), (2, .ref (b 0)), (3, .ref (b 1)), (4, .ref (b 2)), (5, .ref (b 3)), (6, .ref (b 4)), (7, .int (iZ 1)), (8, .int (iZ 17)), (9, .int (iZ 31)), (10, .int (iZ 0))] [] := by
    intro gj968 hgj968
    refine VB_iconst (q := 969) dL_law_968 rfl ?_
    refine VB_istore (q := 971) (lv' := [(0, _), (1, _), (2, _), (3, _), (4, _), (5, _), (6, _), (7, _), (8, _), (9, _), (10, _)]) dL_law_969 (by decide) rfl rfl ?_
    refine VB_iinc (q := 974) (y := 18) (lv' := [(0, _), (1, _), (2, _), (3, _), (4, _), (5, _), (6, _), (7, _), (8, _), (9, _), (10, _)]) dL_law_971 8 rfl (by omega) (by decide) rfl rfl ?_
    refine VB_goto (tgt := 64) dL_law_974 (by decide) ?_
    refine VB_iload (q := 66) dL_law_64 8 rfl rfl ?_
    refine VB_bipush (q := 68) dL_law_66 (by decide) rfl ?_
    refine VB_icmp_ge (q := 71) (tgt := 977) dL_law_68 (by decide) (by decide) (by decide) (fun hc => absurd hc (by decide)) (fun _ => ?_)
    refine VB_iload (q := 73) dL_law_71 7 rfl rfl ?_
    refine VB_if_eq (q := 76) (tgt := 977) dL_law_73 (by decide) (by decide) (fun _ => ?_) (fun hc => absurd hc (by decide))
    refine VB_iload (q := 979) dL_law_977 7 rfl rfl ?_
    exact VB_ret0 dL_law_979 rfl
  refine VB_uif_eq (q := 799) (tgt := 968) dL_law_796 (by decide) ?_ ?_
  · skip
    exact VB_widen (by omega) (by omega) (J968 g793 hg793)
  · skip
    refine VB_iload (q := 801) dL_law_799 8 rfl rfl ?_
    refine VB_iconst (q := 802) dL_law_801 rfl ?_
    refine VB_irem (q := 803) (a := 17) (b := 2) dL_law_802 (by omega) (by decide) (by decide) rfl ?_
    refine VB_top (y := iZ 1) rfl ?_
    refine VB_if_gt (q := 806) (tgt := 833) dL_law_803 (by decide) (by decide) (fun _ => ?_) (fun hc => absurd hc (by decide))
    refine VB_aload_n (q := 834) dL_law_833 1 rfl rfl ?_
    refine VB_aload_n (q := 835) dL_law_834 2 rfl rfl ?_
    refine VB_aload_n (q := 836) dL_law_835 3 rfl rfl ?_
    refine VB_aload (q := 838) dL_law_836 4 rfl rfl ?_
    refine VB_aload (q := 840) dL_law_838 6 rfl rfl ?_
    refine VB_callU (q := 843) dL_law_840 (u_isMissing (a := a) (c := c) (S := S) (b := b) (d := d) (F := F) hI hg793) yv_L_isMissing rfl gL_law_L_isMissing xU_L rfl (Nat.le_of_ble_eq_true rfl) (by decide) ⟨by show _ ≤ 20000; omega, by show _ ≤ 130000; omega⟩ (fun x840 g840 hP840 hg840 => ?_)
    refine VB_lo (lo' := 123) (Nat.le_add_right _ _) ?_
    refine VB_uif_eq (q := 846) (tgt := 968) dL_law_843 (by decide) ?_ ?_
    · skip
      exact VB_widen (by omega) (by omega) (J968 g840 hg840)
    · skip
      refine VB_aload_n (q := 847) dL_law_846 1 rfl rfl ?_
      refine VB_aload_n (q := 848) dL_law_847 2 rfl rfl ?_
      refine VB_aload (q := 850) dL_law_848 6 rfl rfl ?_
      refine VB_iload (q := 852) dL_law_850 10 rfl rfl ?_
      refine VB_aload (q := 854) dL_law_852 6 rfl rfl ?_
      refine VB_iconst (q := 855) dL_law_854 rfl ?_
      refine VB_iald (q := 856) (v := (iZ 4)) dL_law_855 13 12 rfl rfl (0) (by omega) (by omega) (by decide) (hM0) rfl ?_
      refine VB_iconst (q := 857) dL_law_856 rfl ?_
      refine VB_iadd (q := 858) dL_law_857 rfl ?_
      refine VB_top (y := iZ 5) rfl ?_
      refine VB_irem (q := 859) (a := 0) (b := 5) dL_law_858 (by omega) (by decide) (by decide) rfl ?_
      refine VB_top (y := iZ 0) rfl ?_
      refine VB_iload (q := 861) dL_law_859 10 rfl rfl ?_
      refine VB_bipush (q := 863) dL_law_861 (by decide) rfl ?_
      refine VB_idiv (q := 864) (a := 0) (b := 13) dL_law_863 (by omega) (by decide) (by decide) rfl ?_
      refine VB_top (y := iZ 0) rfl ?_
      refine VB_aload (q := 866) dL_law_864 6 rfl rfl ?_
      refine VB_iconst (q := 867) dL_law_866 rfl ?_
      refine VB_iald (q := 868) (v := (iZ 4)) dL_law_867 13 12 rfl rfl (0) (by omega) (by omega) (by decide) (hM0) rfl ?_
      refine VB_iconst (q := 869) dL_law_868 rfl ?_
      refine VB_iadd (q := 870) dL_law_869 rfl ?_
      refine VB_top (y := iZ 5) rfl ?_
      refine VB_irem (q := 871) (a := 0) (b := 5) dL_law_870 (by omega) (by decide) (by decide) rfl ?_
      refine VB_top (y := iZ 0) rfl ?_
      refine VB_iload (q := 873) dL_law_871 10 rfl rfl ?_
      refine VB_sipush (q := 876) dL_law_873 (by decide) rfl ?_
      refine VB_idiv (q := 877) (a := 0) (b := 169) dL_law_876 (by omega) (by decide) (by decide) rfl ?_
      refine VB_top (y := iZ 0) rfl ?_
      refine VB_aload (q := 879) dL_law_877 6 rfl rfl ?_
      refine VB_iconst (q := 880) dL_law_879 rfl ?_
      refine VB_iald (q := 881) (v := (iZ 4)) dL_law_880 13 12 rfl rfl (0) (by omega) (by omega) (by decide) (hM0) rfl ?_
      refine VB_iconst (q := 882) dL_law_881 rfl ?_
      refine VB_iadd (q := 883) dL_law_882 rfl ?_
      refine VB_top (y := iZ 6) rfl ?_
      refine VB_irem (q := 884) (a := 0) (b := 6) dL_law_883 (by omega) (by decide) (by decide) rfl ?_
      refine VB_top (y := iZ 0) rfl ?_
      refine VB_iconst (q := 885) dL_law_884 rfl ?_
      refine VB_isub (q := 886) dL_law_885 rfl ?_
      refine VB_top (y := iZ (-1)) rfl ?_
      refine VB_callU (q := 889) dL_law_886 (u_isWrong (a := a) (c := c) (S := S) (b := b) (d := d) (F := F) hI (wr0 hI (by decide) hK) hg840) yv_L_isWrong rfl gL_law_L_isWrong xU_L rfl (Nat.le_of_ble_eq_true rfl) (by decide) ⟨by show _ ≤ 20000; omega, by show _ ≤ 130000; omega⟩ (fun x886 g886 hP886 hg886 => ?_)
      refine VB_em (x := x886) (fun e886 => VB_lo (lo' := 123) (Nat.le_add_right _ _) (VB_top (y := iZ 0) e886 ?_)) (fun e886 => VB_lo (lo' := 125) (by show 125 ≤ 123 + (if x886 = 0 then 0 else 2); rw [if_neg e886]; omega) ?_)
      · skip
        refine VB_if_eq (q := 892) (tgt := 968) dL_law_889 (by decide) (by decide) (fun _ => ?_) (fun hc => absurd hc (by decide))
        exact VB_widen (by omega) (by omega) (J968 g886 hg886)
      · skip
        refine VB_uif_eq (q := 892) (tgt := 968) dL_law_889 (by decide) ?_ ?_
        · skip
          refine VB_lo (lo' := 123) (by omega) ?_
          exact VB_widen (by omega) (by omega) (J968 g886 hg886)
        · skip
          refine VB_iload (q := 894) dL_law_892 8 rfl rfl ?_
          refine VB_bipush (q := 896) dL_law_894 (by decide) rfl ?_
          refine VB_irem (q := 897) (a := 17) (b := 16) dL_law_896 (by omega) (by decide) (by decide) rfl ?_
          refine VB_top (y := iZ 1) rfl ?_
          refine VB_if_gt (q := 900) (tgt := 943) dL_law_897 (by decide) (by decide) (fun _ => ?_) (fun hc => absurd hc (by decide))
          refine VB_iload (q := 945) dL_law_943 8 rfl rfl ?_
          refine VB_bipush (q := 947) dL_law_945 (by decide) rfl ?_
          refine VB_irem (q := 948) (a := 17) (b := 20) dL_law_947 (by omega) (by decide) (by decide) rfl ?_
          refine VB_top (y := iZ 17) rfl ?_
          refine VB_if_gt (q := 951) (tgt := 964) dL_law_948 (by decide) (by decide) (fun _ => ?_) (fun hc => absurd hc (by decide))
          refine VB_iconst (q := 965) dL_law_964 rfl ?_
          refine VB_goto (tgt := 969) dL_law_965 (by decide) ?_
          refine VB_istore (q := 971) (lv' := [(0, _), (1, _), (2, _), (3, _), (4, _), (5, _), (6, _), (7, _), (8, _), (9, _), (10, _)]) dL_law_969 (by decide) rfl rfl ?_
          refine VB_iinc (q := 974) (y := 18) (lv' := [(0, _), (1, _), (2, _), (3, _), (4, _), (5, _), (6, _), (7, _), (8, _), (9, _), (10, _)]) dL_law_971 8 rfl (by omega) (by decide) rfl rfl ?_
          refine VB_goto (tgt := 64) dL_law_974 (by decide) ?_
          refine VB_loc (lv' := [(0, _), (1, _), (2, _), (3, _), (4, _), (5, _), (6, _), (7, _), (8, _)]) [0, 1, 2, 3, 4, 5, 6, 7, 8] rfl ?_
          refine VB_lo (lo' := 123) (by omega) ?_
          exact VB_widen (by omega) (by omega) (rd18 hL h16 hx S F g886 hI (fun _ => hK) hg886)
set_option maxRecDepth 100000 in
set_option maxHeartbeats 8000000 in
theorem rd17 {s0 L : Nat} {xs : Nat → Int32} {a : Nat → Nat} {c : Nat → ClassId} {b : Nat → Nat} {d : Nat → ClassId} (hL : L ≤ 260) (h16 : 80 ≤ L) (hx : ∀ j, j < 80 → xs j = 31) : ∀ (S : St) (F : Nat → Nat → Int32) (g : Nat → Nat), Iv S F 4 → (0 < 17 → sK S 0 = 0) → (∀ j, g j < 4096) → VB 123 RL cL_law 17 (some .boolean) wsL_law roomB (vXL s0 L xs) (tyl c d) (qF 123) (2382) (14292 + 1250) (wal a c S b d F g) 64 [(0, .ref (s0)), (1, .ref (a 0)), (2, .ref (b 0)), (3, .ref (b 1)), (4, .ref (b 2)), (5, .ref (b 3)), (6, .ref (b 4)), (7, .int (iZ 1)), (8, .int (iZ 17))] [] := by
  intro S F g hI hK hg
  obtain ⟨ho, hn, hm4, hM0, hG, hC⟩ := id hI
  refine VB_iload (q := 66) dL_law_64 8 rfl rfl ?_
  refine VB_bipush (q := 68) dL_law_66 (by decide) rfl ?_
  refine VB_icmp_ge (q := 71) (tgt := 977) dL_law_68 (by decide) (by decide) (by decide) (fun hc => absurd hc (by decide)) (fun _ => ?_)
  refine VB_iload (q := 73) dL_law_71 7 rfl rfl ?_
  refine VB_if_eq (q := 76) (tgt := 977) dL_law_73 (by decide) (by decide) (fun hc => absurd hc (by decide)) (fun _ => ?_)
  refine VB_aload_n (q := 77) dL_law_76 0 rfl rfl ?_
  refine VB_iload (q := 79) dL_law_77 8 rfl rfl ?_
  refine VB_callD (q := 82) dL_law_79 (u_dice (b := s0) (L := L) (xs := xs) 17 (by omega) hL (hx 17 (by omega))) yv_L_dice rfl gL_law_L_dice xL_s rfl (Nat.le_of_ble_eq_true rfl) (by decide) ⟨by show _ ≤ 20000; omega, by show _ ≤ 130000; omega⟩ ?_
  refine VB_istore (q := 84) (lv' := [(0, _), (1, _), (2, _), (3, _), (4, _), (5, _), (6, _), (7, _), (8, _), (9, _)]) dL_law_82 (by decide) rfl rfl ?_
  refine VB_iload (q := 86) dL_law_84 9 rfl rfl ?_
  refine VB_bipush (q := 88) dL_law_86 (by decide) rfl ?_
  refine VB_idiv (q := 89) (a := 31) (b := 32) dL_law_88 (by omega) (by decide) (by decide) rfl ?_
  refine VB_top (y := iZ 0) rfl ?_
  refine VB_istore (q := 91) (lv' := [(0, _), (1, _), (2, _), (3, _), (4, _), (5, _), (6, _), (7, _), (8, _), (9, _), (10, _)]) dL_law_89 (by decide) rfl rfl ?_
  refine VB_iload (q := 93) dL_law_91 9 rfl rfl ?_
  refine VB_bipush (q := 95) dL_law_93 (by decide) rfl ?_
  refine VB_irem (q := 96) (a := 31) (b := 32) dL_law_95 (by omega) (by decide) (by decide) rfl ?_
  refine VB_top (y := iZ 31) rfl ?_
  refine VB_istore (q := 98) (lv' := [(0, _), (1, _), (2, _), (3, _), (4, _), (5, _), (6, _), (7, _), (8, _), (9, _), (10, _), (11, _)]) dL_law_96 (by decide) rfl rfl ?_
  refine VB_aload (q := 100) dL_law_98 6 rfl rfl ?_
  refine VB_iconst (q := 101) dL_law_100 rfl ?_
  refine VB_iald (q := 102) (v := (iZ 4)) dL_law_101 13 12 rfl rfl (0) (by omega) (by omega) (by decide) (hM0) rfl ?_
  refine VB_if_ne (q := 105) (tgt := 109) dL_law_102 (by decide) (by decide) (fun _ => ?_) (fun hc => absurd hc (by decide))
  refine VB_iload (q := 111) dL_law_109 10 rfl rfl ?_
  refine VB_aload (q := 113) dL_law_111 6 rfl rfl ?_
  refine VB_iconst (q := 114) dL_law_113 rfl ?_
  refine VB_iald (q := 115) (v := (iZ 4)) dL_law_114 13 12 rfl rfl (0) (by omega) (by omega) (by decide) (hM0) rfl ?_
  refine VB_irem (q := 116) (a := 0) (b := 4) dL_law_115 (by omega) (by decide) (by decide) rfl ?_
  refine VB_top (y := iZ 0) rfl ?_
  refine VB_istore (q := 118) (lv' := [(0, _), (1, _), (2, _), (3, _), (4, _), (5, _), (6, _), (7, _), (8, _), (9, _), (10, _), (11, _), (12, _)]) dL_law_116 (by decide) rfl rfl ?_
  refine VB_aload (q := 120) dL_law_118 6 rfl rfl ?_
  refine VB_iconst (q := 121) dL_law_120 rfl ?_
  refine VB_iald (q := 122) (v := (iZ 4)) dL_law_121 13 12 rfl rfl (0) (by omega) (by omega) (by decide) (hM0) rfl ?_
  refine VB_iconst (q := 123) dL_law_122 rfl ?_
  refine VB_icmp_lt (q := 126) (tgt := 141) dL_law_123 (by decide) (by decide) (by decide) (fun hc => absurd hc (by decide)) (fun _ => ?_)
  refine VB_iload (q := 128) dL_law_126 11 rfl rfl ?_
  refine VB_iconst (q := 129) dL_law_128 rfl ?_
  refine VB_icmp_ge (q := 132) (tgt := 326) dL_law_129 (by decide) (by decide) (by decide) (fun _ => ?_) (fun hc => absurd hc (by decide))
  refine VB_iload (q := 328) dL_law_326 11 rfl rfl ?_
  refine VB_bipush (q := 330) dL_law_328 (by decide) rfl ?_
  refine VB_icmp_ge (q := 333) (tgt := 451) dL_law_330 (by decide) (by decide) (by decide) (fun _ => ?_) (fun hc => absurd hc (by decide))
  refine VB_iload (q := 453) dL_law_451 11 rfl rfl ?_
  refine VB_bipush (q := 455) dL_law_453 (by decide) rfl ?_
  refine VB_icmp_ge (q := 458) (tgt := 603) dL_law_455 (by decide) (by decide) (by decide) (fun _ => ?_) (fun hc => absurd hc (by decide))
  refine VB_iload (q := 605) dL_law_603 11 rfl rfl ?_
  refine VB_bipush (q := 607) dL_law_605 (by decide) rfl ?_
  refine VB_icmp_ge (q := 610) (tgt := 633) dL_law_607 (by decide) (by decide) (by decide) (fun _ => ?_) (fun hc => absurd hc (by decide))
  refine VB_iload (q := 635) dL_law_633 11 rfl rfl ?_
  refine VB_bipush (q := 637) dL_law_635 (by decide) rfl ?_
  refine VB_icmp_ge (q := 640) (tgt := 677) dL_law_637 (by decide) (by decide) (by decide) (fun _ => ?_) (fun hc => absurd hc (by decide))
  refine VB_iload (q := 679) dL_law_677 11 rfl rfl ?_
  refine VB_bipush (q := 681) dL_law_679 (by decide) rfl ?_
  refine VB_icmp_ne (q := 684) (tgt := 783) dL_law_681 (by decide) (by decide) (by decide) (fun _ => ?_) (fun hc => absurd hc (by decide))
  refine VB_loc (lv' := [(0, _), (1, _), (2, _), (3, _), (4, _), (5, _), (6, _), (7, _), (8, _), (9, _), (10, _)]) [0, 1, 2, 3, 4, 5, 6, 7, 8, 9, 10] rfl ?_
  exact VB_widen (by omega) (by omega) (ck17 hL h16 hx S F g hI (hK (by decide)) hg)
set_option maxRecDepth 100000 in
set_option maxHeartbeats 8000000 in
theorem ck16 {s0 L : Nat} {xs : Nat → Int32} {a : Nat → Nat} {c : Nat → ClassId} {b : Nat → Nat} {d : Nat → ClassId} (hL : L ≤ 260) (h16 : 80 ≤ L) (hx : ∀ j, j < 80 → xs j = 31) : ∀ (S : St) (F : Nat → Nat → Int32) (g : Nat → Nat), Iv S F 4 → sK S 0 = 0 → (∀ j, g j < 4096) → VB 123 RL cL_law 17 (some .boolean) wsL_law roomB (vXL s0 L xs) (tyl c d) (qF 123) (2146) (12876 + 1250) (wal a c S b d F g) 783 [(0, .ref (s0)), (1, .ref (a 0)), (2, .ref (b 0)), (3, .ref (b 1)), (4, .ref (b 2)), (5, .ref (b 3)), (6, .ref (b 4)), (7, .int (iZ 1)), (8, .int (iZ 16)), (9, .int (iZ 31)), (10, .int (iZ 0))] [] := by
  intro S F g hI hK hg
  obtain ⟨ho, hn, hm4, hM0, hG, hC⟩ := id hI
  refine VB_iload (q := 785) dL_law_783 7 rfl rfl ?_
  refine VB_if_eq (q := 788) (tgt := 968) dL_law_785 (by decide) (by decide) (fun hc => absurd hc (by decide)) (fun _ => ?_)
  refine VB_aload_n (q := 789) dL_law_788 1 rfl rfl ?_
  refine VB_aload_n (q := 790) dL_law_789 2 rfl rfl ?_
  refine VB_aload_n (q := 791) dL_law_790 3 rfl rfl ?_
  refine VB_aload (q := 793) dL_law_791 6 rfl rfl ?_
  refine VB_callU (q := 796) dL_law_793 (u_areThings (a := a) (c := c) (S := S) (b := b) (d := d) (F := F) hI hg) yv_L_areThings rfl gL_law_L_areThings xU_L rfl (Nat.le_of_ble_eq_true rfl) (by decide) ⟨by show _ ≤ 20000; omega, by show _ ≤ 130000; omega⟩ (fun x793 g793 hP793 hg793 => ?_)
  refine VB_lo (lo' := 123) (Nat.le_add_right _ _) ?_
  have J968 : ∀ (gj968 : Nat → Nat), (∀ j, gj968 j < 4096) → VB 123 RL cL_law 17 (some .boolean) wsL_law roomB (vXL s0 L xs) (tyl c d) (qF 123) (2382) (14292 + 1250) (wal a c S b d F gj968) 968 [(0, .ref (s0)), (1, .ref (a 0)), (2, .ref (b 0)), (3, .ref (b 1)), (4, .ref (b 2)), (5, .ref (b 3)), (6, .ref (b 4)), (7, .int (iZ 1)), (8, .int (iZ 16)), (9, .int (iZ 31)), (10, .int (iZ 0))] [] := by
    intro gj968 hgj968
    refine VB_iconst (q := 969) dL_law_968 rfl ?_
    refine VB_istore (q := 971) (lv' := [(0, _), (1, _), (2, _), (3, _), (4, _), (5, _), (6, _), (7, _), (8, _), (9, _), (10, _)]) dL_law_969 (by decide) rfl rfl ?_
    refine VB_iinc (q := 974) (y := 17) (lv' := [(0, _), (1, _), (2, _), (3, _), (4, _), (5, _), (6, _), (7, _), (8, _), (9, _), (10, _)]) dL_law_971 8 rfl (by omega) (by decide) rfl rfl ?_
    refine VB_goto (tgt := 64) dL_law_974 (by decide) ?_
    refine VB_iload (q := 66) dL_law_64 8 rfl rfl ?_
    refine VB_bipush (q := 68) dL_law_66 (by decide) rfl ?_
    refine VB_icmp_ge (q := 71) (tgt := 977) dL_law_68 (by decide) (by decide) (by decide) (fun hc => absurd hc (by decide)) (fun _ => ?_)
    refine VB_iload (q := 73) dL_law_71 7 rfl rfl ?_
    refine VB_if_eq (q := 76) (tgt := 977) dL_law_73 (by decide) (by decide) (fun _ => ?_) (fun hc => absurd hc (by decide))
    refine VB_iload (q := 979) dL_law_977 7 rfl rfl ?_
    exact VB_ret0 dL_law_979 rfl
  refine VB_uif_eq (q := 799) (tgt := 968) dL_law_796 (by decide) ?_ ?_
  · skip
    exact VB_widen (by omega) (by omega) (J968 g793 hg793)
  · skip
    refine VB_iload (q := 801) dL_law_799 8 rfl rfl ?_
    refine VB_iconst (q := 802) dL_law_801 rfl ?_
    refine VB_irem (q := 803) (a := 16) (b := 2) dL_law_802 (by omega) (by decide) (by decide) rfl ?_
    refine VB_top (y := iZ 0) rfl ?_
    refine VB_if_gt (q := 806) (tgt := 833) dL_law_803 (by decide) (by decide) (fun hc => absurd hc (by decide)) (fun _ => ?_)
    refine VB_aload_n (q := 807) dL_law_806 1 rfl rfl ?_
    refine VB_aload_n (q := 808) dL_law_807 2 rfl rfl ?_
    refine VB_aload_n (q := 809) dL_law_808 3 rfl rfl ?_
    refine VB_aload (q := 811) dL_law_809 4 rfl rfl ?_
    refine VB_aload (q := 813) dL_law_811 6 rfl rfl ?_
    refine VB_iload (q := 815) dL_law_813 10 rfl rfl ?_
    refine VB_bipush (q := 817) dL_law_815 (by decide) rfl ?_
    refine VB_irem (q := 818) (a := 0) (b := 31) dL_law_817 (by omega) (by decide) (by decide) rfl ?_
    refine VB_top (y := iZ 0) rfl ?_
    refine VB_iload (q := 820) dL_law_818 10 rfl rfl ?_
    refine VB_bipush (q := 822) dL_law_820 (by decide) rfl ?_
    refine VB_idiv (q := 823) (a := 0) (b := 31) dL_law_822 (by omega) (by decide) (by decide) rfl ?_
    refine VB_top (y := iZ 0) rfl ?_
    refine VB_sipush (q := 826) dL_law_823 (by decide) rfl ?_
    refine VB_irem (q := 827) (a := 0) (b := 256) dL_law_826 (by omega) (by decide) (by decide) rfl ?_
    refine VB_top (y := iZ 0) rfl ?_
    refine VB_callU (q := 830) dL_law_827 (u_areOutfits (a := a) (c := c) (S := S) (b := b) (d := d) (F := F) hI hg793) yv_L_areOutfits rfl gL_law_L_areOutfits xU_L rfl (Nat.le_of_ble_eq_true rfl) (by decide) ⟨by show _ ≤ 20000; omega, by show _ ≤ 130000; omega⟩ (fun x827 g827 hP827 hg827 => ?_)
    refine VB_lo (lo' := 123) (Nat.le_add_right _ _) ?_
    refine VB_uif_eq (q := 833) (tgt := 968) dL_law_830 (by decide) ?_ ?_
    · skip
      exact VB_widen (by omega) (by omega) (J968 g827 hg827)
    · skip
      refine VB_aload_n (q := 834) dL_law_833 1 rfl rfl ?_
      refine VB_aload_n (q := 835) dL_law_834 2 rfl rfl ?_
      refine VB_aload_n (q := 836) dL_law_835 3 rfl rfl ?_
      refine VB_aload (q := 838) dL_law_836 4 rfl rfl ?_
      refine VB_aload (q := 840) dL_law_838 6 rfl rfl ?_
      refine VB_callU (q := 843) dL_law_840 (u_isMissing (a := a) (c := c) (S := S) (b := b) (d := d) (F := F) hI hg827) yv_L_isMissing rfl gL_law_L_isMissing xU_L rfl (Nat.le_of_ble_eq_true rfl) (by decide) ⟨by show _ ≤ 20000; omega, by show _ ≤ 130000; omega⟩ (fun x840 g840 hP840 hg840 => ?_)
      refine VB_lo (lo' := 123) (Nat.le_add_right _ _) ?_
      refine VB_uif_eq (q := 846) (tgt := 968) dL_law_843 (by decide) ?_ ?_
      · skip
        exact VB_widen (by omega) (by omega) (J968 g840 hg840)
      · skip
        refine VB_aload_n (q := 847) dL_law_846 1 rfl rfl ?_
        refine VB_aload_n (q := 848) dL_law_847 2 rfl rfl ?_
        refine VB_aload (q := 850) dL_law_848 6 rfl rfl ?_
        refine VB_iload (q := 852) dL_law_850 10 rfl rfl ?_
        refine VB_aload (q := 854) dL_law_852 6 rfl rfl ?_
        refine VB_iconst (q := 855) dL_law_854 rfl ?_
        refine VB_iald (q := 856) (v := (iZ 4)) dL_law_855 13 12 rfl rfl (0) (by omega) (by omega) (by decide) (hM0) rfl ?_
        refine VB_iconst (q := 857) dL_law_856 rfl ?_
        refine VB_iadd (q := 858) dL_law_857 rfl ?_
        refine VB_top (y := iZ 5) rfl ?_
        refine VB_irem (q := 859) (a := 0) (b := 5) dL_law_858 (by omega) (by decide) (by decide) rfl ?_
        refine VB_top (y := iZ 0) rfl ?_
        refine VB_iload (q := 861) dL_law_859 10 rfl rfl ?_
        refine VB_bipush (q := 863) dL_law_861 (by decide) rfl ?_
        refine VB_idiv (q := 864) (a := 0) (b := 13) dL_law_863 (by omega) (by decide) (by decide) rfl ?_
        refine VB_top (y := iZ 0) rfl ?_
        refine VB_aload (q := 866) dL_law_864 6 rfl rfl ?_
        refine VB_iconst (q := 867) dL_law_866 rfl ?_
        refine VB_iald (q := 868) (v := (iZ 4)) dL_law_867 13 12 rfl rfl (0) (by omega) (by omega) (by decide) (hM0) rfl ?_
        refine VB_iconst (q := 869) dL_law_868 rfl ?_
        refine VB_iadd (q := 870) dL_law_869 rfl ?_
        refine VB_top (y := iZ 5) rfl ?_
        refine VB_irem (q := 871) (a := 0) (b := 5) dL_law_870 (by omega) (by decide) (by decide) rfl ?_
        refine VB_top (y := iZ 0) rfl ?_
        refine VB_iload (q := 873) dL_law_871 10 rfl rfl ?_
        refine VB_sipush (q := 876) dL_law_873 (by decide) rfl ?_
        refine VB_idiv (q := 877) (a := 0) (b := 169) dL_law_876 (by omega) (by decide) (by decide) rfl ?_
        refine VB_top (y := iZ 0) rfl ?_
        refine VB_aload (q := 879) dL_law_877 6 rfl rfl ?_
        refine VB_iconst (q := 880) dL_law_879 rfl ?_
        refine VB_iald (q := 881) (v := (iZ 4)) dL_law_880 13 12 rfl rfl (0) (by omega) (by omega) (by decide) (hM0) rfl ?_
        refine VB_iconst (q := 882) dL_law_881 rfl ?_
        refine VB_iadd (q := 883) dL_law_882 rfl ?_
        refine VB_top (y := iZ 6) rfl ?_
        refine VB_irem (q := 884) (a := 0) (b := 6) dL_law_883 (by omega) (by decide) (by decide) rfl ?_
        refine VB_top (y := iZ 0) rfl ?_
        refine VB_iconst (q := 885) dL_law_884 rfl ?_
        refine VB_isub (q := 886) dL_law_885 rfl ?_
        refine VB_top (y := iZ (-1)) rfl ?_
        refine VB_callU (q := 889) dL_law_886 (u_isWrong (a := a) (c := c) (S := S) (b := b) (d := d) (F := F) hI (wr0 hI (by decide) hK) hg840) yv_L_isWrong rfl gL_law_L_isWrong xU_L rfl (Nat.le_of_ble_eq_true rfl) (by decide) ⟨by show _ ≤ 20000; omega, by show _ ≤ 130000; omega⟩ (fun x886 g886 hP886 hg886 => ?_)
        refine VB_em (x := x886) (fun e886 => VB_lo (lo' := 123) (Nat.le_add_right _ _) (VB_top (y := iZ 0) e886 ?_)) (fun e886 => VB_lo (lo' := 125) (by show 125 ≤ 123 + (if x886 = 0 then 0 else 2); rw [if_neg e886]; omega) ?_)
        · skip
          refine VB_if_eq (q := 892) (tgt := 968) dL_law_889 (by decide) (by decide) (fun _ => ?_) (fun hc => absurd hc (by decide))
          exact VB_widen (by omega) (by omega) (J968 g886 hg886)
        · skip
          refine VB_uif_eq (q := 892) (tgt := 968) dL_law_889 (by decide) ?_ ?_
          · skip
            refine VB_lo (lo' := 123) (by omega) ?_
            exact VB_widen (by omega) (by omega) (J968 g886 hg886)
          · skip
            refine VB_iload (q := 894) dL_law_892 8 rfl rfl ?_
            refine VB_bipush (q := 896) dL_law_894 (by decide) rfl ?_
            refine VB_irem (q := 897) (a := 16) (b := 16) dL_law_896 (by omega) (by decide) (by decide) rfl ?_
            refine VB_top (y := iZ 0) rfl ?_
            refine VB_if_gt (q := 900) (tgt := 943) dL_law_897 (by decide) (by decide) (fun hc => absurd hc (by decide)) (fun _ => ?_)
            refine VB_aload_n (q := 901) dL_law_900 1 rfl rfl ?_
            refine VB_aload_n (q := 902) dL_law_901 2 rfl rfl ?_
            refine VB_aload_n (q := 903) dL_law_902 3 rfl rfl ?_
            refine VB_aload (q := 905) dL_law_903 6 rfl rfl ?_
            refine VB_iload (q := 907) dL_law_905 10 rfl rfl ?_
            refine VB_bipush (q := 909) dL_law_907 (by decide) rfl ?_
            refine VB_idiv (q := 910) (a := 0) (b := 13) dL_law_909 (by omega) (by decide) (by decide) rfl ?_
            refine VB_top (y := iZ 0) rfl ?_
            refine VB_iconst (q := 911) dL_law_910 rfl ?_
            refine VB_iload (q := 913) dL_law_911 10 rfl rfl ?_
            refine VB_bipush (q := 915) dL_law_913 (by decide) rfl ?_
            refine VB_irem (q := 916) (a := 0) (b := 20) dL_law_915 (by omega) (by decide) (by decide) rfl ?_
            refine VB_top (y := iZ 0) rfl ?_
            refine VB_iadd (q := 917) dL_law_916 rfl ?_
            refine VB_top (y := iZ 1) rfl ?_
            refine VB_iload (q := 919) dL_law_917 10 rfl rfl ?_
            refine VB_bipush (q := 921) dL_law_919 (by decide) rfl ?_
            refine VB_idiv (q := 922) (a := 0) (b := 20) dL_law_921 (by omega) (by decide) (by decide) rfl ?_
            refine VB_top (y := iZ 0) rfl ?_
            refine VB_iload (q := 924) dL_law_922 10 rfl rfl ?_
            refine VB_iconst (q := 925) dL_law_924 rfl ?_
            refine VB_irem (q := 926) (a := 0) (b := 3) dL_law_925 (by omega) (by decide) (by decide) rfl ?_
            refine VB_top (y := iZ 0) rfl ?_
            refine VB_if_ne (q := 929) (tgt := 934) dL_law_926 (by decide) (by decide) (fun hc => absurd hc (by decide)) (fun _ => ?_)
            refine VB_bipush (q := 931) dL_law_929 (by decide) rfl ?_
            refine VB_goto (tgt := 936) dL_law_931 (by decide) ?_
            refine VB_irem (q := 937) (a := 0) (b := 21) dL_law_936 (by omega) (by decide) (by decide) rfl ?_
            refine VB_top (y := iZ 0) rfl ?_
            refine VB_callU (q := 940) dL_law_937 (u_isBag (a := a) (c := c) (S := S) (b := b) (d := d) (F := F) hI hg886) yv_L_isBag rfl gL_law_L_isBag xU_L rfl (Nat.le_of_ble_eq_true rfl) (by decide) ⟨by show _ ≤ 20000; omega, by show _ ≤ 130000; omega⟩ (fun x937 g937 hP937 hg937 => ?_)
            refine VB_lo (lo' := 125) (Nat.le_add_right _ _) ?_
            refine VB_uif_eq (q := 943) (tgt := 968) dL_law_940 (by decide) ?_ ?_
            · skip
              refine VB_lo (lo' := 123) (by omega) ?_
              exact VB_widen (by omega) (by omega) (J968 g937 hg937)
            · skip
              refine VB_iload (q := 945) dL_law_943 8 rfl rfl ?_
              refine VB_bipush (q := 947) dL_law_945 (by decide) rfl ?_
              refine VB_irem (q := 948) (a := 16) (b := 20) dL_law_947 (by omega) (by decide) (by decide) rfl ?_
              refine VB_top (y := iZ 16) rfl ?_
              refine VB_if_gt (q := 951) (tgt := 964) dL_law_948 (by decide) (by decide) (fun _ => ?_) (fun hc => absurd hc (by decide))
              refine VB_iconst (q := 965) dL_law_964 rfl ?_
              refine VB_goto (tgt := 969) dL_law_965 (by decide) ?_
              refine VB_istore (q := 971) (lv' := [(0, _), (1, _), (2, _), (3, _), (4, _), (5, _), (6, _), (7, _), (8, _), (9, _), (10, _)]) dL_law_969 (by decide) rfl rfl ?_
              refine VB_iinc (q := 974) (y := 17) (lv' := [(0, _), (1, _), (2, _), (3, _), (4, _), (5, _), (6, _), (7, _), (8, _), (9, _), (10, _)]) dL_law_971 8 rfl (by omega) (by decide) rfl rfl ?_
              refine VB_goto (tgt := 64) dL_law_974 (by decide) ?_
              refine VB_loc (lv' := [(0, _), (1, _), (2, _), (3, _), (4, _), (5, _), (6, _), (7, _), (8, _)]) [0, 1, 2, 3, 4, 5, 6, 7, 8] rfl ?_
              refine VB_lo (lo' := 123) (by omega) ?_
              exact VB_widen (by omega) (by omega) (rd17 hL h16 hx S F g937 hI (fun _ => hK) hg937)
set_option maxRecDepth 100000 in
set_option maxHeartbeats 8000000 in
theorem rd16 {s0 L : Nat} {xs : Nat → Int32} {a : Nat → Nat} {c : Nat → ClassId} {b : Nat → Nat} {d : Nat → ClassId} (hL : L ≤ 260) (h16 : 80 ≤ L) (hx : ∀ j, j < 80 → xs j = 31) : ∀ (S : St) (F : Nat → Nat → Int32) (g : Nat → Nat), Iv S F 4 → (0 < 16 → sK S 0 = 0) → (∀ j, g j < 4096) → VB 123 RL cL_law 17 (some .boolean) wsL_law roomB (vXL s0 L xs) (tyl c d) (qF 123) (2146) (12876 + 1250) (wal a c S b d F g) 64 [(0, .ref (s0)), (1, .ref (a 0)), (2, .ref (b 0)), (3, .ref (b 1)), (4, .ref (b 2)), (5, .ref (b 3)), (6, .ref (b 4)), (7, .int (iZ 1)), (8, .int (iZ 16))] [] := by
  intro S F g hI hK hg
  obtain ⟨ho, hn, hm4, hM0, hG, hC⟩ := id hI
  refine VB_iload (q := 66) dL_law_64 8 rfl rfl ?_
  refine VB_bipush (q := 68) dL_law_66 (by decide) rfl ?_
  refine VB_icmp_ge (q := 71) (tgt := 977) dL_law_68 (by decide) (by decide) (by decide) (fun hc => absurd hc (by decide)) (fun _ => ?_)
  refine VB_iload (q := 73) dL_law_71 7 rfl rfl ?_
  refine VB_if_eq (q := 76) (tgt := 977) dL_law_73 (by decide) (by decide) (fun hc => absurd hc (by decide)) (fun _ => ?_)
  refine VB_aload_n (q := 77) dL_law_76 0 rfl rfl ?_
  refine VB_iload (q := 79) dL_law_77 8 rfl rfl ?_
  refine VB_callD (q := 82) dL_law_79 (u_dice (b := s0) (L := L) (xs := xs) 16 (by omega) hL (hx 16 (by omega))) yv_L_dice rfl gL_law_L_dice xL_s rfl (Nat.le_of_ble_eq_true rfl) (by decide) ⟨by show _ ≤ 20000; omega, by show _ ≤ 130000; omega⟩ ?_
  refine VB_istore (q := 84) (lv' := [(0, _), (1, _), (2, _), (3, _), (4, _), (5, _), (6, _), (7, _), (8, _), (9, _)]) dL_law_82 (by decide) rfl rfl ?_
  refine VB_iload (q := 86) dL_law_84 9 rfl rfl ?_
  refine VB_bipush (q := 88) dL_law_86 (by decide) rfl ?_
  refine VB_idiv (q := 89) (a := 31) (b := 32) dL_law_88 (by omega) (by decide) (by decide) rfl ?_
  refine VB_top (y := iZ 0) rfl ?_
  refine VB_istore (q := 91) (lv' := [(0, _), (1, _), (2, _), (3, _), (4, _), (5, _), (6, _), (7, _), (8, _), (9, _), (10, _)]) dL_law_89 (by decide) rfl rfl ?_
  refine VB_iload (q := 93) dL_law_91 9 rfl rfl ?_
  refine VB_bipush (q := 95) dL_law_93 (by decide) rfl ?_
  refine VB_irem (q := 96) (a := 31) (b := 32) dL_law_95 (by omega) (by decide) (by decide) rfl ?_
  refine VB_top (y := iZ 31) rfl ?_
  refine VB_istore (q := 98) (lv' := [(0, _), (1, _), (2, _), (3, _), (4, _), (5, _), (6, _), (7, _), (8, _), (9, _), (10, _), (11, _)]) dL_law_96 (by decide) rfl rfl ?_
  refine VB_aload (q := 100) dL_law_98 6 rfl rfl ?_
  refine VB_iconst (q := 101) dL_law_100 rfl ?_
  refine VB_iald (q := 102) (v := (iZ 4)) dL_law_101 13 12 rfl rfl (0) (by omega) (by omega) (by decide) (hM0) rfl ?_
  refine VB_if_ne (q := 105) (tgt := 109) dL_law_102 (by decide) (by decide) (fun _ => ?_) (fun hc => absurd hc (by decide))
  refine VB_iload (q := 111) dL_law_109 10 rfl rfl ?_
  refine VB_aload (q := 113) dL_law_111 6 rfl rfl ?_
  refine VB_iconst (q := 114) dL_law_113 rfl ?_
  refine VB_iald (q := 115) (v := (iZ 4)) dL_law_114 13 12 rfl rfl (0) (by omega) (by omega) (by decide) (hM0) rfl ?_
  refine VB_irem (q := 116) (a := 0) (b := 4) dL_law_115 (by omega) (by decide) (by decide) rfl ?_
  refine VB_top (y := iZ 0) rfl ?_
  refine VB_istore (q := 118) (lv' := [(0, _), (1, _), (2, _), (3, _), (4, _), (5, _), (6, _), (7, _), (8, _), (9, _), (10, _), (11, _), (12, _)]) dL_law_116 (by decide) rfl rfl ?_
  refine VB_aload (q := 120) dL_law_118 6 rfl rfl ?_
  refine VB_iconst (q := 121) dL_law_120 rfl ?_
  refine VB_iald (q := 122) (v := (iZ 4)) dL_law_121 13 12 rfl rfl (0) (by omega) (by omega) (by decide) (hM0) rfl ?_
  refine VB_iconst (q := 123) dL_law_122 rfl ?_
  refine VB_icmp_lt (q := 126) (tgt := 141) dL_law_123 (by decide) (by decide) (by decide) (fun hc => absurd hc (by decide)) (fun _ => ?_)
  refine VB_iload (q := 128) dL_law_126 11 rfl rfl ?_
  refine VB_iconst (q := 129) dL_law_128 rfl ?_
  refine VB_icmp_ge (q := 132) (tgt := 326) dL_law_129 (by decide) (by decide) (by decide) (fun _ => ?_) (fun hc => absurd hc (by decide))
  refine VB_iload (q := 328) dL_law_326 11 rfl rfl ?_
  refine VB_bipush (q := 330) dL_law_328 (by decide) rfl ?_
  refine VB_icmp_ge (q := 333) (tgt := 451) dL_law_330 (by decide) (by decide) (by decide) (fun _ => ?_) (fun hc => absurd hc (by decide))
  refine VB_iload (q := 453) dL_law_451 11 rfl rfl ?_
  refine VB_bipush (q := 455) dL_law_453 (by decide) rfl ?_
  refine VB_icmp_ge (q := 458) (tgt := 603) dL_law_455 (by decide) (by decide) (by decide) (fun _ => ?_) (fun hc => absurd hc (by decide))
  refine VB_iload (q := 605) dL_law_603 11 rfl rfl ?_
  refine VB_bipush (q := 607) dL_law_605 (by decide) rfl ?_
  refine VB_icmp_ge (q := 610) (tgt := 633) dL_law_607 (by decide) (by decide) (by decide) (fun _ => ?_) (fun hc => absurd hc (by decide))
  refine VB_iload (q := 635) dL_law_633 11 rfl rfl ?_
  refine VB_bipush (q := 637) dL_law_635 (by decide) rfl ?_
  refine VB_icmp_ge (q := 640) (tgt := 677) dL_law_637 (by decide) (by decide) (by decide) (fun _ => ?_) (fun hc => absurd hc (by decide))
  refine VB_iload (q := 679) dL_law_677 11 rfl rfl ?_
  refine VB_bipush (q := 681) dL_law_679 (by decide) rfl ?_
  refine VB_icmp_ne (q := 684) (tgt := 783) dL_law_681 (by decide) (by decide) (by decide) (fun _ => ?_) (fun hc => absurd hc (by decide))
  refine VB_loc (lv' := [(0, _), (1, _), (2, _), (3, _), (4, _), (5, _), (6, _), (7, _), (8, _), (9, _), (10, _)]) [0, 1, 2, 3, 4, 5, 6, 7, 8, 9, 10] rfl ?_
  exact VB_widen (by omega) (by omega) (ck16 hL h16 hx S F g hI (hK (by decide)) hg)
set_option maxRecDepth 100000 in
set_option maxHeartbeats 8000000 in
theorem ck15 {s0 L : Nat} {xs : Nat → Int32} {a : Nat → Nat} {c : Nat → ClassId} {b : Nat → Nat} {d : Nat → ClassId} (hL : L ≤ 260) (h16 : 80 ≤ L) (hx : ∀ j, j < 80 → xs j = 31) : ∀ (S : St) (F : Nat → Nat → Int32) (g : Nat → Nat), Iv S F 4 → sK S 0 = 0 → (∀ j, g j < 4096) → VB 122 RL cL_law 17 (some .boolean) wsL_law roomB (vXL s0 L xs) (tyl c d) (qF 123) (2126) (12756 + 1250) (wal a c S b d F g) 783 [(0, .ref (s0)), (1, .ref (a 0)), (2, .ref (b 0)), (3, .ref (b 1)), (4, .ref (b 2)), (5, .ref (b 3)), (6, .ref (b 4)), (7, .int (iZ 1)), (8, .int (iZ 15)), (9, .int (iZ 31)), (10, .int (iZ 0))] [] := by
  intro S F g hI hK hg
  obtain ⟨ho, hn, hm4, hM0, hG, hC⟩ := id hI
  refine VB_iload (q := 785) dL_law_783 7 rfl rfl ?_
  refine VB_if_eq (q := 788) (tgt := 968) dL_law_785 (by decide) (by decide) (fun hc => absurd hc (by decide)) (fun _ => ?_)
  refine VB_aload_n (q := 789) dL_law_788 1 rfl rfl ?_
  refine VB_aload_n (q := 790) dL_law_789 2 rfl rfl ?_
  refine VB_aload_n (q := 791) dL_law_790 3 rfl rfl ?_
  refine VB_aload (q := 793) dL_law_791 6 rfl rfl ?_
  refine VB_callU (q := 796) dL_law_793 (u_areThings (a := a) (c := c) (S := S) (b := b) (d := d) (F := F) hI hg) yv_L_areThings rfl gL_law_L_areThings xU_L rfl (Nat.le_of_ble_eq_true rfl) (by decide) ⟨by show _ ≤ 20000; omega, by show _ ≤ 130000; omega⟩ (fun x793 g793 hP793 hg793 => ?_)
  refine VB_lo (lo' := 122) (Nat.le_add_right _ _) ?_
  have J968 : ∀ (gj968 : Nat → Nat), (∀ j, gj968 j < 4096) → VB 122 RL cL_law 17 (some .boolean) wsL_law roomB (vXL s0 L xs) (tyl c d) (qF 123) (2146) (12876 + 1250) (wal a c S b d F gj968) 968 [(0, .ref (s0)), (1, .ref (a 0)), (2, .ref (b 0)), (3, .ref (b 1)), (4, .ref (b 2)), (5, .ref (b 3)), (6, .ref (b 4)), (7, .int (iZ 1)), (8, .int (iZ 15)), (9, .int (iZ 31)), (10, .int (iZ 0))] [] := by
    intro gj968 hgj968
    refine VB_iconst (q := 969) dL_law_968 rfl ?_
    refine VB_istore (q := 971) (lv' := [(0, _), (1, _), (2, _), (3, _), (4, _), (5, _), (6, _), (7, _), (8, _), (9, _), (10, _)]) dL_law_969 (by decide) rfl rfl ?_
    refine VB_iinc (q := 974) (y := 16) (lv' := [(0, _), (1, _), (2, _), (3, _), (4, _), (5, _), (6, _), (7, _), (8, _), (9, _), (10, _)]) dL_law_971 8 rfl (by omega) (by decide) rfl rfl ?_
    refine VB_goto (tgt := 64) dL_law_974 (by decide) ?_
    refine VB_iload (q := 66) dL_law_64 8 rfl rfl ?_
    refine VB_bipush (q := 68) dL_law_66 (by decide) rfl ?_
    refine VB_icmp_ge (q := 71) (tgt := 977) dL_law_68 (by decide) (by decide) (by decide) (fun hc => absurd hc (by decide)) (fun _ => ?_)
    refine VB_iload (q := 73) dL_law_71 7 rfl rfl ?_
    refine VB_if_eq (q := 76) (tgt := 977) dL_law_73 (by decide) (by decide) (fun _ => ?_) (fun hc => absurd hc (by decide))
    refine VB_iload (q := 979) dL_law_977 7 rfl rfl ?_
    exact VB_ret0 dL_law_979 rfl
  refine VB_uif_eq (q := 799) (tgt := 968) dL_law_796 (by decide) ?_ ?_
  · skip
    exact VB_widen (by omega) (by omega) (J968 g793 hg793)
  · skip
    refine VB_iload (q := 801) dL_law_799 8 rfl rfl ?_
    refine VB_iconst (q := 802) dL_law_801 rfl ?_
    refine VB_irem (q := 803) (a := 15) (b := 2) dL_law_802 (by omega) (by decide) (by decide) rfl ?_
    refine VB_top (y := iZ 1) rfl ?_
    refine VB_if_gt (q := 806) (tgt := 833) dL_law_803 (by decide) (by decide) (fun _ => ?_) (fun hc => absurd hc (by decide))
    refine VB_aload_n (q := 834) dL_law_833 1 rfl rfl ?_
    refine VB_aload_n (q := 835) dL_law_834 2 rfl rfl ?_
    refine VB_aload_n (q := 836) dL_law_835 3 rfl rfl ?_
    refine VB_aload (q := 838) dL_law_836 4 rfl rfl ?_
    refine VB_aload (q := 840) dL_law_838 6 rfl rfl ?_
    refine VB_callU (q := 843) dL_law_840 (u_isMissing (a := a) (c := c) (S := S) (b := b) (d := d) (F := F) hI hg793) yv_L_isMissing rfl gL_law_L_isMissing xU_L rfl (Nat.le_of_ble_eq_true rfl) (by decide) ⟨by show _ ≤ 20000; omega, by show _ ≤ 130000; omega⟩ (fun x840 g840 hP840 hg840 => ?_)
    refine VB_lo (lo' := 122) (Nat.le_add_right _ _) ?_
    refine VB_uif_eq (q := 846) (tgt := 968) dL_law_843 (by decide) ?_ ?_
    · skip
      exact VB_widen (by omega) (by omega) (J968 g840 hg840)
    · skip
      refine VB_aload_n (q := 847) dL_law_846 1 rfl rfl ?_
      refine VB_aload_n (q := 848) dL_law_847 2 rfl rfl ?_
      refine VB_aload (q := 850) dL_law_848 6 rfl rfl ?_
      refine VB_iload (q := 852) dL_law_850 10 rfl rfl ?_
      refine VB_aload (q := 854) dL_law_852 6 rfl rfl ?_
      refine VB_iconst (q := 855) dL_law_854 rfl ?_
      refine VB_iald (q := 856) (v := (iZ 4)) dL_law_855 13 12 rfl rfl (0) (by omega) (by omega) (by decide) (hM0) rfl ?_
      refine VB_iconst (q := 857) dL_law_856 rfl ?_
      refine VB_iadd (q := 858) dL_law_857 rfl ?_
      refine VB_top (y := iZ 5) rfl ?_
      refine VB_irem (q := 859) (a := 0) (b := 5) dL_law_858 (by omega) (by decide) (by decide) rfl ?_
      refine VB_top (y := iZ 0) rfl ?_
      refine VB_iload (q := 861) dL_law_859 10 rfl rfl ?_
      refine VB_bipush (q := 863) dL_law_861 (by decide) rfl ?_
      refine VB_idiv (q := 864) (a := 0) (b := 13) dL_law_863 (by omega) (by decide) (by decide) rfl ?_
      refine VB_top (y := iZ 0) rfl ?_
      refine VB_aload (q := 866) dL_law_864 6 rfl rfl ?_
      refine VB_iconst (q := 867) dL_law_866 rfl ?_
      refine VB_iald (q := 868) (v := (iZ 4)) dL_law_867 13 12 rfl rfl (0) (by omega) (by omega) (by decide) (hM0) rfl ?_
      refine VB_iconst (q := 869) dL_law_868 rfl ?_
      refine VB_iadd (q := 870) dL_law_869 rfl ?_
      refine VB_top (y := iZ 5) rfl ?_
      refine VB_irem (q := 871) (a := 0) (b := 5) dL_law_870 (by omega) (by decide) (by decide) rfl ?_
      refine VB_top (y := iZ 0) rfl ?_
      refine VB_iload (q := 873) dL_law_871 10 rfl rfl ?_
      refine VB_sipush (q := 876) dL_law_873 (by decide) rfl ?_
      refine VB_idiv (q := 877) (a := 0) (b := 169) dL_law_876 (by omega) (by decide) (by decide) rfl ?_
      refine VB_top (y := iZ 0) rfl ?_
      refine VB_aload (q := 879) dL_law_877 6 rfl rfl ?_
      refine VB_iconst (q := 880) dL_law_879 rfl ?_
      refine VB_iald (q := 881) (v := (iZ 4)) dL_law_880 13 12 rfl rfl (0) (by omega) (by omega) (by decide) (hM0) rfl ?_
      refine VB_iconst (q := 882) dL_law_881 rfl ?_
      refine VB_iadd (q := 883) dL_law_882 rfl ?_
      refine VB_top (y := iZ 6) rfl ?_
      refine VB_irem (q := 884) (a := 0) (b := 6) dL_law_883 (by omega) (by decide) (by decide) rfl ?_
      refine VB_top (y := iZ 0) rfl ?_
      refine VB_iconst (q := 885) dL_law_884 rfl ?_
      refine VB_isub (q := 886) dL_law_885 rfl ?_
      refine VB_top (y := iZ (-1)) rfl ?_
      refine VB_callU (q := 889) dL_law_886 (u_isWrong (a := a) (c := c) (S := S) (b := b) (d := d) (F := F) hI (wr0 hI (by decide) hK) hg840) yv_L_isWrong rfl gL_law_L_isWrong xU_L rfl (Nat.le_of_ble_eq_true rfl) (by decide) ⟨by show _ ≤ 20000; omega, by show _ ≤ 130000; omega⟩ (fun x886 g886 hP886 hg886 => ?_)
      refine VB_em (x := x886) (fun e886 => VB_lo (lo' := 122) (Nat.le_add_right _ _) (VB_top (y := iZ 0) e886 ?_)) (fun e886 => VB_lo (lo' := 124) (by show 124 ≤ 122 + (if x886 = 0 then 0 else 2); rw [if_neg e886]; omega) ?_)
      · skip
        refine VB_if_eq (q := 892) (tgt := 968) dL_law_889 (by decide) (by decide) (fun _ => ?_) (fun hc => absurd hc (by decide))
        exact VB_widen (by omega) (by omega) (J968 g886 hg886)
      · skip
        refine VB_uif_eq (q := 892) (tgt := 968) dL_law_889 (by decide) ?_ ?_
        · skip
          refine VB_lo (lo' := 122) (by omega) ?_
          exact VB_widen (by omega) (by omega) (J968 g886 hg886)
        · skip
          refine VB_iload (q := 894) dL_law_892 8 rfl rfl ?_
          refine VB_bipush (q := 896) dL_law_894 (by decide) rfl ?_
          refine VB_irem (q := 897) (a := 15) (b := 16) dL_law_896 (by omega) (by decide) (by decide) rfl ?_
          refine VB_top (y := iZ 15) rfl ?_
          refine VB_if_gt (q := 900) (tgt := 943) dL_law_897 (by decide) (by decide) (fun _ => ?_) (fun hc => absurd hc (by decide))
          refine VB_iload (q := 945) dL_law_943 8 rfl rfl ?_
          refine VB_bipush (q := 947) dL_law_945 (by decide) rfl ?_
          refine VB_irem (q := 948) (a := 15) (b := 20) dL_law_947 (by omega) (by decide) (by decide) rfl ?_
          refine VB_top (y := iZ 15) rfl ?_
          refine VB_if_gt (q := 951) (tgt := 964) dL_law_948 (by decide) (by decide) (fun _ => ?_) (fun hc => absurd hc (by decide))
          refine VB_iconst (q := 965) dL_law_964 rfl ?_
          refine VB_goto (tgt := 969) dL_law_965 (by decide) ?_
          refine VB_istore (q := 971) (lv' := [(0, _), (1, _), (2, _), (3, _), (4, _), (5, _), (6, _), (7, _), (8, _), (9, _), (10, _)]) dL_law_969 (by decide) rfl rfl ?_
          refine VB_iinc (q := 974) (y := 16) (lv' := [(0, _), (1, _), (2, _), (3, _), (4, _), (5, _), (6, _), (7, _), (8, _), (9, _), (10, _)]) dL_law_971 8 rfl (by omega) (by decide) rfl rfl ?_
          refine VB_goto (tgt := 64) dL_law_974 (by decide) ?_
          refine VB_loc (lv' := [(0, _), (1, _), (2, _), (3, _), (4, _), (5, _), (6, _), (7, _), (8, _)]) [0, 1, 2, 3, 4, 5, 6, 7, 8] rfl ?_
          refine VB_lo (lo' := 123) (by omega) ?_
          exact VB_widen (by omega) (by omega) (rd16 hL h16 hx S F g886 hI (fun _ => hK) hg886)
set_option maxRecDepth 100000 in
set_option maxHeartbeats 8000000 in
theorem rd15 {s0 L : Nat} {xs : Nat → Int32} {a : Nat → Nat} {c : Nat → ClassId} {b : Nat → Nat} {d : Nat → ClassId} (hL : L ≤ 260) (h16 : 80 ≤ L) (hx : ∀ j, j < 80 → xs j = 31) : ∀ (S : St) (F : Nat → Nat → Int32) (g : Nat → Nat), Iv S F 4 → (0 < 15 → sK S 0 = 0) → (∀ j, g j < 4096) → VB 122 RL cL_law 17 (some .boolean) wsL_law roomB (vXL s0 L xs) (tyl c d) (qF 123) (2126) (12756 + 1250) (wal a c S b d F g) 64 [(0, .ref (s0)), (1, .ref (a 0)), (2, .ref (b 0)), (3, .ref (b 1)), (4, .ref (b 2)), (5, .ref (b 3)), (6, .ref (b 4)), (7, .int (iZ 1)), (8, .int (iZ 15))] [] := by
  intro S F g hI hK hg
  obtain ⟨ho, hn, hm4, hM0, hG, hC⟩ := id hI
  refine VB_iload (q := 66) dL_law_64 8 rfl rfl ?_
  refine VB_bipush (q := 68) dL_law_66 (by decide) rfl ?_
  refine VB_icmp_ge (q := 71) (tgt := 977) dL_law_68 (by decide) (by decide) (by decide) (fun hc => absurd hc (by decide)) (fun _ => ?_)
  refine VB_iload (q := 73) dL_law_71 7 rfl rfl ?_
  refine VB_if_eq (q := 76) (tgt := 977) dL_law_73 (by decide) (by decide) (fun hc => absurd hc (by decide)) (fun _ => ?_)
  refine VB_aload_n (q := 77) dL_law_76 0 rfl rfl ?_
  refine VB_iload (q := 79) dL_law_77 8 rfl rfl ?_
  refine VB_callD (q := 82) dL_law_79 (u_dice (b := s0) (L := L) (xs := xs) 15 (by omega) hL (hx 15 (by omega))) yv_L_dice rfl gL_law_L_dice xL_s rfl (Nat.le_of_ble_eq_true rfl) (by decide) ⟨by show _ ≤ 20000; omega, by show _ ≤ 130000; omega⟩ ?_
  refine VB_istore (q := 84) (lv' := [(0, _), (1, _), (2, _), (3, _), (4, _), (5, _), (6, _), (7, _), (8, _), (9, _)]) dL_law_82 (by decide) rfl rfl ?_
  refine VB_iload (q := 86) dL_law_84 9 rfl rfl ?_
  refine VB_bipush (q := 88) dL_law_86 (by decide) rfl ?_
  refine VB_idiv (q := 89) (a := 31) (b := 32) dL_law_88 (by omega) (by decide) (by decide) rfl ?_
  refine VB_top (y := iZ 0) rfl ?_
  refine VB_istore (q := 91) (lv' := [(0, _), (1, _), (2, _), (3, _), (4, _), (5, _), (6, _), (7, _), (8, _), (9, _), (10, _)]) dL_law_89 (by decide) rfl rfl ?_
  refine VB_iload (q := 93) dL_law_91 9 rfl rfl ?_
  refine VB_bipush (q := 95) dL_law_93 (by decide) rfl ?_
  refine VB_irem (q := 96) (a := 31) (b := 32) dL_law_95 (by omega) (by decide) (by decide) rfl ?_
  refine VB_top (y := iZ 31) rfl ?_
  refine VB_istore (q := 98) (lv' := [(0, _), (1, _), (2, _), (3, _), (4, _), (5, _), (6, _), (7, _), (8, _), (9, _), (10, _), (11, _)]) dL_law_96 (by decide) rfl rfl ?_
  refine VB_aload (q := 100) dL_law_98 6 rfl rfl ?_
  refine VB_iconst (q := 101) dL_law_100 rfl ?_
  refine VB_iald (q := 102) (v := (iZ 4)) dL_law_101 13 12 rfl rfl (0) (by omega) (by omega) (by decide) (hM0) rfl ?_
  refine VB_if_ne (q := 105) (tgt := 109) dL_law_102 (by decide) (by decide) (fun _ => ?_) (fun hc => absurd hc (by decide))
  refine VB_iload (q := 111) dL_law_109 10 rfl rfl ?_
  refine VB_aload (q := 113) dL_law_111 6 rfl rfl ?_
  refine VB_iconst (q := 114) dL_law_113 rfl ?_
  refine VB_iald (q := 115) (v := (iZ 4)) dL_law_114 13 12 rfl rfl (0) (by omega) (by omega) (by decide) (hM0) rfl ?_
  refine VB_irem (q := 116) (a := 0) (b := 4) dL_law_115 (by omega) (by decide) (by decide) rfl ?_
  refine VB_top (y := iZ 0) rfl ?_
  refine VB_istore (q := 118) (lv' := [(0, _), (1, _), (2, _), (3, _), (4, _), (5, _), (6, _), (7, _), (8, _), (9, _), (10, _), (11, _), (12, _)]) dL_law_116 (by decide) rfl rfl ?_
  refine VB_aload (q := 120) dL_law_118 6 rfl rfl ?_
  refine VB_iconst (q := 121) dL_law_120 rfl ?_
  refine VB_iald (q := 122) (v := (iZ 4)) dL_law_121 13 12 rfl rfl (0) (by omega) (by omega) (by decide) (hM0) rfl ?_
  refine VB_iconst (q := 123) dL_law_122 rfl ?_
  refine VB_icmp_lt (q := 126) (tgt := 141) dL_law_123 (by decide) (by decide) (by decide) (fun hc => absurd hc (by decide)) (fun _ => ?_)
  refine VB_iload (q := 128) dL_law_126 11 rfl rfl ?_
  refine VB_iconst (q := 129) dL_law_128 rfl ?_
  refine VB_icmp_ge (q := 132) (tgt := 326) dL_law_129 (by decide) (by decide) (by decide) (fun _ => ?_) (fun hc => absurd hc (by decide))
  refine VB_iload (q := 328) dL_law_326 11 rfl rfl ?_
  refine VB_bipush (q := 330) dL_law_328 (by decide) rfl ?_
  refine VB_icmp_ge (q := 333) (tgt := 451) dL_law_330 (by decide) (by decide) (by decide) (fun _ => ?_) (fun hc => absurd hc (by decide))
  refine VB_iload (q := 453) dL_law_451 11 rfl rfl ?_
  refine VB_bipush (q := 455) dL_law_453 (by decide) rfl ?_
  refine VB_icmp_ge (q := 458) (tgt := 603) dL_law_455 (by decide) (by decide) (by decide) (fun _ => ?_) (fun hc => absurd hc (by decide))
  refine VB_iload (q := 605) dL_law_603 11 rfl rfl ?_
  refine VB_bipush (q := 607) dL_law_605 (by decide) rfl ?_
  refine VB_icmp_ge (q := 610) (tgt := 633) dL_law_607 (by decide) (by decide) (by decide) (fun _ => ?_) (fun hc => absurd hc (by decide))
  refine VB_iload (q := 635) dL_law_633 11 rfl rfl ?_
  refine VB_bipush (q := 637) dL_law_635 (by decide) rfl ?_
  refine VB_icmp_ge (q := 640) (tgt := 677) dL_law_637 (by decide) (by decide) (by decide) (fun _ => ?_) (fun hc => absurd hc (by decide))
  refine VB_iload (q := 679) dL_law_677 11 rfl rfl ?_
  refine VB_bipush (q := 681) dL_law_679 (by decide) rfl ?_
  refine VB_icmp_ne (q := 684) (tgt := 783) dL_law_681 (by decide) (by decide) (by decide) (fun _ => ?_) (fun hc => absurd hc (by decide))
  refine VB_loc (lv' := [(0, _), (1, _), (2, _), (3, _), (4, _), (5, _), (6, _), (7, _), (8, _), (9, _), (10, _)]) [0, 1, 2, 3, 4, 5, 6, 7, 8, 9, 10] rfl ?_
  exact VB_widen (by omega) (by omega) (ck15 hL h16 hx S F g hI (hK (by decide)) hg)
set_option maxRecDepth 100000 in
set_option maxHeartbeats 8000000 in
theorem ck14 {s0 L : Nat} {xs : Nat → Int32} {a : Nat → Nat} {c : Nat → ClassId} {b : Nat → Nat} {d : Nat → ClassId} (hL : L ≤ 260) (h16 : 80 ≤ L) (hx : ∀ j, j < 80 → xs j = 31) : ∀ (S : St) (F : Nat → Nat → Int32) (g : Nat → Nat), Iv S F 4 → sK S 0 = 0 → (∀ j, g j < 4096) → VB 120 RL cL_law 17 (some .boolean) wsL_law roomB (vXL s0 L xs) (tyl c d) (qF 123) (1906) (11436 + 1250) (wal a c S b d F g) 783 [(0, .ref (s0)), (1, .ref (a 0)), (2, .ref (b 0)), (3, .ref (b 1)), (4, .ref (b 2)), (5, .ref (b 3)), (6, .ref (b 4)), (7, .int (iZ 1)), (8, .int (iZ 14)), (9, .int (iZ 31)), (10, .int (iZ 0))] [] := by
  intro S F g hI hK hg
  obtain ⟨ho, hn, hm4, hM0, hG, hC⟩ := id hI
  refine VB_iload (q := 785) dL_law_783 7 rfl rfl ?_
  refine VB_if_eq (q := 788) (tgt := 968) dL_law_785 (by decide) (by decide) (fun hc => absurd hc (by decide)) (fun _ => ?_)
  refine VB_aload_n (q := 789) dL_law_788 1 rfl rfl ?_
  refine VB_aload_n (q := 790) dL_law_789 2 rfl rfl ?_
  refine VB_aload_n (q := 791) dL_law_790 3 rfl rfl ?_
  refine VB_aload (q := 793) dL_law_791 6 rfl rfl ?_
  refine VB_callU (q := 796) dL_law_793 (u_areThings (a := a) (c := c) (S := S) (b := b) (d := d) (F := F) hI hg) yv_L_areThings rfl gL_law_L_areThings xU_L rfl (Nat.le_of_ble_eq_true rfl) (by decide) ⟨by show _ ≤ 20000; omega, by show _ ≤ 130000; omega⟩ (fun x793 g793 hP793 hg793 => ?_)
  refine VB_lo (lo' := 120) (Nat.le_add_right _ _) ?_
  have J968 : ∀ (gj968 : Nat → Nat), (∀ j, gj968 j < 4096) → VB 120 RL cL_law 17 (some .boolean) wsL_law roomB (vXL s0 L xs) (tyl c d) (qF 123) (2126) (12756 + 1250) (wal a c S b d F gj968) 968 [(0, .ref (s0)), (1, .ref (a 0)), (2, .ref (b 0)), (3, .ref (b 1)), (4, .ref (b 2)), (5, .ref (b 3)), (6, .ref (b 4)), (7, .int (iZ 1)), (8, .int (iZ 14)), (9, .int (iZ 31)), (10, .int (iZ 0))] [] := by
    intro gj968 hgj968
    refine VB_iconst (q := 969) dL_law_968 rfl ?_
    refine VB_istore (q := 971) (lv' := [(0, _), (1, _), (2, _), (3, _), (4, _), (5, _), (6, _), (7, _), (8, _), (9, _), (10, _)]) dL_law_969 (by decide) rfl rfl ?_
    refine VB_iinc (q := 974) (y := 15) (lv' := [(0, _), (1, _), (2, _), (3, _), (4, _), (5, _), (6, _), (7, _), (8, _), (9, _), (10, _)]) dL_law_971 8 rfl (by omega) (by decide) rfl rfl ?_
    refine VB_goto (tgt := 64) dL_law_974 (by decide) ?_
    refine VB_iload (q := 66) dL_law_64 8 rfl rfl ?_
    refine VB_bipush (q := 68) dL_law_66 (by decide) rfl ?_
    refine VB_icmp_ge (q := 71) (tgt := 977) dL_law_68 (by decide) (by decide) (by decide) (fun hc => absurd hc (by decide)) (fun _ => ?_)
    refine VB_iload (q := 73) dL_law_71 7 rfl rfl ?_
    refine VB_if_eq (q := 76) (tgt := 977) dL_law_73 (by decide) (by decide) (fun _ => ?_) (fun hc => absurd hc (by decide))
    refine VB_iload (q := 979) dL_law_977 7 rfl rfl ?_
    exact VB_ret0 dL_law_979 rfl
  refine VB_uif_eq (q := 799) (tgt := 968) dL_law_796 (by decide) ?_ ?_
  · skip
    exact VB_widen (by omega) (by omega) (J968 g793 hg793)
  · skip
    refine VB_iload (q := 801) dL_law_799 8 rfl rfl ?_
    refine VB_iconst (q := 802) dL_law_801 rfl ?_
    refine VB_irem (q := 803) (a := 14) (b := 2) dL_law_802 (by omega) (by decide) (by decide) rfl ?_
    refine VB_top (y := iZ 0) rfl ?_
    refine VB_if_gt (q := 806) (tgt := 833) dL_law_803 (by decide) (by decide) (fun hc => absurd hc (by decide)) (fun _ => ?_)
    refine VB_aload_n (q := 807) dL_law_806 1 rfl rfl ?_
    refine VB_aload_n (q := 808) dL_law_807 2 rfl rfl ?_
    refine VB_aload_n (q := 809) dL_law_808 3 rfl rfl ?_
    refine VB_aload (q := 811) dL_law_809 4 rfl rfl ?_
    refine VB_aload (q := 813) dL_law_811 6 rfl rfl ?_
    refine VB_iload (q := 815) dL_law_813 10 rfl rfl ?_
    refine VB_bipush (q := 817) dL_law_815 (by decide) rfl ?_
    refine VB_irem (q := 818) (a := 0) (b := 31) dL_law_817 (by omega) (by decide) (by decide) rfl ?_
    refine VB_top (y := iZ 0) rfl ?_
    refine VB_iload (q := 820) dL_law_818 10 rfl rfl ?_
    refine VB_bipush (q := 822) dL_law_820 (by decide) rfl ?_
    refine VB_idiv (q := 823) (a := 0) (b := 31) dL_law_822 (by omega) (by decide) (by decide) rfl ?_
    refine VB_top (y := iZ 0) rfl ?_
    refine VB_sipush (q := 826) dL_law_823 (by decide) rfl ?_
    refine VB_irem (q := 827) (a := 0) (b := 256) dL_law_826 (by omega) (by decide) (by decide) rfl ?_
    refine VB_top (y := iZ 0) rfl ?_
    refine VB_callU (q := 830) dL_law_827 (u_areOutfits (a := a) (c := c) (S := S) (b := b) (d := d) (F := F) hI hg793) yv_L_areOutfits rfl gL_law_L_areOutfits xU_L rfl (Nat.le_of_ble_eq_true rfl) (by decide) ⟨by show _ ≤ 20000; omega, by show _ ≤ 130000; omega⟩ (fun x827 g827 hP827 hg827 => ?_)
    refine VB_lo (lo' := 120) (Nat.le_add_right _ _) ?_
    refine VB_uif_eq (q := 833) (tgt := 968) dL_law_830 (by decide) ?_ ?_
    · skip
      exact VB_widen (by omega) (by omega) (J968 g827 hg827)
    · skip
      refine VB_aload_n (q := 834) dL_law_833 1 rfl rfl ?_
      refine VB_aload_n (q := 835) dL_law_834 2 rfl rfl ?_
      refine VB_aload_n (q := 836) dL_law_835 3 rfl rfl ?_
      refine VB_aload (q := 838) dL_law_836 4 rfl rfl ?_
      refine VB_aload (q := 840) dL_law_838 6 rfl rfl ?_
      refine VB_callU (q := 843) dL_law_840 (u_isMissing (a := a) (c := c) (S := S) (b := b) (d := d) (F := F) hI hg827) yv_L_isMissing rfl gL_law_L_isMissing xU_L rfl (Nat.le_of_ble_eq_true rfl) (by decide) ⟨by show _ ≤ 20000; omega, by show _ ≤ 130000; omega⟩ (fun x840 g840 hP840 hg840 => ?_)
      refine VB_lo (lo' := 120) (Nat.le_add_right _ _) ?_
      refine VB_uif_eq (q := 846) (tgt := 968) dL_law_843 (by decide) ?_ ?_
      · skip
        exact VB_widen (by omega) (by omega) (J968 g840 hg840)
      · skip
        refine VB_aload_n (q := 847) dL_law_846 1 rfl rfl ?_
        refine VB_aload_n (q := 848) dL_law_847 2 rfl rfl ?_
        refine VB_aload (q := 850) dL_law_848 6 rfl rfl ?_
        refine VB_iload (q := 852) dL_law_850 10 rfl rfl ?_
        refine VB_aload (q := 854) dL_law_852 6 rfl rfl ?_
        refine VB_iconst (q := 855) dL_law_854 rfl ?_
        refine VB_iald (q := 856) (v := (iZ 4)) dL_law_855 13 12 rfl rfl (0) (by omega) (by omega) (by decide) (hM0) rfl ?_
        refine VB_iconst (q := 857) dL_law_856 rfl ?_
        refine VB_iadd (q := 858) dL_law_857 rfl ?_
        refine VB_top (y := iZ 5) rfl ?_
        refine VB_irem (q := 859) (a := 0) (b := 5) dL_law_858 (by omega) (by decide) (by decide) rfl ?_
        refine VB_top (y := iZ 0) rfl ?_
        refine VB_iload (q := 861) dL_law_859 10 rfl rfl ?_
        refine VB_bipush (q := 863) dL_law_861 (by decide) rfl ?_
        refine VB_idiv (q := 864) (a := 0) (b := 13) dL_law_863 (by omega) (by decide) (by decide) rfl ?_
        refine VB_top (y := iZ 0) rfl ?_
        refine VB_aload (q := 866) dL_law_864 6 rfl rfl ?_
        refine VB_iconst (q := 867) dL_law_866 rfl ?_
        refine VB_iald (q := 868) (v := (iZ 4)) dL_law_867 13 12 rfl rfl (0) (by omega) (by omega) (by decide) (hM0) rfl ?_
        refine VB_iconst (q := 869) dL_law_868 rfl ?_
        refine VB_iadd (q := 870) dL_law_869 rfl ?_
        refine VB_top (y := iZ 5) rfl ?_
        refine VB_irem (q := 871) (a := 0) (b := 5) dL_law_870 (by omega) (by decide) (by decide) rfl ?_
        refine VB_top (y := iZ 0) rfl ?_
        refine VB_iload (q := 873) dL_law_871 10 rfl rfl ?_
        refine VB_sipush (q := 876) dL_law_873 (by decide) rfl ?_
        refine VB_idiv (q := 877) (a := 0) (b := 169) dL_law_876 (by omega) (by decide) (by decide) rfl ?_
        refine VB_top (y := iZ 0) rfl ?_
        refine VB_aload (q := 879) dL_law_877 6 rfl rfl ?_
        refine VB_iconst (q := 880) dL_law_879 rfl ?_
        refine VB_iald (q := 881) (v := (iZ 4)) dL_law_880 13 12 rfl rfl (0) (by omega) (by omega) (by decide) (hM0) rfl ?_
        refine VB_iconst (q := 882) dL_law_881 rfl ?_
        refine VB_iadd (q := 883) dL_law_882 rfl ?_
        refine VB_top (y := iZ 6) rfl ?_
        refine VB_irem (q := 884) (a := 0) (b := 6) dL_law_883 (by omega) (by decide) (by decide) rfl ?_
        refine VB_top (y := iZ 0) rfl ?_
        refine VB_iconst (q := 885) dL_law_884 rfl ?_
        refine VB_isub (q := 886) dL_law_885 rfl ?_
        refine VB_top (y := iZ (-1)) rfl ?_
        refine VB_callU (q := 889) dL_law_886 (u_isWrong (a := a) (c := c) (S := S) (b := b) (d := d) (F := F) hI (wr0 hI (by decide) hK) hg840) yv_L_isWrong rfl gL_law_L_isWrong xU_L rfl (Nat.le_of_ble_eq_true rfl) (by decide) ⟨by show _ ≤ 20000; omega, by show _ ≤ 130000; omega⟩ (fun x886 g886 hP886 hg886 => ?_)
        refine VB_em (x := x886) (fun e886 => VB_lo (lo' := 120) (Nat.le_add_right _ _) (VB_top (y := iZ 0) e886 ?_)) (fun e886 => VB_lo (lo' := 122) (by show 122 ≤ 120 + (if x886 = 0 then 0 else 2); rw [if_neg e886]; omega) ?_)
        · skip
          refine VB_if_eq (q := 892) (tgt := 968) dL_law_889 (by decide) (by decide) (fun _ => ?_) (fun hc => absurd hc (by decide))
          exact VB_widen (by omega) (by omega) (J968 g886 hg886)
        · skip
          refine VB_uif_eq (q := 892) (tgt := 968) dL_law_889 (by decide) ?_ ?_
          · skip
            refine VB_lo (lo' := 120) (by omega) ?_
            exact VB_widen (by omega) (by omega) (J968 g886 hg886)
          · skip
            refine VB_iload (q := 894) dL_law_892 8 rfl rfl ?_
            refine VB_bipush (q := 896) dL_law_894 (by decide) rfl ?_
            refine VB_irem (q := 897) (a := 14) (b := 16) dL_law_896 (by omega) (by decide) (by decide) rfl ?_
            refine VB_top (y := iZ 14) rfl ?_
            refine VB_if_gt (q := 900) (tgt := 943) dL_law_897 (by decide) (by decide) (fun _ => ?_) (fun hc => absurd hc (by decide))
            refine VB_iload (q := 945) dL_law_943 8 rfl rfl ?_
            refine VB_bipush (q := 947) dL_law_945 (by decide) rfl ?_
            refine VB_irem (q := 948) (a := 14) (b := 20) dL_law_947 (by omega) (by decide) (by decide) rfl ?_
            refine VB_top (y := iZ 14) rfl ?_
            refine VB_if_gt (q := 951) (tgt := 964) dL_law_948 (by decide) (by decide) (fun _ => ?_) (fun hc => absurd hc (by decide))
            refine VB_iconst (q := 965) dL_law_964 rfl ?_
            refine VB_goto (tgt := 969) dL_law_965 (by decide) ?_
            refine VB_istore (q := 971) (lv' := [(0, _), (1, _), (2, _), (3, _), (4, _), (5, _), (6, _), (7, _), (8, _), (9, _), (10, _)]) dL_law_969 (by decide) rfl rfl ?_
            refine VB_iinc (q := 974) (y := 15) (lv' := [(0, _), (1, _), (2, _), (3, _), (4, _), (5, _), (6, _), (7, _), (8, _), (9, _), (10, _)]) dL_law_971 8 rfl (by omega) (by decide) rfl rfl ?_
            refine VB_goto (tgt := 64) dL_law_974 (by decide) ?_
            refine VB_loc (lv' := [(0, _), (1, _), (2, _), (3, _), (4, _), (5, _), (6, _), (7, _), (8, _)]) [0, 1, 2, 3, 4, 5, 6, 7, 8] rfl ?_
            refine VB_lo (lo' := 122) (by omega) ?_
            exact VB_widen (by omega) (by omega) (rd15 hL h16 hx S F g886 hI (fun _ => hK) hg886)
set_option maxRecDepth 100000 in
set_option maxHeartbeats 8000000 in
theorem rd14 {s0 L : Nat} {xs : Nat → Int32} {a : Nat → Nat} {c : Nat → ClassId} {b : Nat → Nat} {d : Nat → ClassId} (hL : L ≤ 260) (h16 : 80 ≤ L) (hx : ∀ j, j < 80 → xs j = 31) : ∀ (S : St) (F : Nat → Nat → Int32) (g : Nat → Nat), Iv S F 4 → (0 < 14 → sK S 0 = 0) → (∀ j, g j < 4096) → VB 120 RL cL_law 17 (some .boolean) wsL_law roomB (vXL s0 L xs) (tyl c d) (qF 123) (1906) (11436 + 1250) (wal a c S b d F g) 64 [(0, .ref (s0)), (1, .ref (a 0)), (2, .ref (b 0)), (3, .ref (b 1)), (4, .ref (b 2)), (5, .ref (b 3)), (6, .ref (b 4)), (7, .int (iZ 1)), (8, .int (iZ 14))] [] := by
  intro S F g hI hK hg
  obtain ⟨ho, hn, hm4, hM0, hG, hC⟩ := id hI
  refine VB_iload (q := 66) dL_law_64 8 rfl rfl ?_
  refine VB_bipush (q := 68) dL_law_66 (by decide) rfl ?_
  refine VB_icmp_ge (q := 71) (tgt := 977) dL_law_68 (by decide) (by decide) (by decide) (fun hc => absurd hc (by decide)) (fun _ => ?_)
  refine VB_iload (q := 73) dL_law_71 7 rfl rfl ?_
  refine VB_if_eq (q := 76) (tgt := 977) dL_law_73 (by decide) (by decide) (fun hc => absurd hc (by decide)) (fun _ => ?_)
  refine VB_aload_n (q := 77) dL_law_76 0 rfl rfl ?_
  refine VB_iload (q := 79) dL_law_77 8 rfl rfl ?_
  refine VB_callD (q := 82) dL_law_79 (u_dice (b := s0) (L := L) (xs := xs) 14 (by omega) hL (hx 14 (by omega))) yv_L_dice rfl gL_law_L_dice xL_s rfl (Nat.le_of_ble_eq_true rfl) (by decide) ⟨by show _ ≤ 20000; omega, by show _ ≤ 130000; omega⟩ ?_
  refine VB_istore (q := 84) (lv' := [(0, _), (1, _), (2, _), (3, _), (4, _), (5, _), (6, _), (7, _), (8, _), (9, _)]) dL_law_82 (by decide) rfl rfl ?_
  refine VB_iload (q := 86) dL_law_84 9 rfl rfl ?_
  refine VB_bipush (q := 88) dL_law_86 (by decide) rfl ?_
  refine VB_idiv (q := 89) (a := 31) (b := 32) dL_law_88 (by omega) (by decide) (by decide) rfl ?_
  refine VB_top (y := iZ 0) rfl ?_
  refine VB_istore (q := 91) (lv' := [(0, _), (1, _), (2, _), (3, _), (4, _), (5, _), (6, _), (7, _), (8, _), (9, _), (10, _)]) dL_law_89 (by decide) rfl rfl ?_
  refine VB_iload (q := 93) dL_law_91 9 rfl rfl ?_
  refine VB_bipush (q := 95) dL_law_93 (by decide) rfl ?_
  refine VB_irem (q := 96) (a := 31) (b := 32) dL_law_95 (by omega) (by decide) (by decide) rfl ?_
  refine VB_top (y := iZ 31) rfl ?_
  refine VB_istore (q := 98) (lv' := [(0, _), (1, _), (2, _), (3, _), (4, _), (5, _), (6, _), (7, _), (8, _), (9, _), (10, _), (11, _)]) dL_law_96 (by decide) rfl rfl ?_
  refine VB_aload (q := 100) dL_law_98 6 rfl rfl ?_
  refine VB_iconst (q := 101) dL_law_100 rfl ?_
  refine VB_iald (q := 102) (v := (iZ 4)) dL_law_101 13 12 rfl rfl (0) (by omega) (by omega) (by decide) (hM0) rfl ?_
  refine VB_if_ne (q := 105) (tgt := 109) dL_law_102 (by decide) (by decide) (fun _ => ?_) (fun hc => absurd hc (by decide))
  refine VB_iload (q := 111) dL_law_109 10 rfl rfl ?_
  refine VB_aload (q := 113) dL_law_111 6 rfl rfl ?_
  refine VB_iconst (q := 114) dL_law_113 rfl ?_
  refine VB_iald (q := 115) (v := (iZ 4)) dL_law_114 13 12 rfl rfl (0) (by omega) (by omega) (by decide) (hM0) rfl ?_
  refine VB_irem (q := 116) (a := 0) (b := 4) dL_law_115 (by omega) (by decide) (by decide) rfl ?_
  refine VB_top (y := iZ 0) rfl ?_
  refine VB_istore (q := 118) (lv' := [(0, _), (1, _), (2, _), (3, _), (4, _), (5, _), (6, _), (7, _), (8, _), (9, _), (10, _), (11, _), (12, _)]) dL_law_116 (by decide) rfl rfl ?_
  refine VB_aload (q := 120) dL_law_118 6 rfl rfl ?_
  refine VB_iconst (q := 121) dL_law_120 rfl ?_
  refine VB_iald (q := 122) (v := (iZ 4)) dL_law_121 13 12 rfl rfl (0) (by omega) (by omega) (by decide) (hM0) rfl ?_
  refine VB_iconst (q := 123) dL_law_122 rfl ?_
  refine VB_icmp_lt (q := 126) (tgt := 141) dL_law_123 (by decide) (by decide) (by decide) (fun hc => absurd hc (by decide)) (fun _ => ?_)
  refine VB_iload (q := 128) dL_law_126 11 rfl rfl ?_
  refine VB_iconst (q := 129) dL_law_128 rfl ?_
  refine VB_icmp_ge (q := 132) (tgt := 326) dL_law_129 (by decide) (by decide) (by decide) (fun _ => ?_) (fun hc => absurd hc (by decide))
  refine VB_iload (q := 328) dL_law_326 11 rfl rfl ?_
  refine VB_bipush (q := 330) dL_law_328 (by decide) rfl ?_
  refine VB_icmp_ge (q := 333) (tgt := 451) dL_law_330 (by decide) (by decide) (by decide) (fun _ => ?_) (fun hc => absurd hc (by decide))
  refine VB_iload (q := 453) dL_law_451 11 rfl rfl ?_
  refine VB_bipush (q := 455) dL_law_453 (by decide) rfl ?_
  refine VB_icmp_ge (q := 458) (tgt := 603) dL_law_455 (by decide) (by decide) (by decide) (fun _ => ?_) (fun hc => absurd hc (by decide))
  refine VB_iload (q := 605) dL_law_603 11 rfl rfl ?_
  refine VB_bipush (q := 607) dL_law_605 (by decide) rfl ?_
  refine VB_icmp_ge (q := 610) (tgt := 633) dL_law_607 (by decide) (by decide) (by decide) (fun _ => ?_) (fun hc => absurd hc (by decide))
  refine VB_iload (q := 635) dL_law_633 11 rfl rfl ?_
  refine VB_bipush (q := 637) dL_law_635 (by decide) rfl ?_
  refine VB_icmp_ge (q := 640) (tgt := 677) dL_law_637 (by decide) (by decide) (by decide) (fun _ => ?_) (fun hc => absurd hc (by decide))
  refine VB_iload (q := 679) dL_law_677 11 rfl rfl ?_
  refine VB_bipush (q := 681) dL_law_679 (by decide) rfl ?_
  refine VB_icmp_ne (q := 684) (tgt := 783) dL_law_681 (by decide) (by decide) (by decide) (fun _ => ?_) (fun hc => absurd hc (by decide))
  refine VB_loc (lv' := [(0, _), (1, _), (2, _), (3, _), (4, _), (5, _), (6, _), (7, _), (8, _), (9, _), (10, _)]) [0, 1, 2, 3, 4, 5, 6, 7, 8, 9, 10] rfl ?_
  exact VB_widen (by omega) (by omega) (ck14 hL h16 hx S F g hI (hK (by decide)) hg)
set_option maxRecDepth 100000 in
set_option maxHeartbeats 8000000 in
theorem ck13 {s0 L : Nat} {xs : Nat → Int32} {a : Nat → Nat} {c : Nat → ClassId} {b : Nat → Nat} {d : Nat → ClassId} (hL : L ≤ 260) (h16 : 80 ≤ L) (hx : ∀ j, j < 80 → xs j = 31) : ∀ (S : St) (F : Nat → Nat → Int32) (g : Nat → Nat), Iv S F 4 → sK S 0 = 0 → (∀ j, g j < 4096) → VB 118 RL cL_law 17 (some .boolean) wsL_law roomB (vXL s0 L xs) (tyl c d) (qF 123) (1886) (11316 + 1250) (wal a c S b d F g) 783 [(0, .ref (s0)), (1, .ref (a 0)), (2, .ref (b 0)), (3, .ref (b 1)), (4, .ref (b 2)), (5, .ref (b 3)), (6, .ref (b 4)), (7, .int (iZ 1)), (8, .int (iZ 13)), (9, .int (iZ 31)), (10, .int (iZ 0))] [] := by
  intro S F g hI hK hg
  obtain ⟨ho, hn, hm4, hM0, hG, hC⟩ := id hI
  refine VB_iload (q := 785) dL_law_783 7 rfl rfl ?_
  refine VB_if_eq (q := 788) (tgt := 968) dL_law_785 (by decide) (by decide) (fun hc => absurd hc (by decide)) (fun _ => ?_)
  refine VB_aload_n (q := 789) dL_law_788 1 rfl rfl ?_
  refine VB_aload_n (q := 790) dL_law_789 2 rfl rfl ?_
  refine VB_aload_n (q := 791) dL_law_790 3 rfl rfl ?_
  refine VB_aload (q := 793) dL_law_791 6 rfl rfl ?_
  refine VB_callU (q := 796) dL_law_793 (u_areThings (a := a) (c := c) (S := S) (b := b) (d := d) (F := F) hI hg) yv_L_areThings rfl gL_law_L_areThings xU_L rfl (Nat.le_of_ble_eq_true rfl) (by decide) ⟨by show _ ≤ 20000; omega, by show _ ≤ 130000; omega⟩ (fun x793 g793 hP793 hg793 => ?_)
  refine VB_lo (lo' := 118) (Nat.le_add_right _ _) ?_
  have J968 : ∀ (gj968 : Nat → Nat), (∀ j, gj968 j < 4096) → VB 118 RL cL_law 17 (some .boolean) wsL_law roomB (vXL s0 L xs) (tyl c d) (qF 123) (1906) (11436 + 1250) (wal a c S b d F gj968) 968 [(0, .ref (s0)), (1, .ref (a 0)), (2, .ref (b 0)), (3, .ref (b 1)), (4, .ref (b 2)), (5, .ref (b 3)), (6, .ref (b 4)), (7, .int (iZ 1)), (8, .int (iZ 13)), (9, .int (iZ 31)), (10, .int (iZ 0))] [] := by
    intro gj968 hgj968
    refine VB_iconst (q := 969) dL_law_968 rfl ?_
    refine VB_istore (q := 971) (lv' := [(0, _), (1, _), (2, _), (3, _), (4, _), (5, _), (6, _), (7, _), (8, _), (9, _), (10, _)]) dL_law_969 (by decide) rfl rfl ?_
    refine VB_iinc (q := 974) (y := 14) (lv' := [(0, _), (1, _), (2, _), (3, _), (4, _), (5, _), (6, _), (7, _), (8, _), (9, _), (10, _)]) dL_law_971 8 rfl (by omega) (by decide) rfl rfl ?_
    refine VB_goto (tgt := 64) dL_law_974 (by decide) ?_
    refine VB_iload (q := 66) dL_law_64 8 rfl rfl ?_
    refine VB_bipush (q := 68) dL_law_66 (by decide) rfl ?_
    refine VB_icmp_ge (q := 71) (tgt := 977) dL_law_68 (by decide) (by decide) (by decide) (fun hc => absurd hc (by decide)) (fun _ => ?_)
    refine VB_iload (q := 73) dL_law_71 7 rfl rfl ?_
    refine VB_if_eq (q := 76) (tgt := 977) dL_law_73 (by decide) (by decide) (fun _ => ?_) (fun hc => absurd hc (by decide))
    refine VB_iload (q := 979) dL_law_977 7 rfl rfl ?_
    exact VB_ret0 dL_law_979 rfl
  refine VB_uif_eq (q := 799) (tgt := 968) dL_law_796 (by decide) ?_ ?_
  · skip
    exact VB_widen (by omega) (by omega) (J968 g793 hg793)
  · skip
    refine VB_iload (q := 801) dL_law_799 8 rfl rfl ?_
    refine VB_iconst (q := 802) dL_law_801 rfl ?_
    refine VB_irem (q := 803) (a := 13) (b := 2) dL_law_802 (by omega) (by decide) (by decide) rfl ?_
    refine VB_top (y := iZ 1) rfl ?_
    refine VB_if_gt (q := 806) (tgt := 833) dL_law_803 (by decide) (by decide) (fun _ => ?_) (fun hc => absurd hc (by decide))
    refine VB_aload_n (q := 834) dL_law_833 1 rfl rfl ?_
    refine VB_aload_n (q := 835) dL_law_834 2 rfl rfl ?_
    refine VB_aload_n (q := 836) dL_law_835 3 rfl rfl ?_
    refine VB_aload (q := 838) dL_law_836 4 rfl rfl ?_
    refine VB_aload (q := 840) dL_law_838 6 rfl rfl ?_
    refine VB_callU (q := 843) dL_law_840 (u_isMissing (a := a) (c := c) (S := S) (b := b) (d := d) (F := F) hI hg793) yv_L_isMissing rfl gL_law_L_isMissing xU_L rfl (Nat.le_of_ble_eq_true rfl) (by decide) ⟨by show _ ≤ 20000; omega, by show _ ≤ 130000; omega⟩ (fun x840 g840 hP840 hg840 => ?_)
    refine VB_lo (lo' := 118) (Nat.le_add_right _ _) ?_
    refine VB_uif_eq (q := 846) (tgt := 968) dL_law_843 (by decide) ?_ ?_
    · skip
      exact VB_widen (by omega) (by omega) (J968 g840 hg840)
    · skip
      refine VB_aload_n (q := 847) dL_law_846 1 rfl rfl ?_
      refine VB_aload_n (q := 848) dL_law_847 2 rfl rfl ?_
      refine VB_aload (q := 850) dL_law_848 6 rfl rfl ?_
      refine VB_iload (q := 852) dL_law_850 10 rfl rfl ?_
      refine VB_aload (q := 854) dL_law_852 6 rfl rfl ?_
      refine VB_iconst (q := 855) dL_law_854 rfl ?_
      refine VB_iald (q := 856) (v := (iZ 4)) dL_law_855 13 12 rfl rfl (0) (by omega) (by omega) (by decide) (hM0) rfl ?_
      refine VB_iconst (q := 857) dL_law_856 rfl ?_
      refine VB_iadd (q := 858) dL_law_857 rfl ?_
      refine VB_top (y := iZ 5) rfl ?_
      refine VB_irem (q := 859) (a := 0) (b := 5) dL_law_858 (by omega) (by decide) (by decide) rfl ?_
      refine VB_top (y := iZ 0) rfl ?_
      refine VB_iload (q := 861) dL_law_859 10 rfl rfl ?_
      refine VB_bipush (q := 863) dL_law_861 (by decide) rfl ?_
      refine VB_idiv (q := 864) (a := 0) (b := 13) dL_law_863 (by omega) (by decide) (by decide) rfl ?_
      refine VB_top (y := iZ 0) rfl ?_
      refine VB_aload (q := 866) dL_law_864 6 rfl rfl ?_
      refine VB_iconst (q := 867) dL_law_866 rfl ?_
      refine VB_iald (q := 868) (v := (iZ 4)) dL_law_867 13 12 rfl rfl (0) (by omega) (by omega) (by decide) (hM0) rfl ?_
      refine VB_iconst (q := 869) dL_law_868 rfl ?_
      refine VB_iadd (q := 870) dL_law_869 rfl ?_
      refine VB_top (y := iZ 5) rfl ?_
      refine VB_irem (q := 871) (a := 0) (b := 5) dL_law_870 (by omega) (by decide) (by decide) rfl ?_
      refine VB_top (y := iZ 0) rfl ?_
      refine VB_iload (q := 873) dL_law_871 10 rfl rfl ?_
      refine VB_sipush (q := 876) dL_law_873 (by decide) rfl ?_
      refine VB_idiv (q := 877) (a := 0) (b := 169) dL_law_876 (by omega) (by decide) (by decide) rfl ?_
      refine VB_top (y := iZ 0) rfl ?_
      refine VB_aload (q := 879) dL_law_877 6 rfl rfl ?_
      refine VB_iconst (q := 880) dL_law_879 rfl ?_
      refine VB_iald (q := 881) (v := (iZ 4)) dL_law_880 13 12 rfl rfl (0) (by omega) (by omega) (by decide) (hM0) rfl ?_
      refine VB_iconst (q := 882) dL_law_881 rfl ?_
      refine VB_iadd (q := 883) dL_law_882 rfl ?_
      refine VB_top (y := iZ 6) rfl ?_
      refine VB_irem (q := 884) (a := 0) (b := 6) dL_law_883 (by omega) (by decide) (by decide) rfl ?_
      refine VB_top (y := iZ 0) rfl ?_
      refine VB_iconst (q := 885) dL_law_884 rfl ?_
      refine VB_isub (q := 886) dL_law_885 rfl ?_
      refine VB_top (y := iZ (-1)) rfl ?_
      refine VB_callU (q := 889) dL_law_886 (u_isWrong (a := a) (c := c) (S := S) (b := b) (d := d) (F := F) hI (wr0 hI (by decide) hK) hg840) yv_L_isWrong rfl gL_law_L_isWrong xU_L rfl (Nat.le_of_ble_eq_true rfl) (by decide) ⟨by show _ ≤ 20000; omega, by show _ ≤ 130000; omega⟩ (fun x886 g886 hP886 hg886 => ?_)
      refine VB_em (x := x886) (fun e886 => VB_lo (lo' := 118) (Nat.le_add_right _ _) (VB_top (y := iZ 0) e886 ?_)) (fun e886 => VB_lo (lo' := 120) (by show 120 ≤ 118 + (if x886 = 0 then 0 else 2); rw [if_neg e886]; omega) ?_)
      · skip
        refine VB_if_eq (q := 892) (tgt := 968) dL_law_889 (by decide) (by decide) (fun _ => ?_) (fun hc => absurd hc (by decide))
        exact VB_widen (by omega) (by omega) (J968 g886 hg886)
      · skip
        refine VB_uif_eq (q := 892) (tgt := 968) dL_law_889 (by decide) ?_ ?_
        · skip
          refine VB_lo (lo' := 118) (by omega) ?_
          exact VB_widen (by omega) (by omega) (J968 g886 hg886)
        · skip
          refine VB_iload (q := 894) dL_law_892 8 rfl rfl ?_
          refine VB_bipush (q := 896) dL_law_894 (by decide) rfl ?_
          refine VB_irem (q := 897) (a := 13) (b := 16) dL_law_896 (by omega) (by decide) (by decide) rfl ?_
          refine VB_top (y := iZ 13) rfl ?_
          refine VB_if_gt (q := 900) (tgt := 943) dL_law_897 (by decide) (by decide) (fun _ => ?_) (fun hc => absurd hc (by decide))
          refine VB_iload (q := 945) dL_law_943 8 rfl rfl ?_
          refine VB_bipush (q := 947) dL_law_945 (by decide) rfl ?_
          refine VB_irem (q := 948) (a := 13) (b := 20) dL_law_947 (by omega) (by decide) (by decide) rfl ?_
          refine VB_top (y := iZ 13) rfl ?_
          refine VB_if_gt (q := 951) (tgt := 964) dL_law_948 (by decide) (by decide) (fun _ => ?_) (fun hc => absurd hc (by decide))
          refine VB_iconst (q := 965) dL_law_964 rfl ?_
          refine VB_goto (tgt := 969) dL_law_965 (by decide) ?_
          refine VB_istore (q := 971) (lv' := [(0, _), (1, _), (2, _), (3, _), (4, _), (5, _), (6, _), (7, _), (8, _), (9, _), (10, _)]) dL_law_969 (by decide) rfl rfl ?_
          refine VB_iinc (q := 974) (y := 14) (lv' := [(0, _), (1, _), (2, _), (3, _), (4, _), (5, _), (6, _), (7, _), (8, _), (9, _), (10, _)]) dL_law_971 8 rfl (by omega) (by decide) rfl rfl ?_
          refine VB_goto (tgt := 64) dL_law_974 (by decide) ?_
          refine VB_loc (lv' := [(0, _), (1, _), (2, _), (3, _), (4, _), (5, _), (6, _), (7, _), (8, _)]) [0, 1, 2, 3, 4, 5, 6, 7, 8] rfl ?_
          refine VB_lo (lo' := 120) (by omega) ?_
          exact VB_widen (by omega) (by omega) (rd14 hL h16 hx S F g886 hI (fun _ => hK) hg886)
set_option maxRecDepth 100000 in
set_option maxHeartbeats 8000000 in
theorem rd13 {s0 L : Nat} {xs : Nat → Int32} {a : Nat → Nat} {c : Nat → ClassId} {b : Nat → Nat} {d : Nat → ClassId} (hL : L ≤ 260) (h16 : 80 ≤ L) (hx : ∀ j, j < 80 → xs j = 31) : ∀ (S : St) (F : Nat → Nat → Int32) (g : Nat → Nat), Iv S F 4 → (0 < 13 → sK S 0 = 0) → (∀ j, g j < 4096) → VB 118 RL cL_law 17 (some .boolean) wsL_law roomB (vXL s0 L xs) (tyl c d) (qF 123) (1886) (11316 + 1250) (wal a c S b d F g) 64 [(0, .ref (s0)), (1, .ref (a 0)), (2, .ref (b 0)), (3, .ref (b 1)), (4, .ref (b 2)), (5, .ref (b 3)), (6, .ref (b 4)), (7, .int (iZ 1)), (8, .int (iZ 13))] [] := by
  intro S F g hI hK hg
  obtain ⟨ho, hn, hm4, hM0, hG, hC⟩ := id hI
  refine VB_iload (q := 66) dL_law_64 8 rfl rfl ?_
  refine VB_bipush (q := 68) dL_law_66 (by decide) rfl ?_
  refine VB_icmp_ge (q := 71) (tgt := 977) dL_law_68 (by decide) (by decide) (by decide) (fun hc => absurd hc (by decide)) (fun _ => ?_)
  refine VB_iload (q := 73) dL_law_71 7 rfl rfl ?_
  refine VB_if_eq (q := 76) (tgt := 977) dL_law_73 (by decide) (by decide) (fun hc => absurd hc (by decide)) (fun _ => ?_)
  refine VB_aload_n (q := 77) dL_law_76 0 rfl rfl ?_
  refine VB_iload (q := 79) dL_law_77 8 rfl rfl ?_
  refine VB_callD (q := 82) dL_law_79 (u_dice (b := s0) (L := L) (xs := xs) 13 (by omega) hL (hx 13 (by omega))) yv_L_dice rfl gL_law_L_dice xL_s rfl (Nat.le_of_ble_eq_true rfl) (by decide) ⟨by show _ ≤ 20000; omega, by show _ ≤ 130000; omega⟩ ?_
  refine VB_istore (q := 84) (lv' := [(0, _), (1, _), (2, _), (3, _), (4, _), (5, _), (6, _), (7, _), (8, _), (9, _)]) dL_law_82 (by decide) rfl rfl ?_
  refine VB_iload (q := 86) dL_law_84 9 rfl rfl ?_
  refine VB_bipush (q := 88) dL_law_86 (by decide) rfl ?_
  refine VB_idiv (q := 89) (a := 31) (b := 32) dL_law_88 (by omega) (by decide) (by decide) rfl ?_
  refine VB_top (y := iZ 0) rfl ?_
  refine VB_istore (q := 91) (lv' := [(0, _), (1, _), (2, _), (3, _), (4, _), (5, _), (6, _), (7, _), (8, _), (9, _), (10, _)]) dL_law_89 (by decide) rfl rfl ?_
  refine VB_iload (q := 93) dL_law_91 9 rfl rfl ?_
  refine VB_bipush (q := 95) dL_law_93 (by decide) rfl ?_
  refine VB_irem (q := 96) (a := 31) (b := 32) dL_law_95 (by omega) (by decide) (by decide) rfl ?_
  refine VB_top (y := iZ 31) rfl ?_
  refine VB_istore (q := 98) (lv' := [(0, _), (1, _), (2, _), (3, _), (4, _), (5, _), (6, _), (7, _), (8, _), (9, _), (10, _), (11, _)]) dL_law_96 (by decide) rfl rfl ?_
  refine VB_aload (q := 100) dL_law_98 6 rfl rfl ?_
  refine VB_iconst (q := 101) dL_law_100 rfl ?_
  refine VB_iald (q := 102) (v := (iZ 4)) dL_law_101 13 12 rfl rfl (0) (by omega) (by omega) (by decide) (hM0) rfl ?_
  refine VB_if_ne (q := 105) (tgt := 109) dL_law_102 (by decide) (by decide) (fun _ => ?_) (fun hc => absurd hc (by decide))
  refine VB_iload (q := 111) dL_law_109 10 rfl rfl ?_
  refine VB_aload (q := 113) dL_law_111 6 rfl rfl ?_
  refine VB_iconst (q := 114) dL_law_113 rfl ?_
  refine VB_iald (q := 115) (v := (iZ 4)) dL_law_114 13 12 rfl rfl (0) (by omega) (by omega) (by decide) (hM0) rfl ?_
  refine VB_irem (q := 116) (a := 0) (b := 4) dL_law_115 (by omega) (by decide) (by decide) rfl ?_
  refine VB_top (y := iZ 0) rfl ?_
  refine VB_istore (q := 118) (lv' := [(0, _), (1, _), (2, _), (3, _), (4, _), (5, _), (6, _), (7, _), (8, _), (9, _), (10, _), (11, _), (12, _)]) dL_law_116 (by decide) rfl rfl ?_
  refine VB_aload (q := 120) dL_law_118 6 rfl rfl ?_
  refine VB_iconst (q := 121) dL_law_120 rfl ?_
  refine VB_iald (q := 122) (v := (iZ 4)) dL_law_121 13 12 rfl rfl (0) (by omega) (by omega) (by decide) (hM0) rfl ?_
  refine VB_iconst (q := 123) dL_law_122 rfl ?_
  refine VB_icmp_lt (q := 126) (tgt := 141) dL_law_123 (by decide) (by decide) (by decide) (fun hc => absurd hc (by decide)) (fun _ => ?_)
  refine VB_iload (q := 128) dL_law_126 11 rfl rfl ?_
  refine VB_iconst (q := 129) dL_law_128 rfl ?_
  refine VB_icmp_ge (q := 132) (tgt := 326) dL_law_129 (by decide) (by decide) (by decide) (fun _ => ?_) (fun hc => absurd hc (by decide))
  refine VB_iload (q := 328) dL_law_326 11 rfl rfl ?_
  refine VB_bipush (q := 330) dL_law_328 (by decide) rfl ?_
  refine VB_icmp_ge (q := 333) (tgt := 451) dL_law_330 (by decide) (by decide) (by decide) (fun _ => ?_) (fun hc => absurd hc (by decide))
  refine VB_iload (q := 453) dL_law_451 11 rfl rfl ?_
  refine VB_bipush (q := 455) dL_law_453 (by decide) rfl ?_
  refine VB_icmp_ge (q := 458) (tgt := 603) dL_law_455 (by decide) (by decide) (by decide) (fun _ => ?_) (fun hc => absurd hc (by decide))
  refine VB_iload (q := 605) dL_law_603 11 rfl rfl ?_
  refine VB_bipush (q := 607) dL_law_605 (by decide) rfl ?_
  refine VB_icmp_ge (q := 610) (tgt := 633) dL_law_607 (by decide) (by decide) (by decide) (fun _ => ?_) (fun hc => absurd hc (by decide))
  refine VB_iload (q := 635) dL_law_633 11 rfl rfl ?_
  refine VB_bipush (q := 637) dL_law_635 (by decide) rfl ?_
  refine VB_icmp_ge (q := 640) (tgt := 677) dL_law_637 (by decide) (by decide) (by decide) (fun _ => ?_) (fun hc => absurd hc (by decide))
  refine VB_iload (q := 679) dL_law_677 11 rfl rfl ?_
  refine VB_bipush (q := 681) dL_law_679 (by decide) rfl ?_
  refine VB_icmp_ne (q := 684) (tgt := 783) dL_law_681 (by decide) (by decide) (by decide) (fun _ => ?_) (fun hc => absurd hc (by decide))
  refine VB_loc (lv' := [(0, _), (1, _), (2, _), (3, _), (4, _), (5, _), (6, _), (7, _), (8, _), (9, _), (10, _)]) [0, 1, 2, 3, 4, 5, 6, 7, 8, 9, 10] rfl ?_
  exact VB_widen (by omega) (by omega) (ck13 hL h16 hx S F g hI (hK (by decide)) hg)
set_option maxRecDepth 100000 in
set_option maxHeartbeats 8000000 in
theorem ck12 {s0 L : Nat} {xs : Nat → Int32} {a : Nat → Nat} {c : Nat → ClassId} {b : Nat → Nat} {d : Nat → ClassId} (hL : L ≤ 260) (h16 : 80 ≤ L) (hx : ∀ j, j < 80 → xs j = 31) : ∀ (S : St) (F : Nat → Nat → Int32) (g : Nat → Nat), Iv S F 4 → sK S 0 = 0 → (∀ j, g j < 4096) → VB 116 RL cL_law 17 (some .boolean) wsL_law roomB (vXL s0 L xs) (tyl c d) (qF 123) (1666) (9996 + 1250) (wal a c S b d F g) 783 [(0, .ref (s0)), (1, .ref (a 0)), (2, .ref (b 0)), (3, .ref (b 1)), (4, .ref (b 2)), (5, .ref (b 3)), (6, .ref (b 4)), (7, .int (iZ 1)), (8, .int (iZ 12)), (9, .int (iZ 31)), (10, .int (iZ 0))] [] := by
  intro S F g hI hK hg
  obtain ⟨ho, hn, hm4, hM0, hG, hC⟩ := id hI
  refine VB_iload (q := 785) dL_law_783 7 rfl rfl ?_
  refine VB_if_eq (q := 788) (tgt := 968) dL_law_785 (by decide) (by decide) (fun hc => absurd hc (by decide)) (fun _ => ?_)
  refine VB_aload_n (q := 789) dL_law_788 1 rfl rfl ?_
  refine VB_aload_n (q := 790) dL_law_789 2 rfl rfl ?_
  refine VB_aload_n (q := 791) dL_law_790 3 rfl rfl ?_
  refine VB_aload (q := 793) dL_law_791 6 rfl rfl ?_
  refine VB_callU (q := 796) dL_law_793 (u_areThings (a := a) (c := c) (S := S) (b := b) (d := d) (F := F) hI hg) yv_L_areThings rfl gL_law_L_areThings xU_L rfl (Nat.le_of_ble_eq_true rfl) (by decide) ⟨by show _ ≤ 20000; omega, by show _ ≤ 130000; omega⟩ (fun x793 g793 hP793 hg793 => ?_)
  refine VB_lo (lo' := 116) (Nat.le_add_right _ _) ?_
  have J968 : ∀ (gj968 : Nat → Nat), (∀ j, gj968 j < 4096) → VB 116 RL cL_law 17 (some .boolean) wsL_law roomB (vXL s0 L xs) (tyl c d) (qF 123) (1886) (11316 + 1250) (wal a c S b d F gj968) 968 [(0, .ref (s0)), (1, .ref (a 0)), (2, .ref (b 0)), (3, .ref (b 1)), (4, .ref (b 2)), (5, .ref (b 3)), (6, .ref (b 4)), (7, .int (iZ 1)), (8, .int (iZ 12)), (9, .int (iZ 31)), (10, .int (iZ 0))] [] := by
    intro gj968 hgj968
    refine VB_iconst (q := 969) dL_law_968 rfl ?_
    refine VB_istore (q := 971) (lv' := [(0, _), (1, _), (2, _), (3, _), (4, _), (5, _), (6, _), (7, _), (8, _), (9, _), (10, _)]) dL_law_969 (by decide) rfl rfl ?_
    refine VB_iinc (q := 974) (y := 13) (lv' := [(0, _), (1, _), (2, _), (3, _), (4, _), (5, _), (6, _), (7, _), (8, _), (9, _), (10, _)]) dL_law_971 8 rfl (by omega) (by decide) rfl rfl ?_
    refine VB_goto (tgt := 64) dL_law_974 (by decide) ?_
    refine VB_iload (q := 66) dL_law_64 8 rfl rfl ?_
    refine VB_bipush (q := 68) dL_law_66 (by decide) rfl ?_
    refine VB_icmp_ge (q := 71) (tgt := 977) dL_law_68 (by decide) (by decide) (by decide) (fun hc => absurd hc (by decide)) (fun _ => ?_)
    refine VB_iload (q := 73) dL_law_71 7 rfl rfl ?_
    refine VB_if_eq (q := 76) (tgt := 977) dL_law_73 (by decide) (by decide) (fun _ => ?_) (fun hc => absurd hc (by decide))
    refine VB_iload (q := 979) dL_law_977 7 rfl rfl ?_
    exact VB_ret0 dL_law_979 rfl
  refine VB_uif_eq (q := 799) (tgt := 968) dL_law_796 (by decide) ?_ ?_
  · skip
    exact VB_widen (by omega) (by omega) (J968 g793 hg793)
  · skip
    refine VB_iload (q := 801) dL_law_799 8 rfl rfl ?_
    refine VB_iconst (q := 802) dL_law_801 rfl ?_
    refine VB_irem (q := 803) (a := 12) (b := 2) dL_law_802 (by omega) (by decide) (by decide) rfl ?_
    refine VB_top (y := iZ 0) rfl ?_
    refine VB_if_gt (q := 806) (tgt := 833) dL_law_803 (by decide) (by decide) (fun hc => absurd hc (by decide)) (fun _ => ?_)
    refine VB_aload_n (q := 807) dL_law_806 1 rfl rfl ?_
    refine VB_aload_n (q := 808) dL_law_807 2 rfl rfl ?_
    refine VB_aload_n (q := 809) dL_law_808 3 rfl rfl ?_
    refine VB_aload (q := 811) dL_law_809 4 rfl rfl ?_
    refine VB_aload (q := 813) dL_law_811 6 rfl rfl ?_
    refine VB_iload (q := 815) dL_law_813 10 rfl rfl ?_
    refine VB_bipush (q := 817) dL_law_815 (by decide) rfl ?_
    refine VB_irem (q := 818) (a := 0) (b := 31) dL_law_817 (by omega) (by decide) (by decide) rfl ?_
    refine VB_top (y := iZ 0) rfl ?_
    refine VB_iload (q := 820) dL_law_818 10 rfl rfl ?_
    refine VB_bipush (q := 822) dL_law_820 (by decide) rfl ?_
    refine VB_idiv (q := 823) (a := 0) (b := 31) dL_law_822 (by omega) (by decide) (by decide) rfl ?_
    refine VB_top (y := iZ 0) rfl ?_
    refine VB_sipush (q := 826) dL_law_823 (by decide) rfl ?_
    refine VB_irem (q := 827) (a := 0) (b := 256) dL_law_826 (by omega) (by decide) (by decide) rfl ?_
    refine VB_top (y := iZ 0) rfl ?_
    refine VB_callU (q := 830) dL_law_827 (u_areOutfits (a := a) (c := c) (S := S) (b := b) (d := d) (F := F) hI hg793) yv_L_areOutfits rfl gL_law_L_areOutfits xU_L rfl (Nat.le_of_ble_eq_true rfl) (by decide) ⟨by show _ ≤ 20000; omega, by show _ ≤ 130000; omega⟩ (fun x827 g827 hP827 hg827 => ?_)
    refine VB_lo (lo' := 116) (Nat.le_add_right _ _) ?_
    refine VB_uif_eq (q := 833) (tgt := 968) dL_law_830 (by decide) ?_ ?_
    · skip
      exact VB_widen (by omega) (by omega) (J968 g827 hg827)
    · skip
      refine VB_aload_n (q := 834) dL_law_833 1 rfl rfl ?_
      refine VB_aload_n (q := 835) dL_law_834 2 rfl rfl ?_
      refine VB_aload_n (q := 836) dL_law_835 3 rfl rfl ?_
      refine VB_aload (q := 838) dL_law_836 4 rfl rfl ?_
      refine VB_aload (q := 840) dL_law_838 6 rfl rfl ?_
      refine VB_callU (q := 843) dL_law_840 (u_isMissing (a := a) (c := c) (S := S) (b := b) (d := d) (F := F) hI hg827) yv_L_isMissing rfl gL_law_L_isMissing xU_L rfl (Nat.le_of_ble_eq_true rfl) (by decide) ⟨by show _ ≤ 20000; omega, by show _ ≤ 130000; omega⟩ (fun x840 g840 hP840 hg840 => ?_)
      refine VB_lo (lo' := 116) (Nat.le_add_right _ _) ?_
      refine VB_uif_eq (q := 846) (tgt := 968) dL_law_843 (by decide) ?_ ?_
      · skip
        exact VB_widen (by omega) (by omega) (J968 g840 hg840)
      · skip
        refine VB_aload_n (q := 847) dL_law_846 1 rfl rfl ?_
        refine VB_aload_n (q := 848) dL_law_847 2 rfl rfl ?_
        refine VB_aload (q := 850) dL_law_848 6 rfl rfl ?_
        refine VB_iload (q := 852) dL_law_850 10 rfl rfl ?_
        refine VB_aload (q := 854) dL_law_852 6 rfl rfl ?_
        refine VB_iconst (q := 855) dL_law_854 rfl ?_
        refine VB_iald (q := 856) (v := (iZ 4)) dL_law_855 13 12 rfl rfl (0) (by omega) (by omega) (by decide) (hM0) rfl ?_
        refine VB_iconst (q := 857) dL_law_856 rfl ?_
        refine VB_iadd (q := 858) dL_law_857 rfl ?_
        refine VB_top (y := iZ 5) rfl ?_
        refine VB_irem (q := 859) (a := 0) (b := 5) dL_law_858 (by omega) (by decide) (by decide) rfl ?_
        refine VB_top (y := iZ 0) rfl ?_
        refine VB_iload (q := 861) dL_law_859 10 rfl rfl ?_
        refine VB_bipush (q := 863) dL_law_861 (by decide) rfl ?_
        refine VB_idiv (q := 864) (a := 0) (b := 13) dL_law_863 (by omega) (by decide) (by decide) rfl ?_
        refine VB_top (y := iZ 0) rfl ?_
        refine VB_aload (q := 866) dL_law_864 6 rfl rfl ?_
        refine VB_iconst (q := 867) dL_law_866 rfl ?_
        refine VB_iald (q := 868) (v := (iZ 4)) dL_law_867 13 12 rfl rfl (0) (by omega) (by omega) (by decide) (hM0) rfl ?_
        refine VB_iconst (q := 869) dL_law_868 rfl ?_
        refine VB_iadd (q := 870) dL_law_869 rfl ?_
        refine VB_top (y := iZ 5) rfl ?_
        refine VB_irem (q := 871) (a := 0) (b := 5) dL_law_870 (by omega) (by decide) (by decide) rfl ?_
        refine VB_top (y := iZ 0) rfl ?_
        refine VB_iload (q := 873) dL_law_871 10 rfl rfl ?_
        refine VB_sipush (q := 876) dL_law_873 (by decide) rfl ?_
        refine VB_idiv (q := 877) (a := 0) (b := 169) dL_law_876 (by omega) (by decide) (by decide) rfl ?_
        refine VB_top (y := iZ 0) rfl ?_
        refine VB_aload (q := 879) dL_law_877 6 rfl rfl ?_
        refine VB_iconst (q := 880) dL_law_879 rfl ?_
        refine VB_iald (q := 881) (v := (iZ 4)) dL_law_880 13 12 rfl rfl (0) (by omega) (by omega) (by decide) (hM0) rfl ?_
        refine VB_iconst (q := 882) dL_law_881 rfl ?_
        refine VB_iadd (q := 883) dL_law_882 rfl ?_
        refine VB_top (y := iZ 6) rfl ?_
        refine VB_irem (q := 884) (a := 0) (b := 6) dL_law_883 (by omega) (by decide) (by decide) rfl ?_
        refine VB_top (y := iZ 0) rfl ?_
        refine VB_iconst (q := 885) dL_law_884 rfl ?_
        refine VB_isub (q := 886) dL_law_885 rfl ?_
        refine VB_top (y := iZ (-1)) rfl ?_
        refine VB_callU (q := 889) dL_law_886 (u_isWrong (a := a) (c := c) (S := S) (b := b) (d := d) (F := F) hI (wr0 hI (by decide) hK) hg840) yv_L_isWrong rfl gL_law_L_isWrong xU_L rfl (Nat.le_of_ble_eq_true rfl) (by decide) ⟨by show _ ≤ 20000; omega, by show _ ≤ 130000; omega⟩ (fun x886 g886 hP886 hg886 => ?_)
        refine VB_em (x := x886) (fun e886 => VB_lo (lo' := 116) (Nat.le_add_right _ _) (VB_top (y := iZ 0) e886 ?_)) (fun e886 => VB_lo (lo' := 118) (by show 118 ≤ 116 + (if x886 = 0 then 0 else 2); rw [if_neg e886]; omega) ?_)
        · skip
          refine VB_if_eq (q := 892) (tgt := 968) dL_law_889 (by decide) (by decide) (fun _ => ?_) (fun hc => absurd hc (by decide))
          exact VB_widen (by omega) (by omega) (J968 g886 hg886)
        · skip
          refine VB_uif_eq (q := 892) (tgt := 968) dL_law_889 (by decide) ?_ ?_
          · skip
            refine VB_lo (lo' := 116) (by omega) ?_
            exact VB_widen (by omega) (by omega) (J968 g886 hg886)
          · skip
            refine VB_iload (q := 894) dL_law_892 8 rfl rfl ?_
            refine VB_bipush (q := 896) dL_law_894 (by decide) rfl ?_
            refine VB_irem (q := 897) (a := 12) (b := 16) dL_law_896 (by omega) (by decide) (by decide) rfl ?_
            refine VB_top (y := iZ 12) rfl ?_
            refine VB_if_gt (q := 900) (tgt := 943) dL_law_897 (by decide) (by decide) (fun _ => ?_) (fun hc => absurd hc (by decide))
            refine VB_iload (q := 945) dL_law_943 8 rfl rfl ?_
            refine VB_bipush (q := 947) dL_law_945 (by decide) rfl ?_
            refine VB_irem (q := 948) (a := 12) (b := 20) dL_law_947 (by omega) (by decide) (by decide) rfl ?_
            refine VB_top (y := iZ 12) rfl ?_
            refine VB_if_gt (q := 951) (tgt := 964) dL_law_948 (by decide) (by decide) (fun _ => ?_) (fun hc => absurd hc (by decide))
            refine VB_iconst (q := 965) dL_law_964 rfl ?_
            refine VB_goto (tgt := 969) dL_law_965 (by decide) ?_
            refine VB_istore (q := 971) (lv' := [(0, _), (1, _), (2, _), (3, _), (4, _), (5, _), (6, _), (7, _), (8, _), (9, _), (10, _)]) dL_law_969 (by decide) rfl rfl ?_
            refine VB_iinc (q := 974) (y := 13) (lv' := [(0, _), (1, _), (2, _), (3, _), (4, _), (5, _), (6, _), (7, _), (8, _), (9, _), (10, _)]) dL_law_971 8 rfl (by omega) (by decide) rfl rfl ?_
            refine VB_goto (tgt := 64) dL_law_974 (by decide) ?_
            refine VB_loc (lv' := [(0, _), (1, _), (2, _), (3, _), (4, _), (5, _), (6, _), (7, _), (8, _)]) [0, 1, 2, 3, 4, 5, 6, 7, 8] rfl ?_
            refine VB_lo (lo' := 118) (by omega) ?_
            exact VB_widen (by omega) (by omega) (rd13 hL h16 hx S F g886 hI (fun _ => hK) hg886)
set_option maxRecDepth 100000 in
set_option maxHeartbeats 8000000 in
theorem rd12 {s0 L : Nat} {xs : Nat → Int32} {a : Nat → Nat} {c : Nat → ClassId} {b : Nat → Nat} {d : Nat → ClassId} (hL : L ≤ 260) (h16 : 80 ≤ L) (hx : ∀ j, j < 80 → xs j = 31) : ∀ (S : St) (F : Nat → Nat → Int32) (g : Nat → Nat), Iv S F 4 → (0 < 12 → sK S 0 = 0) → (∀ j, g j < 4096) → VB 116 RL cL_law 17 (some .boolean) wsL_law roomB (vXL s0 L xs) (tyl c d) (qF 123) (1666) (9996 + 1250) (wal a c S b d F g) 64 [(0, .ref (s0)), (1, .ref (a 0)), (2, .ref (b 0)), (3, .ref (b 1)), (4, .ref (b 2)), (5, .ref (b 3)), (6, .ref (b 4)), (7, .int (iZ 1)), (8, .int (iZ 12))] [] := by
  intro S F g hI hK hg
  obtain ⟨ho, hn, hm4, hM0, hG, hC⟩ := id hI
  refine VB_iload (q := 66) dL_law_64 8 rfl rfl ?_
  refine VB_bipush (q := 68) dL_law_66 (by decide) rfl ?_
  refine VB_icmp_ge (q := 71) (tgt := 977) dL_law_68 (by decide) (by decide) (by decide) (fun hc => absurd hc (by decide)) (fun _ => ?_)
  refine VB_iload (q := 73) dL_law_71 7 rfl rfl ?_
  refine VB_if_eq (q := 76) (tgt := 977) dL_law_73 (by decide) (by decide) (fun hc => absurd hc (by decide)) (fun _ => ?_)
  refine VB_aload_n (q := 77) dL_law_76 0 rfl rfl ?_
  refine VB_iload (q := 79) dL_law_77 8 rfl rfl ?_
  refine VB_callD (q := 82) dL_law_79 (u_dice (b := s0) (L := L) (xs := xs) 12 (by omega) hL (hx 12 (by omega))) yv_L_dice rfl gL_law_L_dice xL_s rfl (Nat.le_of_ble_eq_true rfl) (by decide) ⟨by show _ ≤ 20000; omega, by show _ ≤ 130000; omega⟩ ?_
  refine VB_istore (q := 84) (lv' := [(0, _), (1, _), (2, _), (3, _), (4, _), (5, _), (6, _), (7, _), (8, _), (9, _)]) dL_law_82 (by decide) rfl rfl ?_
  refine VB_iload (q := 86) dL_law_84 9 rfl rfl ?_
  refine VB_bipush (q := 88) dL_law_86 (by decide) rfl ?_
  refine VB_idiv (q := 89) (a := 31) (b := 32) dL_law_88 (by omega) (by decide) (by decide) rfl ?_
  refine VB_top (y := iZ 0) rfl ?_
  refine VB_istore (q := 91) (lv' := [(0, _), (1, _), (2, _), (3, _), (4, _), (5, _), (6, _), (7, _), (8, _), (9, _), (10, _)]) dL_law_89 (by decide) rfl rfl ?_
  refine VB_iload (q := 93) dL_law_91 9 rfl rfl ?_
  refine VB_bipush (q := 95) dL_law_93 (by decide) rfl ?_
  refine VB_irem (q := 96) (a := 31) (b := 32) dL_law_95 (by omega) (by decide) (by decide) rfl ?_
  refine VB_top (y := iZ 31) rfl ?_
  refine VB_istore (q := 98) (lv' := [(0, _), (1, _), (2, _), (3, _), (4, _), (5, _), (6, _), (7, _), (8, _), (9, _), (10, _), (11, _)]) dL_law_96 (by decide) rfl rfl ?_
  refine VB_aload (q := 100) dL_law_98 6 rfl rfl ?_
  refine VB_iconst (q := 101) dL_law_100 rfl ?_
  refine VB_iald (q := 102) (v := (iZ 4)) dL_law_101 13 12 rfl rfl (0) (by omega) (by omega) (by decide) (hM0) rfl ?_
  refine VB_if_ne (q := 105) (tgt := 109) dL_law_102 (by decide) (by decide) (fun _ => ?_) (fun hc => absurd hc (by decide))
  refine VB_iload (q := 111) dL_law_109 10 rfl rfl ?_
  refine VB_aload (q := 113) dL_law_111 6 rfl rfl ?_
  refine VB_iconst (q := 114) dL_law_113 rfl ?_
  refine VB_iald (q := 115) (v := (iZ 4)) dL_law_114 13 12 rfl rfl (0) (by omega) (by omega) (by decide) (hM0) rfl ?_
  refine VB_irem (q := 116) (a := 0) (b := 4) dL_law_115 (by omega) (by decide) (by decide) rfl ?_
  refine VB_top (y := iZ 0) rfl ?_
  refine VB_istore (q := 118) (lv' := [(0, _), (1, _), (2, _), (3, _), (4, _), (5, _), (6, _), (7, _), (8, _), (9, _), (10, _), (11, _), (12, _)]) dL_law_116 (by decide) rfl rfl ?_
  refine VB_aload (q := 120) dL_law_118 6 rfl rfl ?_
  refine VB_iconst (q := 121) dL_law_120 rfl ?_
  refine VB_iald (q := 122) (v := (iZ 4)) dL_law_121 13 12 rfl rfl (0) (by omega) (by omega) (by decide) (hM0) rfl ?_
  refine VB_iconst (q := 123) dL_law_122 rfl ?_
  refine VB_icmp_lt (q := 126) (tgt := 141) dL_law_123 (by decide) (by decide) (by decide) (fun hc => absurd hc (by decide)) (fun _ => ?_)
  refine VB_iload (q := 128) dL_law_126 11 rfl rfl ?_
  refine VB_iconst (q := 129) dL_law_128 rfl ?_
  refine VB_icmp_ge (q := 132) (tgt := 326) dL_law_129 (by decide) (by decide) (by decide) (fun _ => ?_) (fun hc => absurd hc (by decide))
  refine VB_iload (q := 328) dL_law_326 11 rfl rfl ?_
  refine VB_bipush (q := 330) dL_law_328 (by decide) rfl ?_
  refine VB_icmp_ge (q := 333) (tgt := 451) dL_law_330 (by decide) (by decide) (by decide) (fun _ => ?_) (fun hc => absurd hc (by decide))
  refine VB_iload (q := 453) dL_law_451 11 rfl rfl ?_
  refine VB_bipush (q := 455) dL_law_453 (by decide) rfl ?_
  refine VB_icmp_ge (q := 458) (tgt := 603) dL_law_455 (by decide) (by decide) (by decide) (fun _ => ?_) (fun hc => absurd hc (by decide))
  refine VB_iload (q := 605) dL_law_603 11 rfl rfl ?_
  refine VB_bipush (q := 607) dL_law_605 (by decide) rfl ?_
  refine VB_icmp_ge (q := 610) (tgt := 633) dL_law_607 (by decide) (by decide) (by decide) (fun _ => ?_) (fun hc => absurd hc (by decide))
  refine VB_iload (q := 635) dL_law_633 11 rfl rfl ?_
  refine VB_bipush (q := 637) dL_law_635 (by decide) rfl ?_
  refine VB_icmp_ge (q := 640) (tgt := 677) dL_law_637 (by decide) (by decide) (by decide) (fun _ => ?_) (fun hc => absurd hc (by decide))
  refine VB_iload (q := 679) dL_law_677 11 rfl rfl ?_
  refine VB_bipush (q := 681) dL_law_679 (by decide) rfl ?_
  refine VB_icmp_ne (q := 684) (tgt := 783) dL_law_681 (by decide) (by decide) (by decide) (fun _ => ?_) (fun hc => absurd hc (by decide))
  refine VB_loc (lv' := [(0, _), (1, _), (2, _), (3, _), (4, _), (5, _), (6, _), (7, _), (8, _), (9, _), (10, _)]) [0, 1, 2, 3, 4, 5, 6, 7, 8, 9, 10] rfl ?_
  exact VB_widen (by omega) (by omega) (ck12 hL h16 hx S F g hI (hK (by decide)) hg)
set_option maxRecDepth 100000 in
set_option maxHeartbeats 8000000 in
theorem ck11 {s0 L : Nat} {xs : Nat → Int32} {a : Nat → Nat} {c : Nat → ClassId} {b : Nat → Nat} {d : Nat → ClassId} (hL : L ≤ 260) (h16 : 80 ≤ L) (hx : ∀ j, j < 80 → xs j = 31) : ∀ (S : St) (F : Nat → Nat → Int32) (g : Nat → Nat), Iv S F 4 → sK S 0 = 0 → (∀ j, g j < 4096) → VB 114 RL cL_law 17 (some .boolean) wsL_law roomB (vXL s0 L xs) (tyl c d) (qF 123) (1646) (9876 + 1250) (wal a c S b d F g) 783 [(0, .ref (s0)), (1, .ref (a 0)), (2, .ref (b 0)), (3, .ref (b 1)), (4, .ref (b 2)), (5, .ref (b 3)), (6, .ref (b 4)), (7, .int (iZ 1)), (8, .int (iZ 11)), (9, .int (iZ 31)), (10, .int (iZ 0))] [] := by
  intro S F g hI hK hg
  obtain ⟨ho, hn, hm4, hM0, hG, hC⟩ := id hI
  refine VB_iload (q := 785) dL_law_783 7 rfl rfl ?_
  refine VB_if_eq (q := 788) (tgt := 968) dL_law_785 (by decide) (by decide) (fun hc => absurd hc (by decide)) (fun _ => ?_)
  refine VB_aload_n (q := 789) dL_law_788 1 rfl rfl ?_
  refine VB_aload_n (q := 790) dL_law_789 2 rfl rfl ?_
  refine VB_aload_n (q := 791) dL_law_790 3 rfl rfl ?_
  refine VB_aload (q := 793) dL_law_791 6 rfl rfl ?_
  refine VB_callU (q := 796) dL_law_793 (u_areThings (a := a) (c := c) (S := S) (b := b) (d := d) (F := F) hI hg) yv_L_areThings rfl gL_law_L_areThings xU_L rfl (Nat.le_of_ble_eq_true rfl) (by decide) ⟨by show _ ≤ 20000; omega, by show _ ≤ 130000; omega⟩ (fun x793 g793 hP793 hg793 => ?_)
  refine VB_lo (lo' := 114) (Nat.le_add_right _ _) ?_
  have J968 : ∀ (gj968 : Nat → Nat), (∀ j, gj968 j < 4096) → VB 114 RL cL_law 17 (some .boolean) wsL_law roomB (vXL s0 L xs) (tyl c d) (qF 123) (1666) (9996 + 1250) (wal a c S b d F gj968) 968 [(0, .ref (s0)), (1, .ref (a 0)), (2, .ref (b 0)), (3, .ref (b 1)), (4, .ref (b 2)), (5, .ref (b 3)), (6, .ref (b 4)), (7, .int (iZ 1)), (8, .int (iZ 11)), (9, .int (iZ 31)), (10, .int (iZ 0))] [] := by
    intro gj968 hgj968
    refine VB_iconst (q := 969) dL_law_968 rfl ?_
    refine VB_istore (q := 971) (lv' := [(0, _), (1, _), (2, _), (3, _), (4, _), (5, _), (6, _), (7, _), (8, _), (9, _), (10, _)]) dL_law_969 (by decide) rfl rfl ?_
    refine VB_iinc (q := 974) (y := 12) (lv' := [(0, _), (1, _), (2, _), (3, _), (4, _), (5, _), (6, _), (7, _), (8, _), (9, _), (10, _)]) dL_law_971 8 rfl (by omega) (by decide) rfl rfl ?_
    refine VB_goto (tgt := 64) dL_law_974 (by decide) ?_
    refine VB_iload (q := 66) dL_law_64 8 rfl rfl ?_
    refine VB_bipush (q := 68) dL_law_66 (by decide) rfl ?_
    refine VB_icmp_ge (q := 71) (tgt := 977) dL_law_68 (by decide) (by decide) (by decide) (fun hc => absurd hc (by decide)) (fun _ => ?_)
    refine VB_iload (q := 73) dL_law_71 7 rfl rfl ?_
    refine VB_if_eq (q := 76) (tgt := 977) dL_law_73 (by decide) (by decide) (fun _ => ?_) (fun hc => absurd hc (by decide))
    refine VB_iload (q := 979) dL_law_977 7 rfl rfl ?_
    exact VB_ret0 dL_law_979 rfl
  refine VB_uif_eq (q := 799) (tgt := 968) dL_law_796 (by decide) ?_ ?_
  · skip
    exact VB_widen (by omega) (by omega) (J968 g793 hg793)
  · skip
    refine VB_iload (q := 801) dL_law_799 8 rfl rfl ?_
    refine VB_iconst (q := 802) dL_law_801 rfl ?_
    refine VB_irem (q := 803) (a := 11) (b := 2) dL_law_802 (by omega) (by decide) (by decide) rfl ?_
    refine VB_top (y := iZ 1) rfl ?_
    refine VB_if_gt (q := 806) (tgt := 833) dL_law_803 (by decide) (by decide) (fun _ => ?_) (fun hc => absurd hc (by decide))
    refine VB_aload_n (q := 834) dL_law_833 1 rfl rfl ?_
    refine VB_aload_n (q := 835) dL_law_834 2 rfl rfl ?_
    refine VB_aload_n (q := 836) dL_law_835 3 rfl rfl ?_
    refine VB_aload (q := 838) dL_law_836 4 rfl rfl ?_
    refine VB_aload (q := 840) dL_law_838 6 rfl rfl ?_
    refine VB_callU (q := 843) dL_law_840 (u_isMissing (a := a) (c := c) (S := S) (b := b) (d := d) (F := F) hI hg793) yv_L_isMissing rfl gL_law_L_isMissing xU_L rfl (Nat.le_of_ble_eq_true rfl) (by decide) ⟨by show _ ≤ 20000; omega, by show _ ≤ 130000; omega⟩ (fun x840 g840 hP840 hg840 => ?_)
    refine VB_lo (lo' := 114) (Nat.le_add_right _ _) ?_
    refine VB_uif_eq (q := 846) (tgt := 968) dL_law_843 (by decide) ?_ ?_
    · skip
      exact VB_widen (by omega) (by omega) (J968 g840 hg840)
    · skip
      refine VB_aload_n (q := 847) dL_law_846 1 rfl rfl ?_
      refine VB_aload_n (q := 848) dL_law_847 2 rfl rfl ?_
      refine VB_aload (q := 850) dL_law_848 6 rfl rfl ?_
      refine VB_iload (q := 852) dL_law_850 10 rfl rfl ?_
      refine VB_aload (q := 854) dL_law_852 6 rfl rfl ?_
      refine VB_iconst (q := 855) dL_law_854 rfl ?_
      refine VB_iald (q := 856) (v := (iZ 4)) dL_law_855 13 12 rfl rfl (0) (by omega) (by omega) (by decide) (hM0) rfl ?_
      refine VB_iconst (q := 857) dL_law_856 rfl ?_
      refine VB_iadd (q := 858) dL_law_857 rfl ?_
      refine VB_top (y := iZ 5) rfl ?_
      refine VB_irem (q := 859) (a := 0) (b := 5) dL_law_858 (by omega) (by decide) (by decide) rfl ?_
      refine VB_top (y := iZ 0) rfl ?_
      refine VB_iload (q := 861) dL_law_859 10 rfl rfl ?_
      refine VB_bipush (q := 863) dL_law_861 (by decide) rfl ?_
      refine VB_idiv (q := 864) (a := 0) (b := 13) dL_law_863 (by omega) (by decide) (by decide) rfl ?_
      refine VB_top (y := iZ 0) rfl ?_
      refine VB_aload (q := 866) dL_law_864 6 rfl rfl ?_
      refine VB_iconst (q := 867) dL_law_866 rfl ?_
      refine VB_iald (q := 868) (v := (iZ 4)) dL_law_867 13 12 rfl rfl (0) (by omega) (by omega) (by decide) (hM0) rfl ?_
      refine VB_iconst (q := 869) dL_law_868 rfl ?_
      refine VB_iadd (q := 870) dL_law_869 rfl ?_
      refine VB_top (y := iZ 5) rfl ?_
      refine VB_irem (q := 871) (a := 0) (b := 5) dL_law_870 (by omega) (by decide) (by decide) rfl ?_
      refine VB_top (y := iZ 0) rfl ?_
      refine VB_iload (q := 873) dL_law_871 10 rfl rfl ?_
      refine VB_sipush (q := 876) dL_law_873 (by decide) rfl ?_
      refine VB_idiv (q := 877) (a := 0) (b := 169) dL_law_876 (by omega) (by decide) (by decide) rfl ?_
      refine VB_top (y := iZ 0) rfl ?_
      refine VB_aload (q := 879) dL_law_877 6 rfl rfl ?_
      refine VB_iconst (q := 880) dL_law_879 rfl ?_
      refine VB_iald (q := 881) (v := (iZ 4)) dL_law_880 13 12 rfl rfl (0) (by omega) (by omega) (by decide) (hM0) rfl ?_
      refine VB_iconst (q := 882) dL_law_881 rfl ?_
      refine VB_iadd (q := 883) dL_law_882 rfl ?_
      refine VB_top (y := iZ 6) rfl ?_
      refine VB_irem (q := 884) (a := 0) (b := 6) dL_law_883 (by omega) (by decide) (by decide) rfl ?_
      refine VB_top (y := iZ 0) rfl ?_
      refine VB_iconst (q := 885) dL_law_884 rfl ?_
      refine VB_isub (q := 886) dL_law_885 rfl ?_
      refine VB_top (y := iZ (-1)) rfl ?_
      refine VB_callU (q := 889) dL_law_886 (u_isWrong (a := a) (c := c) (S := S) (b := b) (d := d) (F := F) hI (wr0 hI (by decide) hK) hg840) yv_L_isWrong rfl gL_law_L_isWrong xU_L rfl (Nat.le_of_ble_eq_true rfl) (by decide) ⟨by show _ ≤ 20000; omega, by show _ ≤ 130000; omega⟩ (fun x886 g886 hP886 hg886 => ?_)
      refine VB_em (x := x886) (fun e886 => VB_lo (lo' := 114) (Nat.le_add_right _ _) (VB_top (y := iZ 0) e886 ?_)) (fun e886 => VB_lo (lo' := 116) (by show 116 ≤ 114 + (if x886 = 0 then 0 else 2); rw [if_neg e886]; omega) ?_)
      · skip
        refine VB_if_eq (q := 892) (tgt := 968) dL_law_889 (by decide) (by decide) (fun _ => ?_) (fun hc => absurd hc (by decide))
        exact VB_widen (by omega) (by omega) (J968 g886 hg886)
      · skip
        refine VB_uif_eq (q := 892) (tgt := 968) dL_law_889 (by decide) ?_ ?_
        · skip
          refine VB_lo (lo' := 114) (by omega) ?_
          exact VB_widen (by omega) (by omega) (J968 g886 hg886)
        · skip
          refine VB_iload (q := 894) dL_law_892 8 rfl rfl ?_
          refine VB_bipush (q := 896) dL_law_894 (by decide) rfl ?_
          refine VB_irem (q := 897) (a := 11) (b := 16) dL_law_896 (by omega) (by decide) (by decide) rfl ?_
          refine VB_top (y := iZ 11) rfl ?_
          refine VB_if_gt (q := 900) (tgt := 943) dL_law_897 (by decide) (by decide) (fun _ => ?_) (fun hc => absurd hc (by decide))
          refine VB_iload (q := 945) dL_law_943 8 rfl rfl ?_
          refine VB_bipush (q := 947) dL_law_945 (by decide) rfl ?_
          refine VB_irem (q := 948) (a := 11) (b := 20) dL_law_947 (by omega) (by decide) (by decide) rfl ?_
          refine VB_top (y := iZ 11) rfl ?_
          refine VB_if_gt (q := 951) (tgt := 964) dL_law_948 (by decide) (by decide) (fun _ => ?_) (fun hc => absurd hc (by decide))
          refine VB_iconst (q := 965) dL_law_964 rfl ?_
          refine VB_goto (tgt := 969) dL_law_965 (by decide) ?_
          refine VB_istore (q := 971) (lv' := [(0, _), (1, _), (2, _), (3, _), (4, _), (5, _), (6, _), (7, _), (8, _), (9, _), (10, _)]) dL_law_969 (by decide) rfl rfl ?_
          refine VB_iinc (q := 974) (y := 12) (lv' := [(0, _), (1, _), (2, _), (3, _), (4, _), (5, _), (6, _), (7, _), (8, _), (9, _), (10, _)]) dL_law_971 8 rfl (by omega) (by decide) rfl rfl ?_
          refine VB_goto (tgt := 64) dL_law_974 (by decide) ?_
          refine VB_loc (lv' := [(0, _), (1, _), (2, _), (3, _), (4, _), (5, _), (6, _), (7, _), (8, _)]) [0, 1, 2, 3, 4, 5, 6, 7, 8] rfl ?_
          refine VB_lo (lo' := 116) (by omega) ?_
          exact VB_widen (by omega) (by omega) (rd12 hL h16 hx S F g886 hI (fun _ => hK) hg886)
set_option maxRecDepth 100000 in
set_option maxHeartbeats 8000000 in
theorem rd11 {s0 L : Nat} {xs : Nat → Int32} {a : Nat → Nat} {c : Nat → ClassId} {b : Nat → Nat} {d : Nat → ClassId} (hL : L ≤ 260) (h16 : 80 ≤ L) (hx : ∀ j, j < 80 → xs j = 31) : ∀ (S : St) (F : Nat → Nat → Int32) (g : Nat → Nat), Iv S F 4 → (0 < 11 → sK S 0 = 0) → (∀ j, g j < 4096) → VB 114 RL cL_law 17 (some .boolean) wsL_law roomB (vXL s0 L xs) (tyl c d) (qF 123) (1646) (9876 + 1250) (wal a c S b d F g) 64 [(0, .ref (s0)), (1, .ref (a 0)), (2, .ref (b 0)), (3, .ref (b 1)), (4, .ref (b 2)), (5, .ref (b 3)), (6, .ref (b 4)), (7, .int (iZ 1)), (8, .int (iZ 11))] [] := by
  intro S F g hI hK hg
  obtain ⟨ho, hn, hm4, hM0, hG, hC⟩ := id hI
  refine VB_iload (q := 66) dL_law_64 8 rfl rfl ?_
  refine VB_bipush (q := 68) dL_law_66 (by decide) rfl ?_
  refine VB_icmp_ge (q := 71) (tgt := 977) dL_law_68 (by decide) (by decide) (by decide) (fun hc => absurd hc (by decide)) (fun _ => ?_)
  refine VB_iload (q := 73) dL_law_71 7 rfl rfl ?_
  refine VB_if_eq (q := 76) (tgt := 977) dL_law_73 (by decide) (by decide) (fun hc => absurd hc (by decide)) (fun _ => ?_)
  refine VB_aload_n (q := 77) dL_law_76 0 rfl rfl ?_
  refine VB_iload (q := 79) dL_law_77 8 rfl rfl ?_
  refine VB_callD (q := 82) dL_law_79 (u_dice (b := s0) (L := L) (xs := xs) 11 (by omega) hL (hx 11 (by omega))) yv_L_dice rfl gL_law_L_dice xL_s rfl (Nat.le_of_ble_eq_true rfl) (by decide) ⟨by show _ ≤ 20000; omega, by show _ ≤ 130000; omega⟩ ?_
  refine VB_istore (q := 84) (lv' := [(0, _), (1, _), (2, _), (3, _), (4, _), (5, _), (6, _), (7, _), (8, _), (9, _)]) dL_law_82 (by decide) rfl rfl ?_
  refine VB_iload (q := 86) dL_law_84 9 rfl rfl ?_
  refine VB_bipush (q := 88) dL_law_86 (by decide) rfl ?_
  refine VB_idiv (q := 89) (a := 31) (b := 32) dL_law_88 (by omega) (by decide) (by decide) rfl ?_
  refine VB_top (y := iZ 0) rfl ?_
  refine VB_istore (q := 91) (lv' := [(0, _), (1, _), (2, _), (3, _), (4, _), (5, _), (6, _), (7, _), (8, _), (9, _), (10, _)]) dL_law_89 (by decide) rfl rfl ?_
  refine VB_iload (q := 93) dL_law_91 9 rfl rfl ?_
  refine VB_bipush (q := 95) dL_law_93 (by decide) rfl ?_
  refine VB_irem (q := 96) (a := 31) (b := 32) dL_law_95 (by omega) (by decide) (by decide) rfl ?_
  refine VB_top (y := iZ 31) rfl ?_
  refine VB_istore (q := 98) (lv' := [(0, _), (1, _), (2, _), (3, _), (4, _), (5, _), (6, _), (7, _), (8, _), (9, _), (10, _), (11, _)]) dL_law_96 (by decide) rfl rfl ?_
  refine VB_aload (q := 100) dL_law_98 6 rfl rfl ?_
  refine VB_iconst (q := 101) dL_law_100 rfl ?_
  refine VB_iald (q := 102) (v := (iZ 4)) dL_law_101 13 12 rfl rfl (0) (by omega) (by omega) (by decide) (hM0) rfl ?_
  refine VB_if_ne (q := 105) (tgt := 109) dL_law_102 (by decide) (by decide) (fun _ => ?_) (fun hc => absurd hc (by decide))
  refine VB_iload (q := 111) dL_law_109 10 rfl rfl ?_
  refine VB_aload (q := 113) dL_law_111 6 rfl rfl ?_
  refine VB_iconst (q := 114) dL_law_113 rfl ?_
  refine VB_iald (q := 115) (v := (iZ 4)) dL_law_114 13 12 rfl rfl (0) (by omega) (by omega) (by decide) (hM0) rfl ?_
  refine VB_irem (q := 116) (a := 0) (b := 4) dL_law_115 (by omega) (by decide) (by decide) rfl ?_
  refine VB_top (y := iZ 0) rfl ?_
  refine VB_istore (q := 118) (lv' := [(0, _), (1, _), (2, _), (3, _), (4, _), (5, _), (6, _), (7, _), (8, _), (9, _), (10, _), (11, _), (12, _)]) dL_law_116 (by decide) rfl rfl ?_
  refine VB_aload (q := 120) dL_law_118 6 rfl rfl ?_
  refine VB_iconst (q := 121) dL_law_120 rfl ?_
  refine VB_iald (q := 122) (v := (iZ 4)) dL_law_121 13 12 rfl rfl (0) (by omega) (by omega) (by decide) (hM0) rfl ?_
  refine VB_iconst (q := 123) dL_law_122 rfl ?_
  refine VB_icmp_lt (q := 126) (tgt := 141) dL_law_123 (by decide) (by decide) (by decide) (fun hc => absurd hc (by decide)) (fun _ => ?_)
  refine VB_iload (q := 128) dL_law_126 11 rfl rfl ?_
  refine VB_iconst (q := 129) dL_law_128 rfl ?_
  refine VB_icmp_ge (q := 132) (tgt := 326) dL_law_129 (by decide) (by decide) (by decide) (fun _ => ?_) (fun hc => absurd hc (by decide))
  refine VB_iload (q := 328) dL_law_326 11 rfl rfl ?_
  refine VB_bipush (q := 330) dL_law_328 (by decide) rfl ?_
  refine VB_icmp_ge (q := 333) (tgt := 451) dL_law_330 (by decide) (by decide) (by decide) (fun _ => ?_) (fun hc => absurd hc (by decide))
  refine VB_iload (q := 453) dL_law_451 11 rfl rfl ?_
  refine VB_bipush (q := 455) dL_law_453 (by decide) rfl ?_
  refine VB_icmp_ge (q := 458) (tgt := 603) dL_law_455 (by decide) (by decide) (by decide) (fun _ => ?_) (fun hc => absurd hc (by decide))
  refine VB_iload (q := 605) dL_law_603 11 rfl rfl ?_
  refine VB_bipush (q := 607) dL_law_605 (by decide) rfl ?_
  refine VB_icmp_ge (q := 610) (tgt := 633) dL_law_607 (by decide) (by decide) (by decide) (fun _ => ?_) (fun hc => absurd hc (by decide))
  refine VB_iload (q := 635) dL_law_633 11 rfl rfl ?_
  refine VB_bipush (q := 637) dL_law_635 (by decide) rfl ?_
  refine VB_icmp_ge (q := 640) (tgt := 677) dL_law_637 (by decide) (by decide) (by decide) (fun _ => ?_) (fun hc => absurd hc (by decide))
  refine VB_iload (q := 679) dL_law_677 11 rfl rfl ?_
  refine VB_bipush (q := 681) dL_law_679 (by decide) rfl ?_
  refine VB_icmp_ne (q := 684) (tgt := 783) dL_law_681 (by decide) (by decide) (by decide) (fun _ => ?_) (fun hc => absurd hc (by decide))
  refine VB_loc (lv' := [(0, _), (1, _), (2, _), (3, _), (4, _), (5, _), (6, _), (7, _), (8, _), (9, _), (10, _)]) [0, 1, 2, 3, 4, 5, 6, 7, 8, 9, 10] rfl ?_
  exact VB_widen (by omega) (by omega) (ck11 hL h16 hx S F g hI (hK (by decide)) hg)
set_option maxRecDepth 100000 in
set_option maxHeartbeats 8000000 in
theorem ck10 {s0 L : Nat} {xs : Nat → Int32} {a : Nat → Nat} {c : Nat → ClassId} {b : Nat → Nat} {d : Nat → ClassId} (hL : L ≤ 260) (h16 : 80 ≤ L) (hx : ∀ j, j < 80 → xs j = 31) : ∀ (S : St) (F : Nat → Nat → Int32) (g : Nat → Nat), Iv S F 4 → sK S 0 = 0 → (∀ j, g j < 4096) → VB 112 RL cL_law 17 (some .boolean) wsL_law roomB (vXL s0 L xs) (tyl c d) (qF 123) (1426) (8556 + 1250) (wal a c S b d F g) 783 [(0, .ref (s0)), (1, .ref (a 0)), (2, .ref (b 0)), (3, .ref (b 1)), (4, .ref (b 2)), (5, .ref (b 3)), (6, .ref (b 4)), (7, .int (iZ 1)), (8, .int (iZ 10)), (9, .int (iZ 31)), (10, .int (iZ 0))] [] := by
  intro S F g hI hK hg
  obtain ⟨ho, hn, hm4, hM0, hG, hC⟩ := id hI
  refine VB_iload (q := 785) dL_law_783 7 rfl rfl ?_
  refine VB_if_eq (q := 788) (tgt := 968) dL_law_785 (by decide) (by decide) (fun hc => absurd hc (by decide)) (fun _ => ?_)
  refine VB_aload_n (q := 789) dL_law_788 1 rfl rfl ?_
  refine VB_aload_n (q := 790) dL_law_789 2 rfl rfl ?_
  refine VB_aload_n (q := 791) dL_law_790 3 rfl rfl ?_
  refine VB_aload (q := 793) dL_law_791 6 rfl rfl ?_
  refine VB_callU (q := 796) dL_law_793 (u_areThings (a := a) (c := c) (S := S) (b := b) (d := d) (F := F) hI hg) yv_L_areThings rfl gL_law_L_areThings xU_L rfl (Nat.le_of_ble_eq_true rfl) (by decide) ⟨by show _ ≤ 20000; omega, by show _ ≤ 130000; omega⟩ (fun x793 g793 hP793 hg793 => ?_)
  refine VB_lo (lo' := 112) (Nat.le_add_right _ _) ?_
  have J968 : ∀ (gj968 : Nat → Nat), (∀ j, gj968 j < 4096) → VB 112 RL cL_law 17 (some .boolean) wsL_law roomB (vXL s0 L xs) (tyl c d) (qF 123) (1646) (9876 + 1250) (wal a c S b d F gj968) 968 [(0, .ref (s0)), (1, .ref (a 0)), (2, .ref (b 0)), (3, .ref (b 1)), (4, .ref (b 2)), (5, .ref (b 3)), (6, .ref (b 4)), (7, .int (iZ 1)), (8, .int (iZ 10)), (9, .int (iZ 31)), (10, .int (iZ 0))] [] := by
    intro gj968 hgj968
    refine VB_iconst (q := 969) dL_law_968 rfl ?_
    refine VB_istore (q := 971) (lv' := [(0, _), (1, _), (2, _), (3, _), (4, _), (5, _), (6, _), (7, _), (8, _), (9, _), (10, _)]) dL_law_969 (by decide) rfl rfl ?_
    refine VB_iinc (q := 974) (y := 11) (lv' := [(0, _), (1, _), (2, _), (3, _), (4, _), (5, _), (6, _), (7, _), (8, _), (9, _), (10, _)]) dL_law_971 8 rfl (by omega) (by decide) rfl rfl ?_
    refine VB_goto (tgt := 64) dL_law_974 (by decide) ?_
    refine VB_iload (q := 66) dL_law_64 8 rfl rfl ?_
    refine VB_bipush (q := 68) dL_law_66 (by decide) rfl ?_
    refine VB_icmp_ge (q := 71) (tgt := 977) dL_law_68 (by decide) (by decide) (by decide) (fun hc => absurd hc (by decide)) (fun _ => ?_)
    refine VB_iload (q := 73) dL_law_71 7 rfl rfl ?_
    refine VB_if_eq (q := 76) (tgt := 977) dL_law_73 (by decide) (by decide) (fun _ => ?_) (fun hc => absurd hc (by decide))
    refine VB_iload (q := 979) dL_law_977 7 rfl rfl ?_
    exact VB_ret0 dL_law_979 rfl
  refine VB_uif_eq (q := 799) (tgt := 968) dL_law_796 (by decide) ?_ ?_
  · skip
    exact VB_widen (by omega) (by omega) (J968 g793 hg793)
  · skip
    refine VB_iload (q := 801) dL_law_799 8 rfl rfl ?_
    refine VB_iconst (q := 802) dL_law_801 rfl ?_
    refine VB_irem (q := 803) (a := 10) (b := 2) dL_law_802 (by omega) (by decide) (by decide) rfl ?_
    refine VB_top (y := iZ 0) rfl ?_
    refine VB_if_gt (q := 806) (tgt := 833) dL_law_803 (by decide) (by decide) (fun hc => absurd hc (by decide)) (fun _ => ?_)
    refine VB_aload_n (q := 807) dL_law_806 1 rfl rfl ?_
    refine VB_aload_n (q := 808) dL_law_807 2 rfl rfl ?_
    refine VB_aload_n (q := 809) dL_law_808 3 rfl rfl ?_
    refine VB_aload (q := 811) dL_law_809 4 rfl rfl ?_
    refine VB_aload (q := 813) dL_law_811 6 rfl rfl ?_
    refine VB_iload (q := 815) dL_law_813 10 rfl rfl ?_
    refine VB_bipush (q := 817) dL_law_815 (by decide) rfl ?_
    refine VB_irem (q := 818) (a := 0) (b := 31) dL_law_817 (by omega) (by decide) (by decide) rfl ?_
    refine VB_top (y := iZ 0) rfl ?_
    refine VB_iload (q := 820) dL_law_818 10 rfl rfl ?_
    refine VB_bipush (q := 822) dL_law_820 (by decide) rfl ?_
    refine VB_idiv (q := 823) (a := 0) (b := 31) dL_law_822 (by omega) (by decide) (by decide) rfl ?_
    refine VB_top (y := iZ 0) rfl ?_
    refine VB_sipush (q := 826) dL_law_823 (by decide) rfl ?_
    refine VB_irem (q := 827) (a := 0) (b := 256) dL_law_826 (by omega) (by decide) (by decide) rfl ?_
    refine VB_top (y := iZ 0) rfl ?_
    refine VB_callU (q := 830) dL_law_827 (u_areOutfits (a := a) (c := c) (S := S) (b := b) (d := d) (F := F) hI hg793) yv_L_areOutfits rfl gL_law_L_areOutfits xU_L rfl (Nat.le_of_ble_eq_true rfl) (by decide) ⟨by show _ ≤ 20000; omega, by show _ ≤ 130000; omega⟩ (fun x827 g827 hP827 hg827 => ?_)
    refine VB_lo (lo' := 112) (Nat.le_add_right _ _) ?_
    refine VB_uif_eq (q := 833) (tgt := 968) dL_law_830 (by decide) ?_ ?_
    · skip
      exact VB_widen (by omega) (by omega) (J968 g827 hg827)
    · skip
      refine VB_aload_n (q := 834) dL_law_833 1 rfl rfl ?_
      refine VB_aload_n (q := 835) dL_law_834 2 rfl rfl ?_
      refine VB_aload_n (q := 836) dL_law_835 3 rfl rfl ?_
      refine VB_aload (q := 838) dL_law_836 4 rfl rfl ?_
      refine VB_aload (q := 840) dL_law_838 6 rfl rfl ?_
      refine VB_callU (q := 843) dL_law_840 (u_isMissing (a := a) (c := c) (S := S) (b := b) (d := d) (F := F) hI hg827) yv_L_isMissing rfl gL_law_L_isMissing xU_L rfl (Nat.le_of_ble_eq_true rfl) (by decide) ⟨by show _ ≤ 20000; omega, by show _ ≤ 130000; omega⟩ (fun x840 g840 hP840 hg840 => ?_)
      refine VB_lo (lo' := 112) (Nat.le_add_right _ _) ?_
      refine VB_uif_eq (q := 846) (tgt := 968) dL_law_843 (by decide) ?_ ?_
      · skip
        exact VB_widen (by omega) (by omega) (J968 g840 hg840)
      · skip
        refine VB_aload_n (q := 847) dL_law_846 1 rfl rfl ?_
        refine VB_aload_n (q := 848) dL_law_847 2 rfl rfl ?_
        refine VB_aload (q := 850) dL_law_848 6 rfl rfl ?_
        refine VB_iload (q := 852) dL_law_850 10 rfl rfl ?_
        refine VB_aload (q := 854) dL_law_852 6 rfl rfl ?_
        refine VB_iconst (q := 855) dL_law_854 rfl ?_
        refine VB_iald (q := 856) (v := (iZ 4)) dL_law_855 13 12 rfl rfl (0) (by omega) (by omega) (by decide) (hM0) rfl ?_
        refine VB_iconst (q := 857) dL_law_856 rfl ?_
        refine VB_iadd (q := 858) dL_law_857 rfl ?_
        refine VB_top (y := iZ 5) rfl ?_
        refine VB_irem (q := 859) (a := 0) (b := 5) dL_law_858 (by omega) (by decide) (by decide) rfl ?_
        refine VB_top (y := iZ 0) rfl ?_
        refine VB_iload (q := 861) dL_law_859 10 rfl rfl ?_
        refine VB_bipush (q := 863) dL_law_861 (by decide) rfl ?_
        refine VB_idiv (q := 864) (a := 0) (b := 13) dL_law_863 (by omega) (by decide) (by decide) rfl ?_
        refine VB_top (y := iZ 0) rfl ?_
        refine VB_aload (q := 866) dL_law_864 6 rfl rfl ?_
        refine VB_iconst (q := 867) dL_law_866 rfl ?_
        refine VB_iald (q := 868) (v := (iZ 4)) dL_law_867 13 12 rfl rfl (0) (by omega) (by omega) (by decide) (hM0) rfl ?_
        refine VB_iconst (q := 869) dL_law_868 rfl ?_
        refine VB_iadd (q := 870) dL_law_869 rfl ?_
        refine VB_top (y := iZ 5) rfl ?_
        refine VB_irem (q := 871) (a := 0) (b := 5) dL_law_870 (by omega) (by decide) (by decide) rfl ?_
        refine VB_top (y := iZ 0) rfl ?_
        refine VB_iload (q := 873) dL_law_871 10 rfl rfl ?_
        refine VB_sipush (q := 876) dL_law_873 (by decide) rfl ?_
        refine VB_idiv (q := 877) (a := 0) (b := 169) dL_law_876 (by omega) (by decide) (by decide) rfl ?_
        refine VB_top (y := iZ 0) rfl ?_
        refine VB_aload (q := 879) dL_law_877 6 rfl rfl ?_
        refine VB_iconst (q := 880) dL_law_879 rfl ?_
        refine VB_iald (q := 881) (v := (iZ 4)) dL_law_880 13 12 rfl rfl (0) (by omega) (by omega) (by decide) (hM0) rfl ?_
        refine VB_iconst (q := 882) dL_law_881 rfl ?_
        refine VB_iadd (q := 883) dL_law_882 rfl ?_
        refine VB_top (y := iZ 6) rfl ?_
        refine VB_irem (q := 884) (a := 0) (b := 6) dL_law_883 (by omega) (by decide) (by decide) rfl ?_
        refine VB_top (y := iZ 0) rfl ?_
        refine VB_iconst (q := 885) dL_law_884 rfl ?_
        refine VB_isub (q := 886) dL_law_885 rfl ?_
        refine VB_top (y := iZ (-1)) rfl ?_
        refine VB_callU (q := 889) dL_law_886 (u_isWrong (a := a) (c := c) (S := S) (b := b) (d := d) (F := F) hI (wr0 hI (by decide) hK) hg840) yv_L_isWrong rfl gL_law_L_isWrong xU_L rfl (Nat.le_of_ble_eq_true rfl) (by decide) ⟨by show _ ≤ 20000; omega, by show _ ≤ 130000; omega⟩ (fun x886 g886 hP886 hg886 => ?_)
        refine VB_em (x := x886) (fun e886 => VB_lo (lo' := 112) (Nat.le_add_right _ _) (VB_top (y := iZ 0) e886 ?_)) (fun e886 => VB_lo (lo' := 114) (by show 114 ≤ 112 + (if x886 = 0 then 0 else 2); rw [if_neg e886]; omega) ?_)
        · skip
          refine VB_if_eq (q := 892) (tgt := 968) dL_law_889 (by decide) (by decide) (fun _ => ?_) (fun hc => absurd hc (by decide))
          exact VB_widen (by omega) (by omega) (J968 g886 hg886)
        · skip
          refine VB_uif_eq (q := 892) (tgt := 968) dL_law_889 (by decide) ?_ ?_
          · skip
            refine VB_lo (lo' := 112) (by omega) ?_
            exact VB_widen (by omega) (by omega) (J968 g886 hg886)
          · skip
            refine VB_iload (q := 894) dL_law_892 8 rfl rfl ?_
            refine VB_bipush (q := 896) dL_law_894 (by decide) rfl ?_
            refine VB_irem (q := 897) (a := 10) (b := 16) dL_law_896 (by omega) (by decide) (by decide) rfl ?_
            refine VB_top (y := iZ 10) rfl ?_
            refine VB_if_gt (q := 900) (tgt := 943) dL_law_897 (by decide) (by decide) (fun _ => ?_) (fun hc => absurd hc (by decide))
            refine VB_iload (q := 945) dL_law_943 8 rfl rfl ?_
            refine VB_bipush (q := 947) dL_law_945 (by decide) rfl ?_
            refine VB_irem (q := 948) (a := 10) (b := 20) dL_law_947 (by omega) (by decide) (by decide) rfl ?_
            refine VB_top (y := iZ 10) rfl ?_
            refine VB_if_gt (q := 951) (tgt := 964) dL_law_948 (by decide) (by decide) (fun _ => ?_) (fun hc => absurd hc (by decide))
            refine VB_iconst (q := 965) dL_law_964 rfl ?_
            refine VB_goto (tgt := 969) dL_law_965 (by decide) ?_
            refine VB_istore (q := 971) (lv' := [(0, _), (1, _), (2, _), (3, _), (4, _), (5, _), (6, _), (7, _), (8, _), (9, _), (10, _)]) dL_law_969 (by decide) rfl rfl ?_
            refine VB_iinc (q := 974) (y := 11) (lv' := [(0, _), (1, _), (2, _), (3, _), (4, _), (5, _), (6, _), (7, _), (8, _), (9, _), (10, _)]) dL_law_971 8 rfl (by omega) (by decide) rfl rfl ?_
            refine VB_goto (tgt := 64) dL_law_974 (by decide) ?_
            refine VB_loc (lv' := [(0, _), (1, _), (2, _), (3, _), (4, _), (5, _), (6, _), (7, _), (8, _)]) [0, 1, 2, 3, 4, 5, 6, 7, 8] rfl ?_
            refine VB_lo (lo' := 114) (by omega) ?_
            exact VB_widen (by omega) (by omega) (rd11 hL h16 hx S F g886 hI (fun _ => hK) hg886)
set_option maxRecDepth 100000 in
set_option maxHeartbeats 8000000 in
theorem rd10 {s0 L : Nat} {xs : Nat → Int32} {a : Nat → Nat} {c : Nat → ClassId} {b : Nat → Nat} {d : Nat → ClassId} (hL : L ≤ 260) (h16 : 80 ≤ L) (hx : ∀ j, j < 80 → xs j = 31) : ∀ (S : St) (F : Nat → Nat → Int32) (g : Nat → Nat), Iv S F 4 → (0 < 10 → sK S 0 = 0) → (∀ j, g j < 4096) → VB 112 RL cL_law 17 (some .boolean) wsL_law roomB (vXL s0 L xs) (tyl c d) (qF 123) (1426) (8556 + 1250) (wal a c S b d F g) 64 [(0, .ref (s0)), (1, .ref (a 0)), (2, .ref (b 0)), (3, .ref (b 1)), (4, .ref (b 2)), (5, .ref (b 3)), (6, .ref (b 4)), (7, .int (iZ 1)), (8, .int (iZ 10))] [] := by
  intro S F g hI hK hg
  obtain ⟨ho, hn, hm4, hM0, hG, hC⟩ := id hI
  refine VB_iload (q := 66) dL_law_64 8 rfl rfl ?_
  refine VB_bipush (q := 68) dL_law_66 (by decide) rfl ?_
  refine VB_icmp_ge (q := 71) (tgt := 977) dL_law_68 (by decide) (by decide) (by decide) (fun hc => absurd hc (by decide)) (fun _ => ?_)
  refine VB_iload (q := 73) dL_law_71 7 rfl rfl ?_
  refine VB_if_eq (q := 76) (tgt := 977) dL_law_73 (by decide) (by decide) (fun hc => absurd hc (by decide)) (fun _ => ?_)
  refine VB_aload_n (q := 77) dL_law_76 0 rfl rfl ?_
  refine VB_iload (q := 79) dL_law_77 8 rfl rfl ?_
  refine VB_callD (q := 82) dL_law_79 (u_dice (b := s0) (L := L) (xs := xs) 10 (by omega) hL (hx 10 (by omega))) yv_L_dice rfl gL_law_L_dice xL_s rfl (Nat.le_of_ble_eq_true rfl) (by decide) ⟨by show _ ≤ 20000; omega, by show _ ≤ 130000; omega⟩ ?_
  refine VB_istore (q := 84) (lv' := [(0, _), (1, _), (2, _), (3, _), (4, _), (5, _), (6, _), (7, _), (8, _), (9, _)]) dL_law_82 (by decide) rfl rfl ?_
  refine VB_iload (q := 86) dL_law_84 9 rfl rfl ?_
  refine VB_bipush (q := 88) dL_law_86 (by decide) rfl ?_
  refine VB_idiv (q := 89) (a := 31) (b := 32) dL_law_88 (by omega) (by decide) (by decide) rfl ?_
  refine VB_top (y := iZ 0) rfl ?_
  refine VB_istore (q := 91) (lv' := [(0, _), (1, _), (2, _), (3, _), (4, _), (5, _), (6, _), (7, _), (8, _), (9, _), (10, _)]) dL_law_89 (by decide) rfl rfl ?_
  refine VB_iload (q := 93) dL_law_91 9 rfl rfl ?_
  refine VB_bipush (q := 95) dL_law_93 (by decide) rfl ?_
  refine VB_irem (q := 96) (a := 31) (b := 32) dL_law_95 (by omega) (by decide) (by decide) rfl ?_
  refine VB_top (y := iZ 31) rfl ?_
  refine VB_istore (q := 98) (lv' := [(0, _), (1, _), (2, _), (3, _), (4, _), (5, _), (6, _), (7, _), (8, _), (9, _), (10, _), (11, _)]) dL_law_96 (by decide) rfl rfl ?_
  refine VB_aload (q := 100) dL_law_98 6 rfl rfl ?_
  refine VB_iconst (q := 101) dL_law_100 rfl ?_
  refine VB_iald (q := 102) (v := (iZ 4)) dL_law_101 13 12 rfl rfl (0) (by omega) (by omega) (by decide) (hM0) rfl ?_
  refine VB_if_ne (q := 105) (tgt := 109) dL_law_102 (by decide) (by decide) (fun _ => ?_) (fun hc => absurd hc (by decide))
  refine VB_iload (q := 111) dL_law_109 10 rfl rfl ?_
  refine VB_aload (q := 113) dL_law_111 6 rfl rfl ?_
  refine VB_iconst (q := 114) dL_law_113 rfl ?_
  refine VB_iald (q := 115) (v := (iZ 4)) dL_law_114 13 12 rfl rfl (0) (by omega) (by omega) (by decide) (hM0) rfl ?_
  refine VB_irem (q := 116) (a := 0) (b := 4) dL_law_115 (by omega) (by decide) (by decide) rfl ?_
  refine VB_top (y := iZ 0) rfl ?_
  refine VB_istore (q := 118) (lv' := [(0, _), (1, _), (2, _), (3, _), (4, _), (5, _), (6, _), (7, _), (8, _), (9, _), (10, _), (11, _), (12, _)]) dL_law_116 (by decide) rfl rfl ?_
  refine VB_aload (q := 120) dL_law_118 6 rfl rfl ?_
  refine VB_iconst (q := 121) dL_law_120 rfl ?_
  refine VB_iald (q := 122) (v := (iZ 4)) dL_law_121 13 12 rfl rfl (0) (by omega) (by omega) (by decide) (hM0) rfl ?_
  refine VB_iconst (q := 123) dL_law_122 rfl ?_
  refine VB_icmp_lt (q := 126) (tgt := 141) dL_law_123 (by decide) (by decide) (by decide) (fun hc => absurd hc (by decide)) (fun _ => ?_)
  refine VB_iload (q := 128) dL_law_126 11 rfl rfl ?_
  refine VB_iconst (q := 129) dL_law_128 rfl ?_
  refine VB_icmp_ge (q := 132) (tgt := 326) dL_law_129 (by decide) (by decide) (by decide) (fun _ => ?_) (fun hc => absurd hc (by decide))
  refine VB_iload (q := 328) dL_law_326 11 rfl rfl ?_
  refine VB_bipush (q := 330) dL_law_328 (by decide) rfl ?_
  refine VB_icmp_ge (q := 333) (tgt := 451) dL_law_330 (by decide) (by decide) (by decide) (fun _ => ?_) (fun hc => absurd hc (by decide))
  refine VB_iload (q := 453) dL_law_451 11 rfl rfl ?_
  refine VB_bipush (q := 455) dL_law_453 (by decide) rfl ?_
  refine VB_icmp_ge (q := 458) (tgt := 603) dL_law_455 (by decide) (by decide) (by decide) (fun _ => ?_) (fun hc => absurd hc (by decide))
  refine VB_iload (q := 605) dL_law_603 11 rfl rfl ?_
  refine VB_bipush (q := 607) dL_law_605 (by decide) rfl ?_
  refine VB_icmp_ge (q := 610) (tgt := 633) dL_law_607 (by decide) (by decide) (by decide) (fun _ => ?_) (fun hc => absurd hc (by decide))
  refine VB_iload (q := 635) dL_law_633 11 rfl rfl ?_
  refine VB_bipush (q := 637) dL_law_635 (by decide) rfl ?_
  refine VB_icmp_ge (q := 640) (tgt := 677) dL_law_637 (by decide) (by decide) (by decide) (fun _ => ?_) (fun hc => absurd hc (by decide))
  refine VB_iload (q := 679) dL_law_677 11 rfl rfl ?_
  refine VB_bipush (q := 681) dL_law_679 (by decide) rfl ?_
  refine VB_icmp_ne (q := 684) (tgt := 783) dL_law_681 (by decide) (by decide) (by decide) (fun _ => ?_) (fun hc => absurd hc (by decide))
  refine VB_loc (lv' := [(0, _), (1, _), (2, _), (3, _), (4, _), (5, _), (6, _), (7, _), (8, _), (9, _), (10, _)]) [0, 1, 2, 3, 4, 5, 6, 7, 8, 9, 10] rfl ?_
  exact VB_widen (by omega) (by omega) (ck10 hL h16 hx S F g hI (hK (by decide)) hg)
set_option maxRecDepth 100000 in
set_option maxHeartbeats 8000000 in
theorem ck9 {s0 L : Nat} {xs : Nat → Int32} {a : Nat → Nat} {c : Nat → ClassId} {b : Nat → Nat} {d : Nat → ClassId} (hL : L ≤ 260) (h16 : 80 ≤ L) (hx : ∀ j, j < 80 → xs j = 31) : ∀ (S : St) (F : Nat → Nat → Int32) (g : Nat → Nat), Iv S F 4 → sK S 0 = 0 → (∀ j, g j < 4096) → VB 110 RL cL_law 17 (some .boolean) wsL_law roomB (vXL s0 L xs) (tyl c d) (qF 123) (1406) (8436 + 1250) (wal a c S b d F g) 783 [(0, .ref (s0)), (1, .ref (a 0)), (2, .ref (b 0)), (3, .ref (b 1)), (4, .ref (b 2)), (5, .ref (b 3)), (6, .ref (b 4)), (7, .int (iZ 1)), (8, .int (iZ 9)), (9, .int (iZ 31)), (10, .int (iZ 0))] [] := by
  intro S F g hI hK hg
  obtain ⟨ho, hn, hm4, hM0, hG, hC⟩ := id hI
  refine VB_iload (q := 785) dL_law_783 7 rfl rfl ?_
  refine VB_if_eq (q := 788) (tgt := 968) dL_law_785 (by decide) (by decide) (fun hc => absurd hc (by decide)) (fun _ => ?_)
  refine VB_aload_n (q := 789) dL_law_788 1 rfl rfl ?_
  refine VB_aload_n (q := 790) dL_law_789 2 rfl rfl ?_
  refine VB_aload_n (q := 791) dL_law_790 3 rfl rfl ?_
  refine VB_aload (q := 793) dL_law_791 6 rfl rfl ?_
  refine VB_callU (q := 796) dL_law_793 (u_areThings (a := a) (c := c) (S := S) (b := b) (d := d) (F := F) hI hg) yv_L_areThings rfl gL_law_L_areThings xU_L rfl (Nat.le_of_ble_eq_true rfl) (by decide) ⟨by show _ ≤ 20000; omega, by show _ ≤ 130000; omega⟩ (fun x793 g793 hP793 hg793 => ?_)
  refine VB_lo (lo' := 110) (Nat.le_add_right _ _) ?_
  have J968 : ∀ (gj968 : Nat → Nat), (∀ j, gj968 j < 4096) → VB 110 RL cL_law 17 (some .boolean) wsL_law roomB (vXL s0 L xs) (tyl c d) (qF 123) (1426) (8556 + 1250) (wal a c S b d F gj968) 968 [(0, .ref (s0)), (1, .ref (a 0)), (2, .ref (b 0)), (3, .ref (b 1)), (4, .ref (b 2)), (5, .ref (b 3)), (6, .ref (b 4)), (7, .int (iZ 1)), (8, .int (iZ 9)), (9, .int (iZ 31)), (10, .int (iZ 0))] [] := by
    intro gj968 hgj968
    refine VB_iconst (q := 969) dL_law_968 rfl ?_
    refine VB_istore (q := 971) (lv' := [(0, _), (1, _), (2, _), (3, _), (4, _), (5, _), (6, _), (7, _), (8, _), (9, _), (10, _)]) dL_law_969 (by decide) rfl rfl ?_
    refine VB_iinc (q := 974) (y := 10) (lv' := [(0, _), (1, _), (2, _), (3, _), (4, _), (5, _), (6, _), (7, _), (8, _), (9, _), (10, _)]) dL_law_971 8 rfl (by omega) (by decide) rfl rfl ?_
    refine VB_goto (tgt := 64) dL_law_974 (by decide) ?_
    refine VB_iload (q := 66) dL_law_64 8 rfl rfl ?_
    refine VB_bipush (q := 68) dL_law_66 (by decide) rfl ?_
    refine VB_icmp_ge (q := 71) (tgt := 977) dL_law_68 (by decide) (by decide) (by decide) (fun hc => absurd hc (by decide)) (fun _ => ?_)
    refine VB_iload (q := 73) dL_law_71 7 rfl rfl ?_
    refine VB_if_eq (q := 76) (tgt := 977) dL_law_73 (by decide) (by decide) (fun _ => ?_) (fun hc => absurd hc (by decide))
    refine VB_iload (q := 979) dL_law_977 7 rfl rfl ?_
    exact VB_ret0 dL_law_979 rfl
  refine VB_uif_eq (q := 799) (tgt := 968) dL_law_796 (by decide) ?_ ?_
  · skip
    exact VB_widen (by omega) (by omega) (J968 g793 hg793)
  · skip
    refine VB_iload (q := 801) dL_law_799 8 rfl rfl ?_
    refine VB_iconst (q := 802) dL_law_801 rfl ?_
    refine VB_irem (q := 803) (a := 9) (b := 2) dL_law_802 (by omega) (by decide) (by decide) rfl ?_
    refine VB_top (y := iZ 1) rfl ?_
    refine VB_if_gt (q := 806) (tgt := 833) dL_law_803 (by decide) (by decide) (fun _ => ?_) (fun hc => absurd hc (by decide))
    refine VB_aload_n (q := 834) dL_law_833 1 rfl rfl ?_
    refine VB_aload_n (q := 835) dL_law_834 2 rfl rfl ?_
    refine VB_aload_n (q := 836) dL_law_835 3 rfl rfl ?_
    refine VB_aload (q := 838) dL_law_836 4 rfl rfl ?_
    refine VB_aload (q := 840) dL_law_838 6 rfl rfl ?_
    refine VB_callU (q := 843) dL_law_840 (u_isMissing (a := a) (c := c) (S := S) (b := b) (d := d) (F := F) hI hg793) yv_L_isMissing rfl gL_law_L_isMissing xU_L rfl (Nat.le_of_ble_eq_true rfl) (by decide) ⟨by show _ ≤ 20000; omega, by show _ ≤ 130000; omega⟩ (fun x840 g840 hP840 hg840 => ?_)
    refine VB_lo (lo' := 110) (Nat.le_add_right _ _) ?_
    refine VB_uif_eq (q := 846) (tgt := 968) dL_law_843 (by decide) ?_ ?_
    · skip
      exact VB_widen (by omega) (by omega) (J968 g840 hg840)
    · skip
      refine VB_aload_n (q := 847) dL_law_846 1 rfl rfl ?_
      refine VB_aload_n (q := 848) dL_law_847 2 rfl rfl ?_
      refine VB_aload (q := 850) dL_law_848 6 rfl rfl ?_
      refine VB_iload (q := 852) dL_law_850 10 rfl rfl ?_
      refine VB_aload (q := 854) dL_law_852 6 rfl rfl ?_
      refine VB_iconst (q := 855) dL_law_854 rfl ?_
      refine VB_iald (q := 856) (v := (iZ 4)) dL_law_855 13 12 rfl rfl (0) (by omega) (by omega) (by decide) (hM0) rfl ?_
      refine VB_iconst (q := 857) dL_law_856 rfl ?_
      refine VB_iadd (q := 858) dL_law_857 rfl ?_
      refine VB_top (y := iZ 5) rfl ?_
      refine VB_irem (q := 859) (a := 0) (b := 5) dL_law_858 (by omega) (by decide) (by decide) rfl ?_
      refine VB_top (y := iZ 0) rfl ?_
      refine VB_iload (q := 861) dL_law_859 10 rfl rfl ?_
      refine VB_bipush (q := 863) dL_law_861 (by decide) rfl ?_
      refine VB_idiv (q := 864) (a := 0) (b := 13) dL_law_863 (by omega) (by decide) (by decide) rfl ?_
      refine VB_top (y := iZ 0) rfl ?_
      refine VB_aload (q := 866) dL_law_864 6 rfl rfl ?_
      refine VB_iconst (q := 867) dL_law_866 rfl ?_
      refine VB_iald (q := 868) (v := (iZ 4)) dL_law_867 13 12 rfl rfl (0) (by omega) (by omega) (by decide) (hM0) rfl ?_
      refine VB_iconst (q := 869) dL_law_868 rfl ?_
      refine VB_iadd (q := 870) dL_law_869 rfl ?_
      refine VB_top (y := iZ 5) rfl ?_
      refine VB_irem (q := 871) (a := 0) (b := 5) dL_law_870 (by omega) (by decide) (by decide) rfl ?_
      refine VB_top (y := iZ 0) rfl ?_
      refine VB_iload (q := 873) dL_law_871 10 rfl rfl ?_
      refine VB_sipush (q := 876) dL_law_873 (by decide) rfl ?_
      refine VB_idiv (q := 877) (a := 0) (b := 169) dL_law_876 (by omega) (by decide) (by decide) rfl ?_
      refine VB_top (y := iZ 0) rfl ?_
      refine VB_aload (q := 879) dL_law_877 6 rfl rfl ?_
      refine VB_iconst (q := 880) dL_law_879 rfl ?_
      refine VB_iald (q := 881) (v := (iZ 4)) dL_law_880 13 12 rfl rfl (0) (by omega) (by omega) (by decide) (hM0) rfl ?_
      refine VB_iconst (q := 882) dL_law_881 rfl ?_
      refine VB_iadd (q := 883) dL_law_882 rfl ?_
      refine VB_top (y := iZ 6) rfl ?_
      refine VB_irem (q := 884) (a := 0) (b := 6) dL_law_883 (by omega) (by decide) (by decide) rfl ?_
      refine VB_top (y := iZ 0) rfl ?_
      refine VB_iconst (q := 885) dL_law_884 rfl ?_
      refine VB_isub (q := 886) dL_law_885 rfl ?_
      refine VB_top (y := iZ (-1)) rfl ?_
      refine VB_callU (q := 889) dL_law_886 (u_isWrong (a := a) (c := c) (S := S) (b := b) (d := d) (F := F) hI (wr0 hI (by decide) hK) hg840) yv_L_isWrong rfl gL_law_L_isWrong xU_L rfl (Nat.le_of_ble_eq_true rfl) (by decide) ⟨by show _ ≤ 20000; omega, by show _ ≤ 130000; omega⟩ (fun x886 g886 hP886 hg886 => ?_)
      refine VB_em (x := x886) (fun e886 => VB_lo (lo' := 110) (Nat.le_add_right _ _) (VB_top (y := iZ 0) e886 ?_)) (fun e886 => VB_lo (lo' := 112) (by show 112 ≤ 110 + (if x886 = 0 then 0 else 2); rw [if_neg e886]; omega) ?_)
      · skip
        refine VB_if_eq (q := 892) (tgt := 968) dL_law_889 (by decide) (by decide) (fun _ => ?_) (fun hc => absurd hc (by decide))
        exact VB_widen (by omega) (by omega) (J968 g886 hg886)
      · skip
        refine VB_uif_eq (q := 892) (tgt := 968) dL_law_889 (by decide) ?_ ?_
        · skip
          refine VB_lo (lo' := 110) (by omega) ?_
          exact VB_widen (by omega) (by omega) (J968 g886 hg886)
        · skip
          refine VB_iload (q := 894) dL_law_892 8 rfl rfl ?_
          refine VB_bipush (q := 896) dL_law_894 (by decide) rfl ?_
          refine VB_irem (q := 897) (a := 9) (b := 16) dL_law_896 (by omega) (by decide) (by decide) rfl ?_
          refine VB_top (y := iZ 9) rfl ?_
          refine VB_if_gt (q := 900) (tgt := 943) dL_law_897 (by decide) (by decide) (fun _ => ?_) (fun hc => absurd hc (by decide))
          refine VB_iload (q := 945) dL_law_943 8 rfl rfl ?_
          refine VB_bipush (q := 947) dL_law_945 (by decide) rfl ?_
          refine VB_irem (q := 948) (a := 9) (b := 20) dL_law_947 (by omega) (by decide) (by decide) rfl ?_
          refine VB_top (y := iZ 9) rfl ?_
          refine VB_if_gt (q := 951) (tgt := 964) dL_law_948 (by decide) (by decide) (fun _ => ?_) (fun hc => absurd hc (by decide))
          refine VB_iconst (q := 965) dL_law_964 rfl ?_
          refine VB_goto (tgt := 969) dL_law_965 (by decide) ?_
          refine VB_istore (q := 971) (lv' := [(0, _), (1, _), (2, _), (3, _), (4, _), (5, _), (6, _), (7, _), (8, _), (9, _), (10, _)]) dL_law_969 (by decide) rfl rfl ?_
          refine VB_iinc (q := 974) (y := 10) (lv' := [(0, _), (1, _), (2, _), (3, _), (4, _), (5, _), (6, _), (7, _), (8, _), (9, _), (10, _)]) dL_law_971 8 rfl (by omega) (by decide) rfl rfl ?_
          refine VB_goto (tgt := 64) dL_law_974 (by decide) ?_
          refine VB_loc (lv' := [(0, _), (1, _), (2, _), (3, _), (4, _), (5, _), (6, _), (7, _), (8, _)]) [0, 1, 2, 3, 4, 5, 6, 7, 8] rfl ?_
          refine VB_lo (lo' := 112) (by omega) ?_
          exact VB_widen (by omega) (by omega) (rd10 hL h16 hx S F g886 hI (fun _ => hK) hg886)
set_option maxRecDepth 100000 in
set_option maxHeartbeats 8000000 in
theorem rd9 {s0 L : Nat} {xs : Nat → Int32} {a : Nat → Nat} {c : Nat → ClassId} {b : Nat → Nat} {d : Nat → ClassId} (hL : L ≤ 260) (h16 : 80 ≤ L) (hx : ∀ j, j < 80 → xs j = 31) : ∀ (S : St) (F : Nat → Nat → Int32) (g : Nat → Nat), Iv S F 4 → (0 < 9 → sK S 0 = 0) → (∀ j, g j < 4096) → VB 110 RL cL_law 17 (some .boolean) wsL_law roomB (vXL s0 L xs) (tyl c d) (qF 123) (1406) (8436 + 1250) (wal a c S b d F g) 64 [(0, .ref (s0)), (1, .ref (a 0)), (2, .ref (b 0)), (3, .ref (b 1)), (4, .ref (b 2)), (5, .ref (b 3)), (6, .ref (b 4)), (7, .int (iZ 1)), (8, .int (iZ 9))] [] := by
  intro S F g hI hK hg
  obtain ⟨ho, hn, hm4, hM0, hG, hC⟩ := id hI
  refine VB_iload (q := 66) dL_law_64 8 rfl rfl ?_
  refine VB_bipush (q := 68) dL_law_66 (by decide) rfl ?_
  refine VB_icmp_ge (q := 71) (tgt := 977) dL_law_68 (by decide) (by decide) (by decide) (fun hc => absurd hc (by decide)) (fun _ => ?_)
  refine VB_iload (q := 73) dL_law_71 7 rfl rfl ?_
  refine VB_if_eq (q := 76) (tgt := 977) dL_law_73 (by decide) (by decide) (fun hc => absurd hc (by decide)) (fun _ => ?_)
  refine VB_aload_n (q := 77) dL_law_76 0 rfl rfl ?_
  refine VB_iload (q := 79) dL_law_77 8 rfl rfl ?_
  refine VB_callD (q := 82) dL_law_79 (u_dice (b := s0) (L := L) (xs := xs) 9 (by omega) hL (hx 9 (by omega))) yv_L_dice rfl gL_law_L_dice xL_s rfl (Nat.le_of_ble_eq_true rfl) (by decide) ⟨by show _ ≤ 20000; omega, by show _ ≤ 130000; omega⟩ ?_
  refine VB_istore (q := 84) (lv' := [(0, _), (1, _), (2, _), (3, _), (4, _), (5, _), (6, _), (7, _), (8, _), (9, _)]) dL_law_82 (by decide) rfl rfl ?_
  refine VB_iload (q := 86) dL_law_84 9 rfl rfl ?_
  refine VB_bipush (q := 88) dL_law_86 (by decide) rfl ?_
  refine VB_idiv (q := 89) (a := 31) (b := 32) dL_law_88 (by omega) (by decide) (by decide) rfl ?_
  refine VB_top (y := iZ 0) rfl ?_
  refine VB_istore (q := 91) (lv' := [(0, _), (1, _), (2, _), (3, _), (4, _), (5, _), (6, _), (7, _), (8, _), (9, _), (10, _)]) dL_law_89 (by decide) rfl rfl ?_
  refine VB_iload (q := 93) dL_law_91 9 rfl rfl ?_
  refine VB_bipush (q := 95) dL_law_93 (by decide) rfl ?_
  refine VB_irem (q := 96) (a := 31) (b := 32) dL_law_95 (by omega) (by decide) (by decide) rfl ?_
  refine VB_top (y := iZ 31) rfl ?_
  refine VB_istore (q := 98) (lv' := [(0, _), (1, _), (2, _), (3, _), (4, _), (5, _), (6, _), (7, _), (8, _), (9, _), (10, _), (11, _)]) dL_law_96 (by decide) rfl rfl ?_
  refine VB_aload (q := 100) dL_law_98 6 rfl rfl ?_
  refine VB_iconst (q := 101) dL_law_100 rfl ?_
  refine VB_iald (q := 102) (v := (iZ 4)) dL_law_101 13 12 rfl rfl (0) (by omega) (by omega) (by decide) (hM0) rfl ?_
  refine VB_if_ne (q := 105) (tgt := 109) dL_law_102 (by decide) (by decide) (fun _ => ?_) (fun hc => absurd hc (by decide))
  refine VB_iload (q := 111) dL_law_109 10 rfl rfl ?_
  refine VB_aload (q := 113) dL_law_111 6 rfl rfl ?_
  refine VB_iconst (q := 114) dL_law_113 rfl ?_
  refine VB_iald (q := 115) (v := (iZ 4)) dL_law_114 13 12 rfl rfl (0) (by omega) (by omega) (by decide) (hM0) rfl ?_
  refine VB_irem (q := 116) (a := 0) (b := 4) dL_law_115 (by omega) (by decide) (by decide) rfl ?_
  refine VB_top (y := iZ 0) rfl ?_
  refine VB_istore (q := 118) (lv' := [(0, _), (1, _), (2, _), (3, _), (4, _), (5, _), (6, _), (7, _), (8, _), (9, _), (10, _), (11, _), (12, _)]) dL_law_116 (by decide) rfl rfl ?_
  refine VB_aload (q := 120) dL_law_118 6 rfl rfl ?_
  refine VB_iconst (q := 121) dL_law_120 rfl ?_
  refine VB_iald (q := 122) (v := (iZ 4)) dL_law_121 13 12 rfl rfl (0) (by omega) (by omega) (by decide) (hM0) rfl ?_
  refine VB_iconst (q := 123) dL_law_122 rfl ?_
  refine VB_icmp_lt (q := 126) (tgt := 141) dL_law_123 (by decide) (by decide) (by decide) (fun hc => absurd hc (by decide)) (fun _ => ?_)
  refine VB_iload (q := 128) dL_law_126 11 rfl rfl ?_
  refine VB_iconst (q := 129) dL_law_128 rfl ?_
  refine VB_icmp_ge (q := 132) (tgt := 326) dL_law_129 (by decide) (by decide) (by decide) (fun _ => ?_) (fun hc => absurd hc (by decide))
  refine VB_iload (q := 328) dL_law_326 11 rfl rfl ?_
  refine VB_bipush (q := 330) dL_law_328 (by decide) rfl ?_
  refine VB_icmp_ge (q := 333) (tgt := 451) dL_law_330 (by decide) (by decide) (by decide) (fun _ => ?_) (fun hc => absurd hc (by decide))
  refine VB_iload (q := 453) dL_law_451 11 rfl rfl ?_
  refine VB_bipush (q := 455) dL_law_453 (by decide) rfl ?_
  refine VB_icmp_ge (q := 458) (tgt := 603) dL_law_455 (by decide) (by decide) (by decide) (fun _ => ?_) (fun hc => absurd hc (by decide))
  refine VB_iload (q := 605) dL_law_603 11 rfl rfl ?_
  refine VB_bipush (q := 607) dL_law_605 (by decide) rfl ?_
  refine VB_icmp_ge (q := 610) (tgt := 633) dL_law_607 (by decide) (by decide) (by decide) (fun _ => ?_) (fun hc => absurd hc (by decide))
  refine VB_iload (q := 635) dL_law_633 11 rfl rfl ?_
  refine VB_bipush (q := 637) dL_law_635 (by decide) rfl ?_
  refine VB_icmp_ge (q := 640) (tgt := 677) dL_law_637 (by decide) (by decide) (by decide) (fun _ => ?_) (fun hc => absurd hc (by decide))
  refine VB_iload (q := 679) dL_law_677 11 rfl rfl ?_
  refine VB_bipush (q := 681) dL_law_679 (by decide) rfl ?_
  refine VB_icmp_ne (q := 684) (tgt := 783) dL_law_681 (by decide) (by decide) (by decide) (fun _ => ?_) (fun hc => absurd hc (by decide))
  refine VB_loc (lv' := [(0, _), (1, _), (2, _), (3, _), (4, _), (5, _), (6, _), (7, _), (8, _), (9, _), (10, _)]) [0, 1, 2, 3, 4, 5, 6, 7, 8, 9, 10] rfl ?_
  exact VB_widen (by omega) (by omega) (ck9 hL h16 hx S F g hI (hK (by decide)) hg)
set_option maxRecDepth 100000 in
set_option maxHeartbeats 8000000 in
theorem ck8 {s0 L : Nat} {xs : Nat → Int32} {a : Nat → Nat} {c : Nat → ClassId} {b : Nat → Nat} {d : Nat → ClassId} (hL : L ≤ 260) (h16 : 80 ≤ L) (hx : ∀ j, j < 80 → xs j = 31) : ∀ (S : St) (F : Nat → Nat → Int32) (g : Nat → Nat), Iv S F 4 → sK S 0 = 0 → (∀ j, g j < 4096) → VB 108 RL cL_law 17 (some .boolean) wsL_law roomB (vXL s0 L xs) (tyl c d) (qF 123) (1186) (7116 + 1250) (wal a c S b d F g) 783 [(0, .ref (s0)), (1, .ref (a 0)), (2, .ref (b 0)), (3, .ref (b 1)), (4, .ref (b 2)), (5, .ref (b 3)), (6, .ref (b 4)), (7, .int (iZ 1)), (8, .int (iZ 8)), (9, .int (iZ 31)), (10, .int (iZ 0))] [] := by
  intro S F g hI hK hg
  obtain ⟨ho, hn, hm4, hM0, hG, hC⟩ := id hI
  refine VB_iload (q := 785) dL_law_783 7 rfl rfl ?_
  refine VB_if_eq (q := 788) (tgt := 968) dL_law_785 (by decide) (by decide) (fun hc => absurd hc (by decide)) (fun _ => ?_)
  refine VB_aload_n (q := 789) dL_law_788 1 rfl rfl ?_
  refine VB_aload_n (q := 790) dL_law_789 2 rfl rfl ?_
  refine VB_aload_n (q := 791) dL_law_790 3 rfl rfl ?_
  refine VB_aload (q := 793) dL_law_791 6 rfl rfl ?_
  refine VB_callU (q := 796) dL_law_793 (u_areThings (a := a) (c := c) (S := S) (b := b) (d := d) (F := F) hI hg) yv_L_areThings rfl gL_law_L_areThings xU_L rfl (Nat.le_of_ble_eq_true rfl) (by decide) ⟨by show _ ≤ 20000; omega, by show _ ≤ 130000; omega⟩ (fun x793 g793 hP793 hg793 => ?_)
  refine VB_lo (lo' := 108) (Nat.le_add_right _ _) ?_
  have J968 : ∀ (gj968 : Nat → Nat), (∀ j, gj968 j < 4096) → VB 108 RL cL_law 17 (some .boolean) wsL_law roomB (vXL s0 L xs) (tyl c d) (qF 123) (1406) (8436 + 1250) (wal a c S b d F gj968) 968 [(0, .ref (s0)), (1, .ref (a 0)), (2, .ref (b 0)), (3, .ref (b 1)), (4, .ref (b 2)), (5, .ref (b 3)), (6, .ref (b 4)), (7, .int (iZ 1)), (8, .int (iZ 8)), (9, .int (iZ 31)), (10, .int (iZ 0))] [] := by
    intro gj968 hgj968
    refine VB_iconst (q := 969) dL_law_968 rfl ?_
    refine VB_istore (q := 971) (lv' := [(0, _), (1, _), (2, _), (3, _), (4, _), (5, _), (6, _), (7, _), (8, _), (9, _), (10, _)]) dL_law_969 (by decide) rfl rfl ?_
    refine VB_iinc (q := 974) (y := 9) (lv' := [(0, _), (1, _), (2, _), (3, _), (4, _), (5, _), (6, _), (7, _), (8, _), (9, _), (10, _)]) dL_law_971 8 rfl (by omega) (by decide) rfl rfl ?_
    refine VB_goto (tgt := 64) dL_law_974 (by decide) ?_
    refine VB_iload (q := 66) dL_law_64 8 rfl rfl ?_
    refine VB_bipush (q := 68) dL_law_66 (by decide) rfl ?_
    refine VB_icmp_ge (q := 71) (tgt := 977) dL_law_68 (by decide) (by decide) (by decide) (fun hc => absurd hc (by decide)) (fun _ => ?_)
    refine VB_iload (q := 73) dL_law_71 7 rfl rfl ?_
    refine VB_if_eq (q := 76) (tgt := 977) dL_law_73 (by decide) (by decide) (fun _ => ?_) (fun hc => absurd hc (by decide))
    refine VB_iload (q := 979) dL_law_977 7 rfl rfl ?_
    exact VB_ret0 dL_law_979 rfl
  refine VB_uif_eq (q := 799) (tgt := 968) dL_law_796 (by decide) ?_ ?_
  · skip
    exact VB_widen (by omega) (by omega) (J968 g793 hg793)
  · skip
    refine VB_iload (q := 801) dL_law_799 8 rfl rfl ?_
    refine VB_iconst (q := 802) dL_law_801 rfl ?_
    refine VB_irem (q := 803) (a := 8) (b := 2) dL_law_802 (by omega) (by decide) (by decide) rfl ?_
    refine VB_top (y := iZ 0) rfl ?_
    refine VB_if_gt (q := 806) (tgt := 833) dL_law_803 (by decide) (by decide) (fun hc => absurd hc (by decide)) (fun _ => ?_)
    refine VB_aload_n (q := 807) dL_law_806 1 rfl rfl ?_
    refine VB_aload_n (q := 808) dL_law_807 2 rfl rfl ?_
    refine VB_aload_n (q := 809) dL_law_808 3 rfl rfl ?_
    refine VB_aload (q := 811) dL_law_809 4 rfl rfl ?_
    refine VB_aload (q := 813) dL_law_811 6 rfl rfl ?_
    refine VB_iload (q := 815) dL_law_813 10 rfl rfl ?_
    refine VB_bipush (q := 817) dL_law_815 (by decide) rfl ?_
    refine VB_irem (q := 818) (a := 0) (b := 31) dL_law_817 (by omega) (by decide) (by decide) rfl ?_
    refine VB_top (y := iZ 0) rfl ?_
    refine VB_iload (q := 820) dL_law_818 10 rfl rfl ?_
    refine VB_bipush (q := 822) dL_law_820 (by decide) rfl ?_
    refine VB_idiv (q := 823) (a := 0) (b := 31) dL_law_822 (by omega) (by decide) (by decide) rfl ?_
    refine VB_top (y := iZ 0) rfl ?_
    refine VB_sipush (q := 826) dL_law_823 (by decide) rfl ?_
    refine VB_irem (q := 827) (a := 0) (b := 256) dL_law_826 (by omega) (by decide) (by decide) rfl ?_
    refine VB_top (y := iZ 0) rfl ?_
    refine VB_callU (q := 830) dL_law_827 (u_areOutfits (a := a) (c := c) (S := S) (b := b) (d := d) (F := F) hI hg793) yv_L_areOutfits rfl gL_law_L_areOutfits xU_L rfl (Nat.le_of_ble_eq_true rfl) (by decide) ⟨by show _ ≤ 20000; omega, by show _ ≤ 130000; omega⟩ (fun x827 g827 hP827 hg827 => ?_)
    refine VB_lo (lo' := 108) (Nat.le_add_right _ _) ?_
    refine VB_uif_eq (q := 833) (tgt := 968) dL_law_830 (by decide) ?_ ?_
    · skip
      exact VB_widen (by omega) (by omega) (J968 g827 hg827)
    · skip
      refine VB_aload_n (q := 834) dL_law_833 1 rfl rfl ?_
      refine VB_aload_n (q := 835) dL_law_834 2 rfl rfl ?_
      refine VB_aload_n (q := 836) dL_law_835 3 rfl rfl ?_
      refine VB_aload (q := 838) dL_law_836 4 rfl rfl ?_
      refine VB_aload (q := 840) dL_law_838 6 rfl rfl ?_
      refine VB_callU (q := 843) dL_law_840 (u_isMissing (a := a) (c := c) (S := S) (b := b) (d := d) (F := F) hI hg827) yv_L_isMissing rfl gL_law_L_isMissing xU_L rfl (Nat.le_of_ble_eq_true rfl) (by decide) ⟨by show _ ≤ 20000; omega, by show _ ≤ 130000; omega⟩ (fun x840 g840 hP840 hg840 => ?_)
      refine VB_lo (lo' := 108) (Nat.le_add_right _ _) ?_
      refine VB_uif_eq (q := 846) (tgt := 968) dL_law_843 (by decide) ?_ ?_
      · skip
        exact VB_widen (by omega) (by omega) (J968 g840 hg840)
      · skip
        refine VB_aload_n (q := 847) dL_law_846 1 rfl rfl ?_
        refine VB_aload_n (q := 848) dL_law_847 2 rfl rfl ?_
        refine VB_aload (q := 850) dL_law_848 6 rfl rfl ?_
        refine VB_iload (q := 852) dL_law_850 10 rfl rfl ?_
        refine VB_aload (q := 854) dL_law_852 6 rfl rfl ?_
        refine VB_iconst (q := 855) dL_law_854 rfl ?_
        refine VB_iald (q := 856) (v := (iZ 4)) dL_law_855 13 12 rfl rfl (0) (by omega) (by omega) (by decide) (hM0) rfl ?_
        refine VB_iconst (q := 857) dL_law_856 rfl ?_
        refine VB_iadd (q := 858) dL_law_857 rfl ?_
        refine VB_top (y := iZ 5) rfl ?_
        refine VB_irem (q := 859) (a := 0) (b := 5) dL_law_858 (by omega) (by decide) (by decide) rfl ?_
        refine VB_top (y := iZ 0) rfl ?_
        refine VB_iload (q := 861) dL_law_859 10 rfl rfl ?_
        refine VB_bipush (q := 863) dL_law_861 (by decide) rfl ?_
        refine VB_idiv (q := 864) (a := 0) (b := 13) dL_law_863 (by omega) (by decide) (by decide) rfl ?_
        refine VB_top (y := iZ 0) rfl ?_
        refine VB_aload (q := 866) dL_law_864 6 rfl rfl ?_
        refine VB_iconst (q := 867) dL_law_866 rfl ?_
        refine VB_iald (q := 868) (v := (iZ 4)) dL_law_867 13 12 rfl rfl (0) (by omega) (by omega) (by decide) (hM0) rfl ?_
        refine VB_iconst (q := 869) dL_law_868 rfl ?_
        refine VB_iadd (q := 870) dL_law_869 rfl ?_
        refine VB_top (y := iZ 5) rfl ?_
        refine VB_irem (q := 871) (a := 0) (b := 5) dL_law_870 (by omega) (by decide) (by decide) rfl ?_
        refine VB_top (y := iZ 0) rfl ?_
        refine VB_iload (q := 873) dL_law_871 10 rfl rfl ?_
        refine VB_sipush (q := 876) dL_law_873 (by decide) rfl ?_
        refine VB_idiv (q := 877) (a := 0) (b := 169) dL_law_876 (by omega) (by decide) (by decide) rfl ?_
        refine VB_top (y := iZ 0) rfl ?_
        refine VB_aload (q := 879) dL_law_877 6 rfl rfl ?_
        refine VB_iconst (q := 880) dL_law_879 rfl ?_
        refine VB_iald (q := 881) (v := (iZ 4)) dL_law_880 13 12 rfl rfl (0) (by omega) (by omega) (by decide) (hM0) rfl ?_
        refine VB_iconst (q := 882) dL_law_881 rfl ?_
        refine VB_iadd (q := 883) dL_law_882 rfl ?_
        refine VB_top (y := iZ 6) rfl ?_
        refine VB_irem (q := 884) (a := 0) (b := 6) dL_law_883 (by omega) (by decide) (by decide) rfl ?_
        refine VB_top (y := iZ 0) rfl ?_
        refine VB_iconst (q := 885) dL_law_884 rfl ?_
        refine VB_isub (q := 886) dL_law_885 rfl ?_
        refine VB_top (y := iZ (-1)) rfl ?_
        refine VB_callU (q := 889) dL_law_886 (u_isWrong (a := a) (c := c) (S := S) (b := b) (d := d) (F := F) hI (wr0 hI (by decide) hK) hg840) yv_L_isWrong rfl gL_law_L_isWrong xU_L rfl (Nat.le_of_ble_eq_true rfl) (by decide) ⟨by show _ ≤ 20000; omega, by show _ ≤ 130000; omega⟩ (fun x886 g886 hP886 hg886 => ?_)
        refine VB_em (x := x886) (fun e886 => VB_lo (lo' := 108) (Nat.le_add_right _ _) (VB_top (y := iZ 0) e886 ?_)) (fun e886 => VB_lo (lo' := 110) (by show 110 ≤ 108 + (if x886 = 0 then 0 else 2); rw [if_neg e886]; omega) ?_)
        · skip
          refine VB_if_eq (q := 892) (tgt := 968) dL_law_889 (by decide) (by decide) (fun _ => ?_) (fun hc => absurd hc (by decide))
          exact VB_widen (by omega) (by omega) (J968 g886 hg886)
        · skip
          refine VB_uif_eq (q := 892) (tgt := 968) dL_law_889 (by decide) ?_ ?_
          · skip
            refine VB_lo (lo' := 108) (by omega) ?_
            exact VB_widen (by omega) (by omega) (J968 g886 hg886)
          · skip
            refine VB_iload (q := 894) dL_law_892 8 rfl rfl ?_
            refine VB_bipush (q := 896) dL_law_894 (by decide) rfl ?_
            refine VB_irem (q := 897) (a := 8) (b := 16) dL_law_896 (by omega) (by decide) (by decide) rfl ?_
            refine VB_top (y := iZ 8) rfl ?_
            refine VB_if_gt (q := 900) (tgt := 943) dL_law_897 (by decide) (by decide) (fun _ => ?_) (fun hc => absurd hc (by decide))
            refine VB_iload (q := 945) dL_law_943 8 rfl rfl ?_
            refine VB_bipush (q := 947) dL_law_945 (by decide) rfl ?_
            refine VB_irem (q := 948) (a := 8) (b := 20) dL_law_947 (by omega) (by decide) (by decide) rfl ?_
            refine VB_top (y := iZ 8) rfl ?_
            refine VB_if_gt (q := 951) (tgt := 964) dL_law_948 (by decide) (by decide) (fun _ => ?_) (fun hc => absurd hc (by decide))
            refine VB_iconst (q := 965) dL_law_964 rfl ?_
            refine VB_goto (tgt := 969) dL_law_965 (by decide) ?_
            refine VB_istore (q := 971) (lv' := [(0, _), (1, _), (2, _), (3, _), (4, _), (5, _), (6, _), (7, _), (8, _), (9, _), (10, _)]) dL_law_969 (by decide) rfl rfl ?_
            refine VB_iinc (q := 974) (y := 9) (lv' := [(0, _), (1, _), (2, _), (3, _), (4, _), (5, _), (6, _), (7, _), (8, _), (9, _), (10, _)]) dL_law_971 8 rfl (by omega) (by decide) rfl rfl ?_
            refine VB_goto (tgt := 64) dL_law_974 (by decide) ?_
            refine VB_loc (lv' := [(0, _), (1, _), (2, _), (3, _), (4, _), (5, _), (6, _), (7, _), (8, _)]) [0, 1, 2, 3, 4, 5, 6, 7, 8] rfl ?_
            refine VB_lo (lo' := 110) (by omega) ?_
            exact VB_widen (by omega) (by omega) (rd9 hL h16 hx S F g886 hI (fun _ => hK) hg886)
set_option maxRecDepth 100000 in
set_option maxHeartbeats 8000000 in
theorem rd8 {s0 L : Nat} {xs : Nat → Int32} {a : Nat → Nat} {c : Nat → ClassId} {b : Nat → Nat} {d : Nat → ClassId} (hL : L ≤ 260) (h16 : 80 ≤ L) (hx : ∀ j, j < 80 → xs j = 31) : ∀ (S : St) (F : Nat → Nat → Int32) (g : Nat → Nat), Iv S F 4 → (0 < 8 → sK S 0 = 0) → (∀ j, g j < 4096) → VB 108 RL cL_law 17 (some .boolean) wsL_law roomB (vXL s0 L xs) (tyl c d) (qF 123) (1186) (7116 + 1250) (wal a c S b d F g) 64 [(0, .ref (s0)), (1, .ref (a 0)), (2, .ref (b 0)), (3, .ref (b 1)), (4, .ref (b 2)), (5, .ref (b 3)), (6, .ref (b 4)), (7, .int (iZ 1)), (8, .int (iZ 8))] [] := by
  intro S F g hI hK hg
  obtain ⟨ho, hn, hm4, hM0, hG, hC⟩ := id hI
  refine VB_iload (q := 66) dL_law_64 8 rfl rfl ?_
  refine VB_bipush (q := 68) dL_law_66 (by decide) rfl ?_
  refine VB_icmp_ge (q := 71) (tgt := 977) dL_law_68 (by decide) (by decide) (by decide) (fun hc => absurd hc (by decide)) (fun _ => ?_)
  refine VB_iload (q := 73) dL_law_71 7 rfl rfl ?_
  refine VB_if_eq (q := 76) (tgt := 977) dL_law_73 (by decide) (by decide) (fun hc => absurd hc (by decide)) (fun _ => ?_)
  refine VB_aload_n (q := 77) dL_law_76 0 rfl rfl ?_
  refine VB_iload (q := 79) dL_law_77 8 rfl rfl ?_
  refine VB_callD (q := 82) dL_law_79 (u_dice (b := s0) (L := L) (xs := xs) 8 (by omega) hL (hx 8 (by omega))) yv_L_dice rfl gL_law_L_dice xL_s rfl (Nat.le_of_ble_eq_true rfl) (by decide) ⟨by show _ ≤ 20000; omega, by show _ ≤ 130000; omega⟩ ?_
  refine VB_istore (q := 84) (lv' := [(0, _), (1, _), (2, _), (3, _), (4, _), (5, _), (6, _), (7, _), (8, _), (9, _)]) dL_law_82 (by decide) rfl rfl ?_
  refine VB_iload (q := 86) dL_law_84 9 rfl rfl ?_
  refine VB_bipush (q := 88) dL_law_86 (by decide) rfl ?_
  refine VB_idiv (q := 89) (a := 31) (b := 32) dL_law_88 (by omega) (by decide) (by decide) rfl ?_
  refine VB_top (y := iZ 0) rfl ?_
  refine VB_istore (q := 91) (lv' := [(0, _), (1, _), (2, _), (3, _), (4, _), (5, _), (6, _), (7, _), (8, _), (9, _), (10, _)]) dL_law_89 (by decide) rfl rfl ?_
  refine VB_iload (q := 93) dL_law_91 9 rfl rfl ?_
  refine VB_bipush (q := 95) dL_law_93 (by decide) rfl ?_
  refine VB_irem (q := 96) (a := 31) (b := 32) dL_law_95 (by omega) (by decide) (by decide) rfl ?_
  refine VB_top (y := iZ 31) rfl ?_
  refine VB_istore (q := 98) (lv' := [(0, _), (1, _), (2, _), (3, _), (4, _), (5, _), (6, _), (7, _), (8, _), (9, _), (10, _), (11, _)]) dL_law_96 (by decide) rfl rfl ?_
  refine VB_aload (q := 100) dL_law_98 6 rfl rfl ?_
  refine VB_iconst (q := 101) dL_law_100 rfl ?_
  refine VB_iald (q := 102) (v := (iZ 4)) dL_law_101 13 12 rfl rfl (0) (by omega) (by omega) (by decide) (hM0) rfl ?_
  refine VB_if_ne (q := 105) (tgt := 109) dL_law_102 (by decide) (by decide) (fun _ => ?_) (fun hc => absurd hc (by decide))
  refine VB_iload (q := 111) dL_law_109 10 rfl rfl ?_
  refine VB_aload (q := 113) dL_law_111 6 rfl rfl ?_
  refine VB_iconst (q := 114) dL_law_113 rfl ?_
  refine VB_iald (q := 115) (v := (iZ 4)) dL_law_114 13 12 rfl rfl (0) (by omega) (by omega) (by decide) (hM0) rfl ?_
  refine VB_irem (q := 116) (a := 0) (b := 4) dL_law_115 (by omega) (by decide) (by decide) rfl ?_
  refine VB_top (y := iZ 0) rfl ?_
  refine VB_istore (q := 118) (lv' := [(0, _), (1, _), (2, _), (3, _), (4, _), (5, _), (6, _), (7, _), (8, _), (9, _), (10, _), (11, _), (12, _)]) dL_law_116 (by decide) rfl rfl ?_
  refine VB_aload (q := 120) dL_law_118 6 rfl rfl ?_
  refine VB_iconst (q := 121) dL_law_120 rfl ?_
  refine VB_iald (q := 122) (v := (iZ 4)) dL_law_121 13 12 rfl rfl (0) (by omega) (by omega) (by decide) (hM0) rfl ?_
  refine VB_iconst (q := 123) dL_law_122 rfl ?_
  refine VB_icmp_lt (q := 126) (tgt := 141) dL_law_123 (by decide) (by decide) (by decide) (fun hc => absurd hc (by decide)) (fun _ => ?_)
  refine VB_iload (q := 128) dL_law_126 11 rfl rfl ?_
  refine VB_iconst (q := 129) dL_law_128 rfl ?_
  refine VB_icmp_ge (q := 132) (tgt := 326) dL_law_129 (by decide) (by decide) (by decide) (fun _ => ?_) (fun hc => absurd hc (by decide))
  refine VB_iload (q := 328) dL_law_326 11 rfl rfl ?_
  refine VB_bipush (q := 330) dL_law_328 (by decide) rfl ?_
  refine VB_icmp_ge (q := 333) (tgt := 451) dL_law_330 (by decide) (by decide) (by decide) (fun _ => ?_) (fun hc => absurd hc (by decide))
  refine VB_iload (q := 453) dL_law_451 11 rfl rfl ?_
  refine VB_bipush (q := 455) dL_law_453 (by decide) rfl ?_
  refine VB_icmp_ge (q := 458) (tgt := 603) dL_law_455 (by decide) (by decide) (by decide) (fun _ => ?_) (fun hc => absurd hc (by decide))
  refine VB_iload (q := 605) dL_law_603 11 rfl rfl ?_
  refine VB_bipush (q := 607) dL_law_605 (by decide) rfl ?_
  refine VB_icmp_ge (q := 610) (tgt := 633) dL_law_607 (by decide) (by decide) (by decide) (fun _ => ?_) (fun hc => absurd hc (by decide))
  refine VB_iload (q := 635) dL_law_633 11 rfl rfl ?_
  refine VB_bipush (q := 637) dL_law_635 (by decide) rfl ?_
  refine VB_icmp_ge (q := 640) (tgt := 677) dL_law_637 (by decide) (by decide) (by decide) (fun _ => ?_) (fun hc => absurd hc (by decide))
  refine VB_iload (q := 679) dL_law_677 11 rfl rfl ?_
  refine VB_bipush (q := 681) dL_law_679 (by decide) rfl ?_
  refine VB_icmp_ne (q := 684) (tgt := 783) dL_law_681 (by decide) (by decide) (by decide) (fun _ => ?_) (fun hc => absurd hc (by decide))
  refine VB_loc (lv' := [(0, _), (1, _), (2, _), (3, _), (4, _), (5, _), (6, _), (7, _), (8, _), (9, _), (10, _)]) [0, 1, 2, 3, 4, 5, 6, 7, 8, 9, 10] rfl ?_
  exact VB_widen (by omega) (by omega) (ck8 hL h16 hx S F g hI (hK (by decide)) hg)
set_option maxRecDepth 100000 in
set_option maxHeartbeats 8000000 in
theorem ck7 {s0 L : Nat} {xs : Nat → Int32} {a : Nat → Nat} {c : Nat → ClassId} {b : Nat → Nat} {d : Nat → ClassId} (hL : L ≤ 260) (h16 : 80 ≤ L) (hx : ∀ j, j < 80 → xs j = 31) : ∀ (S : St) (F : Nat → Nat → Int32) (g : Nat → Nat), Iv S F 4 → sK S 0 = 0 → (∀ j, g j < 4096) → VB 106 RL cL_law 17 (some .boolean) wsL_law roomB (vXL s0 L xs) (tyl c d) (qF 123) (1166) (6996 + 1250) (wal a c S b d F g) 783 [(0, .ref (s0)), (1, .ref (a 0)), (2, .ref (b 0)), (3, .ref (b 1)), (4, .ref (b 2)), (5, .ref (b 3)), (6, .ref (b 4)), (7, .int (iZ 1)), (8, .int (iZ 7)), (9, .int (iZ 31)), (10, .int (iZ 0))] [] := by
  intro S F g hI hK hg
  obtain ⟨ho, hn, hm4, hM0, hG, hC⟩ := id hI
  refine VB_iload (q := 785) dL_law_783 7 rfl rfl ?_
  refine VB_if_eq (q := 788) (tgt := 968) dL_law_785 (by decide) (by decide) (fun hc => absurd hc (by decide)) (fun _ => ?_)
  refine VB_aload_n (q := 789) dL_law_788 1 rfl rfl ?_
  refine VB_aload_n (q := 790) dL_law_789 2 rfl rfl ?_
  refine VB_aload_n (q := 791) dL_law_790 3 rfl rfl ?_
  refine VB_aload (q := 793) dL_law_791 6 rfl rfl ?_
  refine VB_callU (q := 796) dL_law_793 (u_areThings (a := a) (c := c) (S := S) (b := b) (d := d) (F := F) hI hg) yv_L_areThings rfl gL_law_L_areThings xU_L rfl (Nat.le_of_ble_eq_true rfl) (by decide) ⟨by show _ ≤ 20000; omega, by show _ ≤ 130000; omega⟩ (fun x793 g793 hP793 hg793 => ?_)
  refine VB_lo (lo' := 106) (Nat.le_add_right _ _) ?_
  have J968 : ∀ (gj968 : Nat → Nat), (∀ j, gj968 j < 4096) → VB 106 RL cL_law 17 (some .boolean) wsL_law roomB (vXL s0 L xs) (tyl c d) (qF 123) (1186) (7116 + 1250) (wal a c S b d F gj968) 968 [(0, .ref (s0)), (1, .ref (a 0)), (2, .ref (b 0)), (3, .ref (b 1)), (4, .ref (b 2)), (5, .ref (b 3)), (6, .ref (b 4)), (7, .int (iZ 1)), (8, .int (iZ 7)), (9, .int (iZ 31)), (10, .int (iZ 0))] [] := by
    intro gj968 hgj968
    refine VB_iconst (q := 969) dL_law_968 rfl ?_
    refine VB_istore (q := 971) (lv' := [(0, _), (1, _), (2, _), (3, _), (4, _), (5, _), (6, _), (7, _), (8, _), (9, _), (10, _)]) dL_law_969 (by decide) rfl rfl ?_
    refine VB_iinc (q := 974) (y := 8) (lv' := [(0, _), (1, _), (2, _), (3, _), (4, _), (5, _), (6, _), (7, _), (8, _), (9, _), (10, _)]) dL_law_971 8 rfl (by omega) (by decide) rfl rfl ?_
    refine VB_goto (tgt := 64) dL_law_974 (by decide) ?_
    refine VB_iload (q := 66) dL_law_64 8 rfl rfl ?_
    refine VB_bipush (q := 68) dL_law_66 (by decide) rfl ?_
    refine VB_icmp_ge (q := 71) (tgt := 977) dL_law_68 (by decide) (by decide) (by decide) (fun hc => absurd hc (by decide)) (fun _ => ?_)
    refine VB_iload (q := 73) dL_law_71 7 rfl rfl ?_
    refine VB_if_eq (q := 76) (tgt := 977) dL_law_73 (by decide) (by decide) (fun _ => ?_) (fun hc => absurd hc (by decide))
    refine VB_iload (q := 979) dL_law_977 7 rfl rfl ?_
    exact VB_ret0 dL_law_979 rfl
  refine VB_uif_eq (q := 799) (tgt := 968) dL_law_796 (by decide) ?_ ?_
  · skip
    exact VB_widen (by omega) (by omega) (J968 g793 hg793)
  · skip
    refine VB_iload (q := 801) dL_law_799 8 rfl rfl ?_
    refine VB_iconst (q := 802) dL_law_801 rfl ?_
    refine VB_irem (q := 803) (a := 7) (b := 2) dL_law_802 (by omega) (by decide) (by decide) rfl ?_
    refine VB_top (y := iZ 1) rfl ?_
    refine VB_if_gt (q := 806) (tgt := 833) dL_law_803 (by decide) (by decide) (fun _ => ?_) (fun hc => absurd hc (by decide))
    refine VB_aload_n (q := 834) dL_law_833 1 rfl rfl ?_
    refine VB_aload_n (q := 835) dL_law_834 2 rfl rfl ?_
    refine VB_aload_n (q := 836) dL_law_835 3 rfl rfl ?_
    refine VB_aload (q := 838) dL_law_836 4 rfl rfl ?_
    refine VB_aload (q := 840) dL_law_838 6 rfl rfl ?_
    refine VB_callU (q := 843) dL_law_840 (u_isMissing (a := a) (c := c) (S := S) (b := b) (d := d) (F := F) hI hg793) yv_L_isMissing rfl gL_law_L_isMissing xU_L rfl (Nat.le_of_ble_eq_true rfl) (by decide) ⟨by show _ ≤ 20000; omega, by show _ ≤ 130000; omega⟩ (fun x840 g840 hP840 hg840 => ?_)
    refine VB_lo (lo' := 106) (Nat.le_add_right _ _) ?_
    refine VB_uif_eq (q := 846) (tgt := 968) dL_law_843 (by decide) ?_ ?_
    · skip
      exact VB_widen (by omega) (by omega) (J968 g840 hg840)
    · skip
      refine VB_aload_n (q := 847) dL_law_846 1 rfl rfl ?_
      refine VB_aload_n (q := 848) dL_law_847 2 rfl rfl ?_
      refine VB_aload (q := 850) dL_law_848 6 rfl rfl ?_
      refine VB_iload (q := 852) dL_law_850 10 rfl rfl ?_
      refine VB_aload (q := 854) dL_law_852 6 rfl rfl ?_
      refine VB_iconst (q := 855) dL_law_854 rfl ?_
      refine VB_iald (q := 856) (v := (iZ 4)) dL_law_855 13 12 rfl rfl (0) (by omega) (by omega) (by decide) (hM0) rfl ?_
      refine VB_iconst (q := 857) dL_law_856 rfl ?_
      refine VB_iadd (q := 858) dL_law_857 rfl ?_
      refine VB_top (y := iZ 5) rfl ?_
      refine VB_irem (q := 859) (a := 0) (b := 5) dL_law_858 (by omega) (by decide) (by decide) rfl ?_
      refine VB_top (y := iZ 0) rfl ?_
      refine VB_iload (q := 861) dL_law_859 10 rfl rfl ?_
      refine VB_bipush (q := 863) dL_law_861 (by decide) rfl ?_
      refine VB_idiv (q := 864) (a := 0) (b := 13) dL_law_863 (by omega) (by decide) (by decide) rfl ?_
      refine VB_top (y := iZ 0) rfl ?_
      refine VB_aload (q := 866) dL_law_864 6 rfl rfl ?_
      refine VB_iconst (q := 867) dL_law_866 rfl ?_
      refine VB_iald (q := 868) (v := (iZ 4)) dL_law_867 13 12 rfl rfl (0) (by omega) (by omega) (by decide) (hM0) rfl ?_
      refine VB_iconst (q := 869) dL_law_868 rfl ?_
      refine VB_iadd (q := 870) dL_law_869 rfl ?_
      refine VB_top (y := iZ 5) rfl ?_
      refine VB_irem (q := 871) (a := 0) (b := 5) dL_law_870 (by omega) (by decide) (by decide) rfl ?_
      refine VB_top (y := iZ 0) rfl ?_
      refine VB_iload (q := 873) dL_law_871 10 rfl rfl ?_
      refine VB_sipush (q := 876) dL_law_873 (by decide) rfl ?_
      refine VB_idiv (q := 877) (a := 0) (b := 169) dL_law_876 (by omega) (by decide) (by decide) rfl ?_
      refine VB_top (y := iZ 0) rfl ?_
      refine VB_aload (q := 879) dL_law_877 6 rfl rfl ?_
      refine VB_iconst (q := 880) dL_law_879 rfl ?_
      refine VB_iald (q := 881) (v := (iZ 4)) dL_law_880 13 12 rfl rfl (0) (by omega) (by omega) (by decide) (hM0) rfl ?_
      refine VB_iconst (q := 882) dL_law_881 rfl ?_
      refine VB_iadd (q := 883) dL_law_882 rfl ?_
      refine VB_top (y := iZ 6) rfl ?_
      refine VB_irem (q := 884) (a := 0) (b := 6) dL_law_883 (by omega) (by decide) (by decide) rfl ?_
      refine VB_top (y := iZ 0) rfl ?_
      refine VB_iconst (q := 885) dL_law_884 rfl ?_
      refine VB_isub (q := 886) dL_law_885 rfl ?_
      refine VB_top (y := iZ (-1)) rfl ?_
      refine VB_callU (q := 889) dL_law_886 (u_isWrong (a := a) (c := c) (S := S) (b := b) (d := d) (F := F) hI (wr0 hI (by decide) hK) hg840) yv_L_isWrong rfl gL_law_L_isWrong xU_L rfl (Nat.le_of_ble_eq_true rfl) (by decide) ⟨by show _ ≤ 20000; omega, by show _ ≤ 130000; omega⟩ (fun x886 g886 hP886 hg886 => ?_)
      refine VB_em (x := x886) (fun e886 => VB_lo (lo' := 106) (Nat.le_add_right _ _) (VB_top (y := iZ 0) e886 ?_)) (fun e886 => VB_lo (lo' := 108) (by show 108 ≤ 106 + (if x886 = 0 then 0 else 2); rw [if_neg e886]; omega) ?_)
      · skip
        refine VB_if_eq (q := 892) (tgt := 968) dL_law_889 (by decide) (by decide) (fun _ => ?_) (fun hc => absurd hc (by decide))
        exact VB_widen (by omega) (by omega) (J968 g886 hg886)
      · skip
        refine VB_uif_eq (q := 892) (tgt := 968) dL_law_889 (by decide) ?_ ?_
        · skip
          refine VB_lo (lo' := 106) (by omega) ?_
          exact VB_widen (by omega) (by omega) (J968 g886 hg886)
        · skip
          refine VB_iload (q := 894) dL_law_892 8 rfl rfl ?_
          refine VB_bipush (q := 896) dL_law_894 (by decide) rfl ?_
          refine VB_irem (q := 897) (a := 7) (b := 16) dL_law_896 (by omega) (by decide) (by decide) rfl ?_
          refine VB_top (y := iZ 7) rfl ?_
          refine VB_if_gt (q := 900) (tgt := 943) dL_law_897 (by decide) (by decide) (fun _ => ?_) (fun hc => absurd hc (by decide))
          refine VB_iload (q := 945) dL_law_943 8 rfl rfl ?_
          refine VB_bipush (q := 947) dL_law_945 (by decide) rfl ?_
          refine VB_irem (q := 948) (a := 7) (b := 20) dL_law_947 (by omega) (by decide) (by decide) rfl ?_
          refine VB_top (y := iZ 7) rfl ?_
          refine VB_if_gt (q := 951) (tgt := 964) dL_law_948 (by decide) (by decide) (fun _ => ?_) (fun hc => absurd hc (by decide))
          refine VB_iconst (q := 965) dL_law_964 rfl ?_
          refine VB_goto (tgt := 969) dL_law_965 (by decide) ?_
          refine VB_istore (q := 971) (lv' := [(0, _), (1, _), (2, _), (3, _), (4, _), (5, _), (6, _), (7, _), (8, _), (9, _), (10, _)]) dL_law_969 (by decide) rfl rfl ?_
          refine VB_iinc (q := 974) (y := 8) (lv' := [(0, _), (1, _), (2, _), (3, _), (4, _), (5, _), (6, _), (7, _), (8, _), (9, _), (10, _)]) dL_law_971 8 rfl (by omega) (by decide) rfl rfl ?_
          refine VB_goto (tgt := 64) dL_law_974 (by decide) ?_
          refine VB_loc (lv' := [(0, _), (1, _), (2, _), (3, _), (4, _), (5, _), (6, _), (7, _), (8, _)]) [0, 1, 2, 3, 4, 5, 6, 7, 8] rfl ?_
          refine VB_lo (lo' := 108) (by omega) ?_
          exact VB_widen (by omega) (by omega) (rd8 hL h16 hx S F g886 hI (fun _ => hK) hg886)
set_option maxRecDepth 100000 in
set_option maxHeartbeats 8000000 in
theorem rd7 {s0 L : Nat} {xs : Nat → Int32} {a : Nat → Nat} {c : Nat → ClassId} {b : Nat → Nat} {d : Nat → ClassId} (hL : L ≤ 260) (h16 : 80 ≤ L) (hx : ∀ j, j < 80 → xs j = 31) : ∀ (S : St) (F : Nat → Nat → Int32) (g : Nat → Nat), Iv S F 4 → (0 < 7 → sK S 0 = 0) → (∀ j, g j < 4096) → VB 106 RL cL_law 17 (some .boolean) wsL_law roomB (vXL s0 L xs) (tyl c d) (qF 123) (1166) (6996 + 1250) (wal a c S b d F g) 64 [(0, .ref (s0)), (1, .ref (a 0)), (2, .ref (b 0)), (3, .ref (b 1)), (4, .ref (b 2)), (5, .ref (b 3)), (6, .ref (b 4)), (7, .int (iZ 1)), (8, .int (iZ 7))] [] := by
  intro S F g hI hK hg
  obtain ⟨ho, hn, hm4, hM0, hG, hC⟩ := id hI
  refine VB_iload (q := 66) dL_law_64 8 rfl rfl ?_
  refine VB_bipush (q := 68) dL_law_66 (by decide) rfl ?_
  refine VB_icmp_ge (q := 71) (tgt := 977) dL_law_68 (by decide) (by decide) (by decide) (fun hc => absurd hc (by decide)) (fun _ => ?_)
  refine VB_iload (q := 73) dL_law_71 7 rfl rfl ?_
  refine VB_if_eq (q := 76) (tgt := 977) dL_law_73 (by decide) (by decide) (fun hc => absurd hc (by decide)) (fun _ => ?_)
  refine VB_aload_n (q := 77) dL_law_76 0 rfl rfl ?_
  refine VB_iload (q := 79) dL_law_77 8 rfl rfl ?_
  refine VB_callD (q := 82) dL_law_79 (u_dice (b := s0) (L := L) (xs := xs) 7 (by omega) hL (hx 7 (by omega))) yv_L_dice rfl gL_law_L_dice xL_s rfl (Nat.le_of_ble_eq_true rfl) (by decide) ⟨by show _ ≤ 20000; omega, by show _ ≤ 130000; omega⟩ ?_
  refine VB_istore (q := 84) (lv' := [(0, _), (1, _), (2, _), (3, _), (4, _), (5, _), (6, _), (7, _), (8, _), (9, _)]) dL_law_82 (by decide) rfl rfl ?_
  refine VB_iload (q := 86) dL_law_84 9 rfl rfl ?_
  refine VB_bipush (q := 88) dL_law_86 (by decide) rfl ?_
  refine VB_idiv (q := 89) (a := 31) (b := 32) dL_law_88 (by omega) (by decide) (by decide) rfl ?_
  refine VB_top (y := iZ 0) rfl ?_
  refine VB_istore (q := 91) (lv' := [(0, _), (1, _), (2, _), (3, _), (4, _), (5, _), (6, _), (7, _), (8, _), (9, _), (10, _)]) dL_law_89 (by decide) rfl rfl ?_
  refine VB_iload (q := 93) dL_law_91 9 rfl rfl ?_
  refine VB_bipush (q := 95) dL_law_93 (by decide) rfl ?_
  refine VB_irem (q := 96) (a := 31) (b := 32) dL_law_95 (by omega) (by decide) (by decide) rfl ?_
  refine VB_top (y := iZ 31) rfl ?_
  refine VB_istore (q := 98) (lv' := [(0, _), (1, _), (2, _), (3, _), (4, _), (5, _), (6, _), (7, _), (8, _), (9, _), (10, _), (11, _)]) dL_law_96 (by decide) rfl rfl ?_
  refine VB_aload (q := 100) dL_law_98 6 rfl rfl ?_
  refine VB_iconst (q := 101) dL_law_100 rfl ?_
  refine VB_iald (q := 102) (v := (iZ 4)) dL_law_101 13 12 rfl rfl (0) (by omega) (by omega) (by decide) (hM0) rfl ?_
  refine VB_if_ne (q := 105) (tgt := 109) dL_law_102 (by decide) (by decide) (fun _ => ?_) (fun hc => absurd hc (by decide))
  refine VB_iload (q := 111) dL_law_109 10 rfl rfl ?_
  refine VB_aload (q := 113) dL_law_111 6 rfl rfl ?_
  refine VB_iconst (q := 114) dL_law_113 rfl ?_
  refine VB_iald (q := 115) (v := (iZ 4)) dL_law_114 13 12 rfl rfl (0) (by omega) (by omega) (by decide) (hM0) rfl ?_
  refine VB_irem (q := 116) (a := 0) (b := 4) dL_law_115 (by omega) (by decide) (by decide) rfl ?_
  refine VB_top (y := iZ 0) rfl ?_
  refine VB_istore (q := 118) (lv' := [(0, _), (1, _), (2, _), (3, _), (4, _), (5, _), (6, _), (7, _), (8, _), (9, _), (10, _), (11, _), (12, _)]) dL_law_116 (by decide) rfl rfl ?_
  refine VB_aload (q := 120) dL_law_118 6 rfl rfl ?_
  refine VB_iconst (q := 121) dL_law_120 rfl ?_
  refine VB_iald (q := 122) (v := (iZ 4)) dL_law_121 13 12 rfl rfl (0) (by omega) (by omega) (by decide) (hM0) rfl ?_
  refine VB_iconst (q := 123) dL_law_122 rfl ?_
  refine VB_icmp_lt (q := 126) (tgt := 141) dL_law_123 (by decide) (by decide) (by decide) (fun hc => absurd hc (by decide)) (fun _ => ?_)
  refine VB_iload (q := 128) dL_law_126 11 rfl rfl ?_
  refine VB_iconst (q := 129) dL_law_128 rfl ?_
  refine VB_icmp_ge (q := 132) (tgt := 326) dL_law_129 (by decide) (by decide) (by decide) (fun _ => ?_) (fun hc => absurd hc (by decide))
  refine VB_iload (q := 328) dL_law_326 11 rfl rfl ?_
  refine VB_bipush (q := 330) dL_law_328 (by decide) rfl ?_
  refine VB_icmp_ge (q := 333) (tgt := 451) dL_law_330 (by decide) (by decide) (by decide) (fun _ => ?_) (fun hc => absurd hc (by decide))
  refine VB_iload (q := 453) dL_law_451 11 rfl rfl ?_
  refine VB_bipush (q := 455) dL_law_453 (by decide) rfl ?_
  refine VB_icmp_ge (q := 458) (tgt := 603) dL_law_455 (by decide) (by decide) (by decide) (fun _ => ?_) (fun hc => absurd hc (by decide))
  refine VB_iload (q := 605) dL_law_603 11 rfl rfl ?_
  refine VB_bipush (q := 607) dL_law_605 (by decide) rfl ?_
  refine VB_icmp_ge (q := 610) (tgt := 633) dL_law_607 (by decide) (by decide) (by decide) (fun _ => ?_) (fun hc => absurd hc (by decide))
  refine VB_iload (q := 635) dL_law_633 11 rfl rfl ?_
  refine VB_bipush (q := 637) dL_law_635 (by decide) rfl ?_
  refine VB_icmp_ge (q := 640) (tgt := 677) dL_law_637 (by decide) (by decide) (by decide) (fun _ => ?_) (fun hc => absurd hc (by decide))
  refine VB_iload (q := 679) dL_law_677 11 rfl rfl ?_
  refine VB_bipush (q := 681) dL_law_679 (by decide) rfl ?_
  refine VB_icmp_ne (q := 684) (tgt := 783) dL_law_681 (by decide) (by decide) (by decide) (fun _ => ?_) (fun hc => absurd hc (by decide))
  refine VB_loc (lv' := [(0, _), (1, _), (2, _), (3, _), (4, _), (5, _), (6, _), (7, _), (8, _), (9, _), (10, _)]) [0, 1, 2, 3, 4, 5, 6, 7, 8, 9, 10] rfl ?_
  exact VB_widen (by omega) (by omega) (ck7 hL h16 hx S F g hI (hK (by decide)) hg)
set_option maxRecDepth 100000 in
set_option maxHeartbeats 8000000 in
theorem ck6 {s0 L : Nat} {xs : Nat → Int32} {a : Nat → Nat} {c : Nat → ClassId} {b : Nat → Nat} {d : Nat → ClassId} (hL : L ≤ 260) (h16 : 80 ≤ L) (hx : ∀ j, j < 80 → xs j = 31) : ∀ (S : St) (F : Nat → Nat → Int32) (g : Nat → Nat), Iv S F 4 → sK S 0 = 0 → (∀ j, g j < 4096) → VB 104 RL cL_law 17 (some .boolean) wsL_law roomB (vXL s0 L xs) (tyl c d) (qF 123) (946) (5676 + 1250) (wal a c S b d F g) 783 [(0, .ref (s0)), (1, .ref (a 0)), (2, .ref (b 0)), (3, .ref (b 1)), (4, .ref (b 2)), (5, .ref (b 3)), (6, .ref (b 4)), (7, .int (iZ 1)), (8, .int (iZ 6)), (9, .int (iZ 31)), (10, .int (iZ 0))] [] := by
  intro S F g hI hK hg
  obtain ⟨ho, hn, hm4, hM0, hG, hC⟩ := id hI
  refine VB_iload (q := 785) dL_law_783 7 rfl rfl ?_
  refine VB_if_eq (q := 788) (tgt := 968) dL_law_785 (by decide) (by decide) (fun hc => absurd hc (by decide)) (fun _ => ?_)
  refine VB_aload_n (q := 789) dL_law_788 1 rfl rfl ?_
  refine VB_aload_n (q := 790) dL_law_789 2 rfl rfl ?_
  refine VB_aload_n (q := 791) dL_law_790 3 rfl rfl ?_
  refine VB_aload (q := 793) dL_law_791 6 rfl rfl ?_
  refine VB_callU (q := 796) dL_law_793 (u_areThings (a := a) (c := c) (S := S) (b := b) (d := d) (F := F) hI hg) yv_L_areThings rfl gL_law_L_areThings xU_L rfl (Nat.le_of_ble_eq_true rfl) (by decide) ⟨by show _ ≤ 20000; omega, by show _ ≤ 130000; omega⟩ (fun x793 g793 hP793 hg793 => ?_)
  refine VB_lo (lo' := 104) (Nat.le_add_right _ _) ?_
  have J968 : ∀ (gj968 : Nat → Nat), (∀ j, gj968 j < 4096) → VB 104 RL cL_law 17 (some .boolean) wsL_law roomB (vXL s0 L xs) (tyl c d) (qF 123) (1166) (6996 + 1250) (wal a c S b d F gj968) 968 [(0, .ref (s0)), (1, .ref (a 0)), (2, .ref (b 0)), (3, .ref (b 1)), (4, .ref (b 2)), (5, .ref (b 3)), (6, .ref (b 4)), (7, .int (iZ 1)), (8, .int (iZ 6)), (9, .int (iZ 31)), (10, .int (iZ 0))] [] := by
    intro gj968 hgj968
    refine VB_iconst (q := 969) dL_law_968 rfl ?_
    refine VB_istore (q := 971) (lv' := [(0, _), (1, _), (2, _), (3, _), (4, _), (5, _), (6, _), (7, _), (8, _), (9, _), (10, _)]) dL_law_969 (by decide) rfl rfl ?_
    refine VB_iinc (q := 974) (y := 7) (lv' := [(0, _), (1, _), (2, _), (3, _), (4, _), (5, _), (6, _), (7, _), (8, _), (9, _), (10, _)]) dL_law_971 8 rfl (by omega) (by decide) rfl rfl ?_
    refine VB_goto (tgt := 64) dL_law_974 (by decide) ?_
    refine VB_iload (q := 66) dL_law_64 8 rfl rfl ?_
    refine VB_bipush (q := 68) dL_law_66 (by decide) rfl ?_
    refine VB_icmp_ge (q := 71) (tgt := 977) dL_law_68 (by decide) (by decide) (by decide) (fun hc => absurd hc (by decide)) (fun _ => ?_)
    refine VB_iload (q := 73) dL_law_71 7 rfl rfl ?_
    refine VB_if_eq (q := 76) (tgt := 977) dL_law_73 (by decide) (by decide) (fun _ => ?_) (fun hc => absurd hc (by decide))
    refine VB_iload (q := 979) dL_law_977 7 rfl rfl ?_
    exact VB_ret0 dL_law_979 rfl
  refine VB_uif_eq (q := 799) (tgt := 968) dL_law_796 (by decide) ?_ ?_
  · skip
    exact VB_widen (by omega) (by omega) (J968 g793 hg793)
  · skip
    refine VB_iload (q := 801) dL_law_799 8 rfl rfl ?_
    refine VB_iconst (q := 802) dL_law_801 rfl ?_
    refine VB_irem (q := 803) (a := 6) (b := 2) dL_law_802 (by omega) (by decide) (by decide) rfl ?_
    refine VB_top (y := iZ 0) rfl ?_
    refine VB_if_gt (q := 806) (tgt := 833) dL_law_803 (by decide) (by decide) (fun hc => absurd hc (by decide)) (fun _ => ?_)
    refine VB_aload_n (q := 807) dL_law_806 1 rfl rfl ?_
    refine VB_aload_n (q := 808) dL_law_807 2 rfl rfl ?_
    refine VB_aload_n (q := 809) dL_law_808 3 rfl rfl ?_
    refine VB_aload (q := 811) dL_law_809 4 rfl rfl ?_
    refine VB_aload (q := 813) dL_law_811 6 rfl rfl ?_
    refine VB_iload (q := 815) dL_law_813 10 rfl rfl ?_
    refine VB_bipush (q := 817) dL_law_815 (by decide) rfl ?_
    refine VB_irem (q := 818) (a := 0) (b := 31) dL_law_817 (by omega) (by decide) (by decide) rfl ?_
    refine VB_top (y := iZ 0) rfl ?_
    refine VB_iload (q := 820) dL_law_818 10 rfl rfl ?_
    refine VB_bipush (q := 822) dL_law_820 (by decide) rfl ?_
    refine VB_idiv (q := 823) (a := 0) (b := 31) dL_law_822 (by omega) (by decide) (by decide) rfl ?_
    refine VB_top (y := iZ 0) rfl ?_
    refine VB_sipush (q := 826) dL_law_823 (by decide) rfl ?_
    refine VB_irem (q := 827) (a := 0) (b := 256) dL_law_826 (by omega) (by decide) (by decide) rfl ?_
    refine VB_top (y := iZ 0) rfl ?_
    refine VB_callU (q := 830) dL_law_827 (u_areOutfits (a := a) (c := c) (S := S) (b := b) (d := d) (F := F) hI hg793) yv_L_areOutfits rfl gL_law_L_areOutfits xU_L rfl (Nat.le_of_ble_eq_true rfl) (by decide) ⟨by show _ ≤ 20000; omega, by show _ ≤ 130000; omega⟩ (fun x827 g827 hP827 hg827 => ?_)
    refine VB_lo (lo' := 104) (Nat.le_add_right _ _) ?_
    refine VB_uif_eq (q := 833) (tgt := 968) dL_law_830 (by decide) ?_ ?_
    · skip
      exact VB_widen (by omega) (by omega) (J968 g827 hg827)
    · skip
      refine VB_aload_n (q := 834) dL_law_833 1 rfl rfl ?_
      refine VB_aload_n (q := 835) dL_law_834 2 rfl rfl ?_
      refine VB_aload_n (q := 836) dL_law_835 3 rfl rfl ?_
      refine VB_aload (q := 838) dL_law_836 4 rfl rfl ?_
      refine VB_aload (q := 840) dL_law_838 6 rfl rfl ?_
      refine VB_callU (q := 843) dL_law_840 (u_isMissing (a := a) (c := c) (S := S) (b := b) (d := d) (F := F) hI hg827) yv_L_isMissing rfl gL_law_L_isMissing xU_L rfl (Nat.le_of_ble_eq_true rfl) (by decide) ⟨by show _ ≤ 20000; omega, by show _ ≤ 130000; omega⟩ (fun x840 g840 hP840 hg840 => ?_)
      refine VB_lo (lo' := 104) (Nat.le_add_right _ _) ?_
      refine VB_uif_eq (q := 846) (tgt := 968) dL_law_843 (by decide) ?_ ?_
      · skip
        exact VB_widen (by omega) (by omega) (J968 g840 hg840)
      · skip
        refine VB_aload_n (q := 847) dL_law_846 1 rfl rfl ?_
        refine VB_aload_n (q := 848) dL_law_847 2 rfl rfl ?_
        refine VB_aload (q := 850) dL_law_848 6 rfl rfl ?_
        refine VB_iload (q := 852) dL_law_850 10 rfl rfl ?_
        refine VB_aload (q := 854) dL_law_852 6 rfl rfl ?_
        refine VB_iconst (q := 855) dL_law_854 rfl ?_
        refine VB_iald (q := 856) (v := (iZ 4)) dL_law_855 13 12 rfl rfl (0) (by omega) (by omega) (by decide) (hM0) rfl ?_
        refine VB_iconst (q := 857) dL_law_856 rfl ?_
        refine VB_iadd (q := 858) dL_law_857 rfl ?_
        refine VB_top (y := iZ 5) rfl ?_
        refine VB_irem (q := 859) (a := 0) (b := 5) dL_law_858 (by omega) (by decide) (by decide) rfl ?_
        refine VB_top (y := iZ 0) rfl ?_
        refine VB_iload (q := 861) dL_law_859 10 rfl rfl ?_
        refine VB_bipush (q := 863) dL_law_861 (by decide) rfl ?_
        refine VB_idiv (q := 864) (a := 0) (b := 13) dL_law_863 (by omega) (by decide) (by decide) rfl ?_
        refine VB_top (y := iZ 0) rfl ?_
        refine VB_aload (q := 866) dL_law_864 6 rfl rfl ?_
        refine VB_iconst (q := 867) dL_law_866 rfl ?_
        refine VB_iald (q := 868) (v := (iZ 4)) dL_law_867 13 12 rfl rfl (0) (by omega) (by omega) (by decide) (hM0) rfl ?_
        refine VB_iconst (q := 869) dL_law_868 rfl ?_
        refine VB_iadd (q := 870) dL_law_869 rfl ?_
        refine VB_top (y := iZ 5) rfl ?_
        refine VB_irem (q := 871) (a := 0) (b := 5) dL_law_870 (by omega) (by decide) (by decide) rfl ?_
        refine VB_top (y := iZ 0) rfl ?_
        refine VB_iload (q := 873) dL_law_871 10 rfl rfl ?_
        refine VB_sipush (q := 876) dL_law_873 (by decide) rfl ?_
        refine VB_idiv (q := 877) (a := 0) (b := 169) dL_law_876 (by omega) (by decide) (by decide) rfl ?_
        refine VB_top (y := iZ 0) rfl ?_
        refine VB_aload (q := 879) dL_law_877 6 rfl rfl ?_
        refine VB_iconst (q := 880) dL_law_879 rfl ?_
        refine VB_iald (q := 881) (v := (iZ 4)) dL_law_880 13 12 rfl rfl (0) (by omega) (by omega) (by decide) (hM0) rfl ?_
        refine VB_iconst (q := 882) dL_law_881 rfl ?_
        refine VB_iadd (q := 883) dL_law_882 rfl ?_
        refine VB_top (y := iZ 6) rfl ?_
        refine VB_irem (q := 884) (a := 0) (b := 6) dL_law_883 (by omega) (by decide) (by decide) rfl ?_
        refine VB_top (y := iZ 0) rfl ?_
        refine VB_iconst (q := 885) dL_law_884 rfl ?_
        refine VB_isub (q := 886) dL_law_885 rfl ?_
        refine VB_top (y := iZ (-1)) rfl ?_
        refine VB_callU (q := 889) dL_law_886 (u_isWrong (a := a) (c := c) (S := S) (b := b) (d := d) (F := F) hI (wr0 hI (by decide) hK) hg840) yv_L_isWrong rfl gL_law_L_isWrong xU_L rfl (Nat.le_of_ble_eq_true rfl) (by decide) ⟨by show _ ≤ 20000; omega, by show _ ≤ 130000; omega⟩ (fun x886 g886 hP886 hg886 => ?_)
        refine VB_em (x := x886) (fun e886 => VB_lo (lo' := 104) (Nat.le_add_right _ _) (VB_top (y := iZ 0) e886 ?_)) (fun e886 => VB_lo (lo' := 106) (by show 106 ≤ 104 + (if x886 = 0 then 0 else 2); rw [if_neg e886]; omega) ?_)
        · skip
          refine VB_if_eq (q := 892) (tgt := 968) dL_law_889 (by decide) (by decide) (fun _ => ?_) (fun hc => absurd hc (by decide))
          exact VB_widen (by omega) (by omega) (J968 g886 hg886)
        · skip
          refine VB_uif_eq (q := 892) (tgt := 968) dL_law_889 (by decide) ?_ ?_
          · skip
            refine VB_lo (lo' := 104) (by omega) ?_
            exact VB_widen (by omega) (by omega) (J968 g886 hg886)
          · skip
            refine VB_iload (q := 894) dL_law_892 8 rfl rfl ?_
            refine VB_bipush (q := 896) dL_law_894 (by decide) rfl ?_
            refine VB_irem (q := 897) (a := 6) (b := 16) dL_law_896 (by omega) (by decide) (by decide) rfl ?_
            refine VB_top (y := iZ 6) rfl ?_
            refine VB_if_gt (q := 900) (tgt := 943) dL_law_897 (by decide) (by decide) (fun _ => ?_) (fun hc => absurd hc (by decide))
            refine VB_iload (q := 945) dL_law_943 8 rfl rfl ?_
            refine VB_bipush (q := 947) dL_law_945 (by decide) rfl ?_
            refine VB_irem (q := 948) (a := 6) (b := 20) dL_law_947 (by omega) (by decide) (by decide) rfl ?_
            refine VB_top (y := iZ 6) rfl ?_
            refine VB_if_gt (q := 951) (tgt := 964) dL_law_948 (by decide) (by decide) (fun _ => ?_) (fun hc => absurd hc (by decide))
            refine VB_iconst (q := 965) dL_law_964 rfl ?_
            refine VB_goto (tgt := 969) dL_law_965 (by decide) ?_
            refine VB_istore (q := 971) (lv' := [(0, _), (1, _), (2, _), (3, _), (4, _), (5, _), (6, _), (7, _), (8, _), (9, _), (10, _)]) dL_law_969 (by decide) rfl rfl ?_
            refine VB_iinc (q := 974) (y := 7) (lv' := [(0, _), (1, _), (2, _), (3, _), (4, _), (5, _), (6, _), (7, _), (8, _), (9, _), (10, _)]) dL_law_971 8 rfl (by omega) (by decide) rfl rfl ?_
            refine VB_goto (tgt := 64) dL_law_974 (by decide) ?_
            refine VB_loc (lv' := [(0, _), (1, _), (2, _), (3, _), (4, _), (5, _), (6, _), (7, _), (8, _)]) [0, 1, 2, 3, 4, 5, 6, 7, 8] rfl ?_
            refine VB_lo (lo' := 106) (by omega) ?_
            exact VB_widen (by omega) (by omega) (rd7 hL h16 hx S F g886 hI (fun _ => hK) hg886)
set_option maxRecDepth 100000 in
set_option maxHeartbeats 8000000 in
theorem rd6 {s0 L : Nat} {xs : Nat → Int32} {a : Nat → Nat} {c : Nat → ClassId} {b : Nat → Nat} {d : Nat → ClassId} (hL : L ≤ 260) (h16 : 80 ≤ L) (hx : ∀ j, j < 80 → xs j = 31) : ∀ (S : St) (F : Nat → Nat → Int32) (g : Nat → Nat), Iv S F 4 → (0 < 6 → sK S 0 = 0) → (∀ j, g j < 4096) → VB 104 RL cL_law 17 (some .boolean) wsL_law roomB (vXL s0 L xs) (tyl c d) (qF 123) (946) (5676 + 1250) (wal a c S b d F g) 64 [(0, .ref (s0)), (1, .ref (a 0)), (2, .ref (b 0)), (3, .ref (b 1)), (4, .ref (b 2)), (5, .ref (b 3)), (6, .ref (b 4)), (7, .int (iZ 1)), (8, .int (iZ 6))] [] := by
  intro S F g hI hK hg
  obtain ⟨ho, hn, hm4, hM0, hG, hC⟩ := id hI
  refine VB_iload (q := 66) dL_law_64 8 rfl rfl ?_
  refine VB_bipush (q := 68) dL_law_66 (by decide) rfl ?_
  refine VB_icmp_ge (q := 71) (tgt := 977) dL_law_68 (by decide) (by decide) (by decide) (fun hc => absurd hc (by decide)) (fun _ => ?_)
  refine VB_iload (q := 73) dL_law_71 7 rfl rfl ?_
  refine VB_if_eq (q := 76) (tgt := 977) dL_law_73 (by decide) (by decide) (fun hc => absurd hc (by decide)) (fun _ => ?_)
  refine VB_aload_n (q := 77) dL_law_76 0 rfl rfl ?_
  refine VB_iload (q := 79) dL_law_77 8 rfl rfl ?_
  refine VB_callD (q := 82) dL_law_79 (u_dice (b := s0) (L := L) (xs := xs) 6 (by omega) hL (hx 6 (by omega))) yv_L_dice rfl gL_law_L_dice xL_s rfl (Nat.le_of_ble_eq_true rfl) (by decide) ⟨by show _ ≤ 20000; omega, by show _ ≤ 130000; omega⟩ ?_
  refine VB_istore (q := 84) (lv' := [(0, _), (1, _), (2, _), (3, _), (4, _), (5, _), (6, _), (7, _), (8, _), (9, _)]) dL_law_82 (by decide) rfl rfl ?_
  refine VB_iload (q := 86) dL_law_84 9 rfl rfl ?_
  refine VB_bipush (q := 88) dL_law_86 (by decide) rfl ?_
  refine VB_idiv (q := 89) (a := 31) (b := 32) dL_law_88 (by omega) (by decide) (by decide) rfl ?_
  refine VB_top (y := iZ 0) rfl ?_
  refine VB_istore (q := 91) (lv' := [(0, _), (1, _), (2, _), (3, _), (4, _), (5, _), (6, _), (7, _), (8, _), (9, _), (10, _)]) dL_law_89 (by decide) rfl rfl ?_
  refine VB_iload (q := 93) dL_law_91 9 rfl rfl ?_
  refine VB_bipush (q := 95) dL_law_93 (by decide) rfl ?_
  refine VB_irem (q := 96) (a := 31) (b := 32) dL_law_95 (by omega) (by decide) (by decide) rfl ?_
  refine VB_top (y := iZ 31) rfl ?_
  refine VB_istore (q := 98) (lv' := [(0, _), (1, _), (2, _), (3, _), (4, _), (5, _), (6, _), (7, _), (8, _), (9, _), (10, _), (11, _)]) dL_law_96 (by decide) rfl rfl ?_
  refine VB_aload (q := 100) dL_law_98 6 rfl rfl ?_
  refine VB_iconst (q := 101) dL_law_100 rfl ?_
  refine VB_iald (q := 102) (v := (iZ 4)) dL_law_101 13 12 rfl rfl (0) (by omega) (by omega) (by decide) (hM0) rfl ?_
  refine VB_if_ne (q := 105) (tgt := 109) dL_law_102 (by decide) (by decide) (fun _ => ?_) (fun hc => absurd hc (by decide))
  refine VB_iload (q := 111) dL_law_109 10 rfl rfl ?_
  refine VB_aload (q := 113) dL_law_111 6 rfl rfl ?_
  refine VB_iconst (q := 114) dL_law_113 rfl ?_
  refine VB_iald (q := 115) (v := (iZ 4)) dL_law_114 13 12 rfl rfl (0) (by omega) (by omega) (by decide) (hM0) rfl ?_
  refine VB_irem (q := 116) (a := 0) (b := 4) dL_law_115 (by omega) (by decide) (by decide) rfl ?_
  refine VB_top (y := iZ 0) rfl ?_
  refine VB_istore (q := 118) (lv' := [(0, _), (1, _), (2, _), (3, _), (4, _), (5, _), (6, _), (7, _), (8, _), (9, _), (10, _), (11, _), (12, _)]) dL_law_116 (by decide) rfl rfl ?_
  refine VB_aload (q := 120) dL_law_118 6 rfl rfl ?_
  refine VB_iconst (q := 121) dL_law_120 rfl ?_
  refine VB_iald (q := 122) (v := (iZ 4)) dL_law_121 13 12 rfl rfl (0) (by omega) (by omega) (by decide) (hM0) rfl ?_
  refine VB_iconst (q := 123) dL_law_122 rfl ?_
  refine VB_icmp_lt (q := 126) (tgt := 141) dL_law_123 (by decide) (by decide) (by decide) (fun hc => absurd hc (by decide)) (fun _ => ?_)
  refine VB_iload (q := 128) dL_law_126 11 rfl rfl ?_
  refine VB_iconst (q := 129) dL_law_128 rfl ?_
  refine VB_icmp_ge (q := 132) (tgt := 326) dL_law_129 (by decide) (by decide) (by decide) (fun _ => ?_) (fun hc => absurd hc (by decide))
  refine VB_iload (q := 328) dL_law_326 11 rfl rfl ?_
  refine VB_bipush (q := 330) dL_law_328 (by decide) rfl ?_
  refine VB_icmp_ge (q := 333) (tgt := 451) dL_law_330 (by decide) (by decide) (by decide) (fun _ => ?_) (fun hc => absurd hc (by decide))
  refine VB_iload (q := 453) dL_law_451 11 rfl rfl ?_
  refine VB_bipush (q := 455) dL_law_453 (by decide) rfl ?_
  refine VB_icmp_ge (q := 458) (tgt := 603) dL_law_455 (by decide) (by decide) (by decide) (fun _ => ?_) (fun hc => absurd hc (by decide))
  refine VB_iload (q := 605) dL_law_603 11 rfl rfl ?_
  refine VB_bipush (q := 607) dL_law_605 (by decide) rfl ?_
  refine VB_icmp_ge (q := 610) (tgt := 633) dL_law_607 (by decide) (by decide) (by decide) (fun _ => ?_) (fun hc => absurd hc (by decide))
  refine VB_iload (q := 635) dL_law_633 11 rfl rfl ?_
  refine VB_bipush (q := 637) dL_law_635 (by decide) rfl ?_
  refine VB_icmp_ge (q := 640) (tgt := 677) dL_law_637 (by decide) (by decide) (by decide) (fun _ => ?_) (fun hc => absurd hc (by decide))
  refine VB_iload (q := 679) dL_law_677 11 rfl rfl ?_
  refine VB_bipush (q := 681) dL_law_679 (by decide) rfl ?_
  refine VB_icmp_ne (q := 684) (tgt := 783) dL_law_681 (by decide) (by decide) (by decide) (fun _ => ?_) (fun hc => absurd hc (by decide))
  refine VB_loc (lv' := [(0, _), (1, _), (2, _), (3, _), (4, _), (5, _), (6, _), (7, _), (8, _), (9, _), (10, _)]) [0, 1, 2, 3, 4, 5, 6, 7, 8, 9, 10] rfl ?_
  exact VB_widen (by omega) (by omega) (ck6 hL h16 hx S F g hI (hK (by decide)) hg)
set_option maxRecDepth 100000 in
set_option maxHeartbeats 8000000 in
theorem ck5 {s0 L : Nat} {xs : Nat → Int32} {a : Nat → Nat} {c : Nat → ClassId} {b : Nat → Nat} {d : Nat → ClassId} (hL : L ≤ 260) (h16 : 80 ≤ L) (hx : ∀ j, j < 80 → xs j = 31) : ∀ (S : St) (F : Nat → Nat → Int32) (g : Nat → Nat), Iv S F 4 → sK S 0 = 0 → (∀ j, g j < 4096) → VB 102 RL cL_law 17 (some .boolean) wsL_law roomB (vXL s0 L xs) (tyl c d) (qF 123) (926) (5556 + 1250) (wal a c S b d F g) 783 [(0, .ref (s0)), (1, .ref (a 0)), (2, .ref (b 0)), (3, .ref (b 1)), (4, .ref (b 2)), (5, .ref (b 3)), (6, .ref (b 4)), (7, .int (iZ 1)), (8, .int (iZ 5)), (9, .int (iZ 31)), (10, .int (iZ 0))] [] := by
  intro S F g hI hK hg
  obtain ⟨ho, hn, hm4, hM0, hG, hC⟩ := id hI
  refine VB_iload (q := 785) dL_law_783 7 rfl rfl ?_
  refine VB_if_eq (q := 788) (tgt := 968) dL_law_785 (by decide) (by decide) (fun hc => absurd hc (by decide)) (fun _ => ?_)
  refine VB_aload_n (q := 789) dL_law_788 1 rfl rfl ?_
  refine VB_aload_n (q := 790) dL_law_789 2 rfl rfl ?_
  refine VB_aload_n (q := 791) dL_law_790 3 rfl rfl ?_
  refine VB_aload (q := 793) dL_law_791 6 rfl rfl ?_
  refine VB_callU (q := 796) dL_law_793 (u_areThings (a := a) (c := c) (S := S) (b := b) (d := d) (F := F) hI hg) yv_L_areThings rfl gL_law_L_areThings xU_L rfl (Nat.le_of_ble_eq_true rfl) (by decide) ⟨by show _ ≤ 20000; omega, by show _ ≤ 130000; omega⟩ (fun x793 g793 hP793 hg793 => ?_)
  refine VB_lo (lo' := 102) (Nat.le_add_right _ _) ?_
  have J968 : ∀ (gj968 : Nat → Nat), (∀ j, gj968 j < 4096) → VB 102 RL cL_law 17 (some .boolean) wsL_law roomB (vXL s0 L xs) (tyl c d) (qF 123) (946) (5676 + 1250) (wal a c S b d F gj968) 968 [(0, .ref (s0)), (1, .ref (a 0)), (2, .ref (b 0)), (3, .ref (b 1)), (4, .ref (b 2)), (5, .ref (b 3)), (6, .ref (b 4)), (7, .int (iZ 1)), (8, .int (iZ 5)), (9, .int (iZ 31)), (10, .int (iZ 0))] [] := by
    intro gj968 hgj968
    refine VB_iconst (q := 969) dL_law_968 rfl ?_
    refine VB_istore (q := 971) (lv' := [(0, _), (1, _), (2, _), (3, _), (4, _), (5, _), (6, _), (7, _), (8, _), (9, _), (10, _)]) dL_law_969 (by decide) rfl rfl ?_
    refine VB_iinc (q := 974) (y := 6) (lv' := [(0, _), (1, _), (2, _), (3, _), (4, _), (5, _), (6, _), (7, _), (8, _), (9, _), (10, _)]) dL_law_971 8 rfl (by omega) (by decide) rfl rfl ?_
    refine VB_goto (tgt := 64) dL_law_974 (by decide) ?_
    refine VB_iload (q := 66) dL_law_64 8 rfl rfl ?_
    refine VB_bipush (q := 68) dL_law_66 (by decide) rfl ?_
    refine VB_icmp_ge (q := 71) (tgt := 977) dL_law_68 (by decide) (by decide) (by decide) (fun hc => absurd hc (by decide)) (fun _ => ?_)
    refine VB_iload (q := 73) dL_law_71 7 rfl rfl ?_
    refine VB_if_eq (q := 76) (tgt := 977) dL_law_73 (by decide) (by decide) (fun _ => ?_) (fun hc => absurd hc (by decide))
    refine VB_iload (q := 979) dL_law_977 7 rfl rfl ?_
    exact VB_ret0 dL_law_979 rfl
  refine VB_uif_eq (q := 799) (tgt := 968) dL_law_796 (by decide) ?_ ?_
  · skip
    exact VB_widen (by omega) (by omega) (J968 g793 hg793)
  · skip
    refine VB_iload (q := 801) dL_law_799 8 rfl rfl ?_
    refine VB_iconst (q := 802) dL_law_801 rfl ?_
    refine VB_irem (q := 803) (a := 5) (b := 2) dL_law_802 (by omega) (by decide) (by decide) rfl ?_
    refine VB_top (y := iZ 1) rfl ?_
    refine VB_if_gt (q := 806) (tgt := 833) dL_law_803 (by decide) (by decide) (fun _ => ?_) (fun hc => absurd hc (by decide))
    refine VB_aload_n (q := 834) dL_law_833 1 rfl rfl ?_
    refine VB_aload_n (q := 835) dL_law_834 2 rfl rfl ?_
    refine VB_aload_n (q := 836) dL_law_835 3 rfl rfl ?_
    refine VB_aload (q := 838) dL_law_836 4 rfl rfl ?_
    refine VB_aload (q := 840) dL_law_838 6 rfl rfl ?_
    refine VB_callU (q := 843) dL_law_840 (u_isMissing (a := a) (c := c) (S := S) (b := b) (d := d) (F := F) hI hg793) yv_L_isMissing rfl gL_law_L_isMissing xU_L rfl (Nat.le_of_ble_eq_true rfl) (by decide) ⟨by show _ ≤ 20000; omega, by show _ ≤ 130000; omega⟩ (fun x840 g840 hP840 hg840 => ?_)
    refine VB_lo (lo' := 102) (Nat.le_add_right _ _) ?_
    refine VB_uif_eq (q := 846) (tgt := 968) dL_law_843 (by decide) ?_ ?_
    · skip
      exact VB_widen (by omega) (by omega) (J968 g840 hg840)
    · skip
      refine VB_aload_n (q := 847) dL_law_846 1 rfl rfl ?_
      refine VB_aload_n (q := 848) dL_law_847 2 rfl rfl ?_
      refine VB_aload (q := 850) dL_law_848 6 rfl rfl ?_
      refine VB_iload (q := 852) dL_law_850 10 rfl rfl ?_
      refine VB_aload (q := 854) dL_law_852 6 rfl rfl ?_
      refine VB_iconst (q := 855) dL_law_854 rfl ?_
      refine VB_iald (q := 856) (v := (iZ 4)) dL_law_855 13 12 rfl rfl (0) (by omega) (by omega) (by decide) (hM0) rfl ?_
      refine VB_iconst (q := 857) dL_law_856 rfl ?_
      refine VB_iadd (q := 858) dL_law_857 rfl ?_
      refine VB_top (y := iZ 5) rfl ?_
      refine VB_irem (q := 859) (a := 0) (b := 5) dL_law_858 (by omega) (by decide) (by decide) rfl ?_
      refine VB_top (y := iZ 0) rfl ?_
      refine VB_iload (q := 861) dL_law_859 10 rfl rfl ?_
      refine VB_bipush (q := 863) dL_law_861 (by decide) rfl ?_
      refine VB_idiv (q := 864) (a := 0) (b := 13) dL_law_863 (by omega) (by decide) (by decide) rfl ?_
      refine VB_top (y := iZ 0) rfl ?_
      refine VB_aload (q := 866) dL_law_864 6 rfl rfl ?_
      refine VB_iconst (q := 867) dL_law_866 rfl ?_
      refine VB_iald (q := 868) (v := (iZ 4)) dL_law_867 13 12 rfl rfl (0) (by omega) (by omega) (by decide) (hM0) rfl ?_
      refine VB_iconst (q := 869) dL_law_868 rfl ?_
      refine VB_iadd (q := 870) dL_law_869 rfl ?_
      refine VB_top (y := iZ 5) rfl ?_
      refine VB_irem (q := 871) (a := 0) (b := 5) dL_law_870 (by omega) (by decide) (by decide) rfl ?_
      refine VB_top (y := iZ 0) rfl ?_
      refine VB_iload (q := 873) dL_law_871 10 rfl rfl ?_
      refine VB_sipush (q := 876) dL_law_873 (by decide) rfl ?_
      refine VB_idiv (q := 877) (a := 0) (b := 169) dL_law_876 (by omega) (by decide) (by decide) rfl ?_
      refine VB_top (y := iZ 0) rfl ?_
      refine VB_aload (q := 879) dL_law_877 6 rfl rfl ?_
      refine VB_iconst (q := 880) dL_law_879 rfl ?_
      refine VB_iald (q := 881) (v := (iZ 4)) dL_law_880 13 12 rfl rfl (0) (by omega) (by omega) (by decide) (hM0) rfl ?_
      refine VB_iconst (q := 882) dL_law_881 rfl ?_
      refine VB_iadd (q := 883) dL_law_882 rfl ?_
      refine VB_top (y := iZ 6) rfl ?_
      refine VB_irem (q := 884) (a := 0) (b := 6) dL_law_883 (by omega) (by decide) (by decide) rfl ?_
      refine VB_top (y := iZ 0) rfl ?_
      refine VB_iconst (q := 885) dL_law_884 rfl ?_
      refine VB_isub (q := 886) dL_law_885 rfl ?_
      refine VB_top (y := iZ (-1)) rfl ?_
      refine VB_callU (q := 889) dL_law_886 (u_isWrong (a := a) (c := c) (S := S) (b := b) (d := d) (F := F) hI (wr0 hI (by decide) hK) hg840) yv_L_isWrong rfl gL_law_L_isWrong xU_L rfl (Nat.le_of_ble_eq_true rfl) (by decide) ⟨by show _ ≤ 20000; omega, by show _ ≤ 130000; omega⟩ (fun x886 g886 hP886 hg886 => ?_)
      refine VB_em (x := x886) (fun e886 => VB_lo (lo' := 102) (Nat.le_add_right _ _) (VB_top (y := iZ 0) e886 ?_)) (fun e886 => VB_lo (lo' := 104) (by show 104 ≤ 102 + (if x886 = 0 then 0 else 2); rw [if_neg e886]; omega) ?_)
      · skip
        refine VB_if_eq (q := 892) (tgt := 968) dL_law_889 (by decide) (by decide) (fun _ => ?_) (fun hc => absurd hc (by decide))
        exact VB_widen (by omega) (by omega) (J968 g886 hg886)
      · skip
        refine VB_uif_eq (q := 892) (tgt := 968) dL_law_889 (by decide) ?_ ?_
        · skip
          refine VB_lo (lo' := 102) (by omega) ?_
          exact VB_widen (by omega) (by omega) (J968 g886 hg886)
        · skip
          refine VB_iload (q := 894) dL_law_892 8 rfl rfl ?_
          refine VB_bipush (q := 896) dL_law_894 (by decide) rfl ?_
          refine VB_irem (q := 897) (a := 5) (b := 16) dL_law_896 (by omega) (by decide) (by decide) rfl ?_
          refine VB_top (y := iZ 5) rfl ?_
          refine VB_if_gt (q := 900) (tgt := 943) dL_law_897 (by decide) (by decide) (fun _ => ?_) (fun hc => absurd hc (by decide))
          refine VB_iload (q := 945) dL_law_943 8 rfl rfl ?_
          refine VB_bipush (q := 947) dL_law_945 (by decide) rfl ?_
          refine VB_irem (q := 948) (a := 5) (b := 20) dL_law_947 (by omega) (by decide) (by decide) rfl ?_
          refine VB_top (y := iZ 5) rfl ?_
          refine VB_if_gt (q := 951) (tgt := 964) dL_law_948 (by decide) (by decide) (fun _ => ?_) (fun hc => absurd hc (by decide))
          refine VB_iconst (q := 965) dL_law_964 rfl ?_
          refine VB_goto (tgt := 969) dL_law_965 (by decide) ?_
          refine VB_istore (q := 971) (lv' := [(0, _), (1, _), (2, _), (3, _), (4, _), (5, _), (6, _), (7, _), (8, _), (9, _), (10, _)]) dL_law_969 (by decide) rfl rfl ?_
          refine VB_iinc (q := 974) (y := 6) (lv' := [(0, _), (1, _), (2, _), (3, _), (4, _), (5, _), (6, _), (7, _), (8, _), (9, _), (10, _)]) dL_law_971 8 rfl (by omega) (by decide) rfl rfl ?_
          refine VB_goto (tgt := 64) dL_law_974 (by decide) ?_
          refine VB_loc (lv' := [(0, _), (1, _), (2, _), (3, _), (4, _), (5, _), (6, _), (7, _), (8, _)]) [0, 1, 2, 3, 4, 5, 6, 7, 8] rfl ?_
          refine VB_lo (lo' := 104) (by omega) ?_
          exact VB_widen (by omega) (by omega) (rd6 hL h16 hx S F g886 hI (fun _ => hK) hg886)
set_option maxRecDepth 100000 in
set_option maxHeartbeats 8000000 in
theorem rd5 {s0 L : Nat} {xs : Nat → Int32} {a : Nat → Nat} {c : Nat → ClassId} {b : Nat → Nat} {d : Nat → ClassId} (hL : L ≤ 260) (h16 : 80 ≤ L) (hx : ∀ j, j < 80 → xs j = 31) : ∀ (S : St) (F : Nat → Nat → Int32) (g : Nat → Nat), Iv S F 4 → (0 < 5 → sK S 0 = 0) → (∀ j, g j < 4096) → VB 102 RL cL_law 17 (some .boolean) wsL_law roomB (vXL s0 L xs) (tyl c d) (qF 123) (926) (5556 + 1250) (wal a c S b d F g) 64 [(0, .ref (s0)), (1, .ref (a 0)), (2, .ref (b 0)), (3, .ref (b 1)), (4, .ref (b 2)), (5, .ref (b 3)), (6, .ref (b 4)), (7, .int (iZ 1)), (8, .int (iZ 5))] [] := by
  intro S F g hI hK hg
  obtain ⟨ho, hn, hm4, hM0, hG, hC⟩ := id hI
  refine VB_iload (q := 66) dL_law_64 8 rfl rfl ?_
  refine VB_bipush (q := 68) dL_law_66 (by decide) rfl ?_
  refine VB_icmp_ge (q := 71) (tgt := 977) dL_law_68 (by decide) (by decide) (by decide) (fun hc => absurd hc (by decide)) (fun _ => ?_)
  refine VB_iload (q := 73) dL_law_71 7 rfl rfl ?_
  refine VB_if_eq (q := 76) (tgt := 977) dL_law_73 (by decide) (by decide) (fun hc => absurd hc (by decide)) (fun _ => ?_)
  refine VB_aload_n (q := 77) dL_law_76 0 rfl rfl ?_
  refine VB_iload (q := 79) dL_law_77 8 rfl rfl ?_
  refine VB_callD (q := 82) dL_law_79 (u_dice (b := s0) (L := L) (xs := xs) 5 (by omega) hL (hx 5 (by omega))) yv_L_dice rfl gL_law_L_dice xL_s rfl (Nat.le_of_ble_eq_true rfl) (by decide) ⟨by show _ ≤ 20000; omega, by show _ ≤ 130000; omega⟩ ?_
  refine VB_istore (q := 84) (lv' := [(0, _), (1, _), (2, _), (3, _), (4, _), (5, _), (6, _), (7, _), (8, _), (9, _)]) dL_law_82 (by decide) rfl rfl ?_
  refine VB_iload (q := 86) dL_law_84 9 rfl rfl ?_
  refine VB_bipush (q := 88) dL_law_86 (by decide) rfl ?_
  refine VB_idiv (q := 89) (a := 31) (b := 32) dL_law_88 (by omega) (by decide) (by decide) rfl ?_
  refine VB_top (y := iZ 0) rfl ?_
  refine VB_istore (q := 91) (lv' := [(0, _), (1, _), (2, _), (3, _), (4, _), (5, _), (6, _), (7, _), (8, _), (9, _), (10, _)]) dL_law_89 (by decide) rfl rfl ?_
  refine VB_iload (q := 93) dL_law_91 9 rfl rfl ?_
  refine VB_bipush (q := 95) dL_law_93 (by decide) rfl ?_
  refine VB_irem (q := 96) (a := 31) (b := 32) dL_law_95 (by omega) (by decide) (by decide) rfl ?_
  refine VB_top (y := iZ 31) rfl ?_
  refine VB_istore (q := 98) (lv' := [(0, _), (1, _), (2, _), (3, _), (4, _), (5, _), (6, _), (7, _), (8, _), (9, _), (10, _), (11, _)]) dL_law_96 (by decide) rfl rfl ?_
  refine VB_aload (q := 100) dL_law_98 6 rfl rfl ?_
  refine VB_iconst (q := 101) dL_law_100 rfl ?_
  refine VB_iald (q := 102) (v := (iZ 4)) dL_law_101 13 12 rfl rfl (0) (by omega) (by omega) (by decide) (hM0) rfl ?_
  refine VB_if_ne (q := 105) (tgt := 109) dL_law_102 (by decide) (by decide) (fun _ => ?_) (fun hc => absurd hc (by decide))
  refine VB_iload (q := 111) dL_law_109 10 rfl rfl ?_
  refine VB_aload (q := 113) dL_law_111 6 rfl rfl ?_
  refine VB_iconst (q := 114) dL_law_113 rfl ?_
  refine VB_iald (q := 115) (v := (iZ 4)) dL_law_114 13 12 rfl rfl (0) (by omega) (by omega) (by decide) (hM0) rfl ?_
  refine VB_irem (q := 116) (a := 0) (b := 4) dL_law_115 (by omega) (by decide) (by decide) rfl ?_
  refine VB_top (y := iZ 0) rfl ?_
  refine VB_istore (q := 118) (lv' := [(0, _), (1, _), (2, _), (3, _), (4, _), (5, _), (6, _), (7, _), (8, _), (9, _), (10, _), (11, _), (12, _)]) dL_law_116 (by decide) rfl rfl ?_
  refine VB_aload (q := 120) dL_law_118 6 rfl rfl ?_
  refine VB_iconst (q := 121) dL_law_120 rfl ?_
  refine VB_iald (q := 122) (v := (iZ 4)) dL_law_121 13 12 rfl rfl (0) (by omega) (by omega) (by decide) (hM0) rfl ?_
  refine VB_iconst (q := 123) dL_law_122 rfl ?_
  refine VB_icmp_lt (q := 126) (tgt := 141) dL_law_123 (by decide) (by decide) (by decide) (fun hc => absurd hc (by decide)) (fun _ => ?_)
  refine VB_iload (q := 128) dL_law_126 11 rfl rfl ?_
  refine VB_iconst (q := 129) dL_law_128 rfl ?_
  refine VB_icmp_ge (q := 132) (tgt := 326) dL_law_129 (by decide) (by decide) (by decide) (fun _ => ?_) (fun hc => absurd hc (by decide))
  refine VB_iload (q := 328) dL_law_326 11 rfl rfl ?_
  refine VB_bipush (q := 330) dL_law_328 (by decide) rfl ?_
  refine VB_icmp_ge (q := 333) (tgt := 451) dL_law_330 (by decide) (by decide) (by decide) (fun _ => ?_) (fun hc => absurd hc (by decide))
  refine VB_iload (q := 453) dL_law_451 11 rfl rfl ?_
  refine VB_bipush (q := 455) dL_law_453 (by decide) rfl ?_
  refine VB_icmp_ge (q := 458) (tgt := 603) dL_law_455 (by decide) (by decide) (by decide) (fun _ => ?_) (fun hc => absurd hc (by decide))
  refine VB_iload (q := 605) dL_law_603 11 rfl rfl ?_
  refine VB_bipush (q := 607) dL_law_605 (by decide) rfl ?_
  refine VB_icmp_ge (q := 610) (tgt := 633) dL_law_607 (by decide) (by decide) (by decide) (fun _ => ?_) (fun hc => absurd hc (by decide))
  refine VB_iload (q := 635) dL_law_633 11 rfl rfl ?_
  refine VB_bipush (q := 637) dL_law_635 (by decide) rfl ?_
  refine VB_icmp_ge (q := 640) (tgt := 677) dL_law_637 (by decide) (by decide) (by decide) (fun _ => ?_) (fun hc => absurd hc (by decide))
  refine VB_iload (q := 679) dL_law_677 11 rfl rfl ?_
  refine VB_bipush (q := 681) dL_law_679 (by decide) rfl ?_
  refine VB_icmp_ne (q := 684) (tgt := 783) dL_law_681 (by decide) (by decide) (by decide) (fun _ => ?_) (fun hc => absurd hc (by decide))
  refine VB_loc (lv' := [(0, _), (1, _), (2, _), (3, _), (4, _), (5, _), (6, _), (7, _), (8, _), (9, _), (10, _)]) [0, 1, 2, 3, 4, 5, 6, 7, 8, 9, 10] rfl ?_
  exact VB_widen (by omega) (by omega) (ck5 hL h16 hx S F g hI (hK (by decide)) hg)
set_option maxRecDepth 100000 in
set_option maxHeartbeats 8000000 in
theorem ck4 {s0 L : Nat} {xs : Nat → Int32} {a : Nat → Nat} {c : Nat → ClassId} {b : Nat → Nat} {d : Nat → ClassId} (hL : L ≤ 260) (h16 : 80 ≤ L) (hx : ∀ j, j < 80 → xs j = 31) : ∀ (S : St) (F : Nat → Nat → Int32) (g : Nat → Nat), Iv S F 4 → sK S 0 = 0 → (∀ j, g j < 4096) → VB 100 RL cL_law 17 (some .boolean) wsL_law roomB (vXL s0 L xs) (tyl c d) (qF 123) (706) (4236 + 1250) (wal a c S b d F g) 783 [(0, .ref (s0)), (1, .ref (a 0)), (2, .ref (b 0)), (3, .ref (b 1)), (4, .ref (b 2)), (5, .ref (b 3)), (6, .ref (b 4)), (7, .int (iZ 1)), (8, .int (iZ 4)), (9, .int (iZ 31)), (10, .int (iZ 0))] [] := by
  intro S F g hI hK hg
  obtain ⟨ho, hn, hm4, hM0, hG, hC⟩ := id hI
  refine VB_iload (q := 785) dL_law_783 7 rfl rfl ?_
  refine VB_if_eq (q := 788) (tgt := 968) dL_law_785 (by decide) (by decide) (fun hc => absurd hc (by decide)) (fun _ => ?_)
  refine VB_aload_n (q := 789) dL_law_788 1 rfl rfl ?_
  refine VB_aload_n (q := 790) dL_law_789 2 rfl rfl ?_
  refine VB_aload_n (q := 791) dL_law_790 3 rfl rfl ?_
  refine VB_aload (q := 793) dL_law_791 6 rfl rfl ?_
  refine VB_callU (q := 796) dL_law_793 (u_areThings (a := a) (c := c) (S := S) (b := b) (d := d) (F := F) hI hg) yv_L_areThings rfl gL_law_L_areThings xU_L rfl (Nat.le_of_ble_eq_true rfl) (by decide) ⟨by show _ ≤ 20000; omega, by show _ ≤ 130000; omega⟩ (fun x793 g793 hP793 hg793 => ?_)
  refine VB_lo (lo' := 100) (Nat.le_add_right _ _) ?_
  have J968 : ∀ (gj968 : Nat → Nat), (∀ j, gj968 j < 4096) → VB 100 RL cL_law 17 (some .boolean) wsL_law roomB (vXL s0 L xs) (tyl c d) (qF 123) (926) (5556 + 1250) (wal a c S b d F gj968) 968 [(0, .ref (s0)), (1, .ref (a 0)), (2, .ref (b 0)), (3, .ref (b 1)), (4, .ref (b 2)), (5, .ref (b 3)), (6, .ref (b 4)), (7, .int (iZ 1)), (8, .int (iZ 4)), (9, .int (iZ 31)), (10, .int (iZ 0))] [] := by
    intro gj968 hgj968
    refine VB_iconst (q := 969) dL_law_968 rfl ?_
    refine VB_istore (q := 971) (lv' := [(0, _), (1, _), (2, _), (3, _), (4, _), (5, _), (6, _), (7, _), (8, _), (9, _), (10, _)]) dL_law_969 (by decide) rfl rfl ?_
    refine VB_iinc (q := 974) (y := 5) (lv' := [(0, _), (1, _), (2, _), (3, _), (4, _), (5, _), (6, _), (7, _), (8, _), (9, _), (10, _)]) dL_law_971 8 rfl (by omega) (by decide) rfl rfl ?_
    refine VB_goto (tgt := 64) dL_law_974 (by decide) ?_
    refine VB_iload (q := 66) dL_law_64 8 rfl rfl ?_
    refine VB_bipush (q := 68) dL_law_66 (by decide) rfl ?_
    refine VB_icmp_ge (q := 71) (tgt := 977) dL_law_68 (by decide) (by decide) (by decide) (fun hc => absurd hc (by decide)) (fun _ => ?_)
    refine VB_iload (q := 73) dL_law_71 7 rfl rfl ?_
    refine VB_if_eq (q := 76) (tgt := 977) dL_law_73 (by decide) (by decide) (fun _ => ?_) (fun hc => absurd hc (by decide))
    refine VB_iload (q := 979) dL_law_977 7 rfl rfl ?_
    exact VB_ret0 dL_law_979 rfl
  refine VB_uif_eq (q := 799) (tgt := 968) dL_law_796 (by decide) ?_ ?_
  · skip
    exact VB_widen (by omega) (by omega) (J968 g793 hg793)
  · skip
    refine VB_iload (q := 801) dL_law_799 8 rfl rfl ?_
    refine VB_iconst (q := 802) dL_law_801 rfl ?_
    refine VB_irem (q := 803) (a := 4) (b := 2) dL_law_802 (by omega) (by decide) (by decide) rfl ?_
    refine VB_top (y := iZ 0) rfl ?_
    refine VB_if_gt (q := 806) (tgt := 833) dL_law_803 (by decide) (by decide) (fun hc => absurd hc (by decide)) (fun _ => ?_)
    refine VB_aload_n (q := 807) dL_law_806 1 rfl rfl ?_
    refine VB_aload_n (q := 808) dL_law_807 2 rfl rfl ?_
    refine VB_aload_n (q := 809) dL_law_808 3 rfl rfl ?_
    refine VB_aload (q := 811) dL_law_809 4 rfl rfl ?_
    refine VB_aload (q := 813) dL_law_811 6 rfl rfl ?_
    refine VB_iload (q := 815) dL_law_813 10 rfl rfl ?_
    refine VB_bipush (q := 817) dL_law_815 (by decide) rfl ?_
    refine VB_irem (q := 818) (a := 0) (b := 31) dL_law_817 (by omega) (by decide) (by decide) rfl ?_
    refine VB_top (y := iZ 0) rfl ?_
    refine VB_iload (q := 820) dL_law_818 10 rfl rfl ?_
    refine VB_bipush (q := 822) dL_law_820 (by decide) rfl ?_
    refine VB_idiv (q := 823) (a := 0) (b := 31) dL_law_822 (by omega) (by decide) (by decide) rfl ?_
    refine VB_top (y := iZ 0) rfl ?_
    refine VB_sipush (q := 826) dL_law_823 (by decide) rfl ?_
    refine VB_irem (q := 827) (a := 0) (b := 256) dL_law_826 (by omega) (by decide) (by decide) rfl ?_
    refine VB_top (y := iZ 0) rfl ?_
    refine VB_callU (q := 830) dL_law_827 (u_areOutfits (a := a) (c := c) (S := S) (b := b) (d := d) (F := F) hI hg793) yv_L_areOutfits rfl gL_law_L_areOutfits xU_L rfl (Nat.le_of_ble_eq_true rfl) (by decide) ⟨by show _ ≤ 20000; omega, by show _ ≤ 130000; omega⟩ (fun x827 g827 hP827 hg827 => ?_)
    refine VB_lo (lo' := 100) (Nat.le_add_right _ _) ?_
    refine VB_uif_eq (q := 833) (tgt := 968) dL_law_830 (by decide) ?_ ?_
    · skip
      exact VB_widen (by omega) (by omega) (J968 g827 hg827)
    · skip
      refine VB_aload_n (q := 834) dL_law_833 1 rfl rfl ?_
      refine VB_aload_n (q := 835) dL_law_834 2 rfl rfl ?_
      refine VB_aload_n (q := 836) dL_law_835 3 rfl rfl ?_
      refine VB_aload (q := 838) dL_law_836 4 rfl rfl ?_
      refine VB_aload (q := 840) dL_law_838 6 rfl rfl ?_
      refine VB_callU (q := 843) dL_law_840 (u_isMissing (a := a) (c := c) (S := S) (b := b) (d := d) (F := F) hI hg827) yv_L_isMissing rfl gL_law_L_isMissing xU_L rfl (Nat.le_of_ble_eq_true rfl) (by decide) ⟨by show _ ≤ 20000; omega, by show _ ≤ 130000; omega⟩ (fun x840 g840 hP840 hg840 => ?_)
      refine VB_lo (lo' := 100) (Nat.le_add_right _ _) ?_
      refine VB_uif_eq (q := 846) (tgt := 968) dL_law_843 (by decide) ?_ ?_
      · skip
        exact VB_widen (by omega) (by omega) (J968 g840 hg840)
      · skip
        refine VB_aload_n (q := 847) dL_law_846 1 rfl rfl ?_
        refine VB_aload_n (q := 848) dL_law_847 2 rfl rfl ?_
        refine VB_aload (q := 850) dL_law_848 6 rfl rfl ?_
        refine VB_iload (q := 852) dL_law_850 10 rfl rfl ?_
        refine VB_aload (q := 854) dL_law_852 6 rfl rfl ?_
        refine VB_iconst (q := 855) dL_law_854 rfl ?_
        refine VB_iald (q := 856) (v := (iZ 4)) dL_law_855 13 12 rfl rfl (0) (by omega) (by omega) (by decide) (hM0) rfl ?_
        refine VB_iconst (q := 857) dL_law_856 rfl ?_
        refine VB_iadd (q := 858) dL_law_857 rfl ?_
        refine VB_top (y := iZ 5) rfl ?_
        refine VB_irem (q := 859) (a := 0) (b := 5) dL_law_858 (by omega) (by decide) (by decide) rfl ?_
        refine VB_top (y := iZ 0) rfl ?_
        refine VB_iload (q := 861) dL_law_859 10 rfl rfl ?_
        refine VB_bipush (q := 863) dL_law_861 (by decide) rfl ?_
        refine VB_idiv (q := 864) (a := 0) (b := 13) dL_law_863 (by omega) (by decide) (by decide) rfl ?_
        refine VB_top (y := iZ 0) rfl ?_
        refine VB_aload (q := 866) dL_law_864 6 rfl rfl ?_
        refine VB_iconst (q := 867) dL_law_866 rfl ?_
        refine VB_iald (q := 868) (v := (iZ 4)) dL_law_867 13 12 rfl rfl (0) (by omega) (by omega) (by decide) (hM0) rfl ?_
        refine VB_iconst (q := 869) dL_law_868 rfl ?_
        refine VB_iadd (q := 870) dL_law_869 rfl ?_
        refine VB_top (y := iZ 5) rfl ?_
        refine VB_irem (q := 871) (a := 0) (b := 5) dL_law_870 (by omega) (by decide) (by decide) rfl ?_
        refine VB_top (y := iZ 0) rfl ?_
        refine VB_iload (q := 873) dL_law_871 10 rfl rfl ?_
        refine VB_sipush (q := 876) dL_law_873 (by decide) rfl ?_
        refine VB_idiv (q := 877) (a := 0) (b := 169) dL_law_876 (by omega) (by decide) (by decide) rfl ?_
        refine VB_top (y := iZ 0) rfl ?_
        refine VB_aload (q := 879) dL_law_877 6 rfl rfl ?_
        refine VB_iconst (q := 880) dL_law_879 rfl ?_
        refine VB_iald (q := 881) (v := (iZ 4)) dL_law_880 13 12 rfl rfl (0) (by omega) (by omega) (by decide) (hM0) rfl ?_
        refine VB_iconst (q := 882) dL_law_881 rfl ?_
        refine VB_iadd (q := 883) dL_law_882 rfl ?_
        refine VB_top (y := iZ 6) rfl ?_
        refine VB_irem (q := 884) (a := 0) (b := 6) dL_law_883 (by omega) (by decide) (by decide) rfl ?_
        refine VB_top (y := iZ 0) rfl ?_
        refine VB_iconst (q := 885) dL_law_884 rfl ?_
        refine VB_isub (q := 886) dL_law_885 rfl ?_
        refine VB_top (y := iZ (-1)) rfl ?_
        refine VB_callU (q := 889) dL_law_886 (u_isWrong (a := a) (c := c) (S := S) (b := b) (d := d) (F := F) hI (wr0 hI (by decide) hK) hg840) yv_L_isWrong rfl gL_law_L_isWrong xU_L rfl (Nat.le_of_ble_eq_true rfl) (by decide) ⟨by show _ ≤ 20000; omega, by show _ ≤ 130000; omega⟩ (fun x886 g886 hP886 hg886 => ?_)
        refine VB_em (x := x886) (fun e886 => VB_lo (lo' := 100) (Nat.le_add_right _ _) (VB_top (y := iZ 0) e886 ?_)) (fun e886 => VB_lo (lo' := 102) (by show 102 ≤ 100 + (if x886 = 0 then 0 else 2); rw [if_neg e886]; omega) ?_)
        · skip
          refine VB_if_eq (q := 892) (tgt := 968) dL_law_889 (by decide) (by decide) (fun _ => ?_) (fun hc => absurd hc (by decide))
          exact VB_widen (by omega) (by omega) (J968 g886 hg886)
        · skip
          refine VB_uif_eq (q := 892) (tgt := 968) dL_law_889 (by decide) ?_ ?_
          · skip
            refine VB_lo (lo' := 100) (by omega) ?_
            exact VB_widen (by omega) (by omega) (J968 g886 hg886)
          · skip
            refine VB_iload (q := 894) dL_law_892 8 rfl rfl ?_
            refine VB_bipush (q := 896) dL_law_894 (by decide) rfl ?_
            refine VB_irem (q := 897) (a := 4) (b := 16) dL_law_896 (by omega) (by decide) (by decide) rfl ?_
            refine VB_top (y := iZ 4) rfl ?_
            refine VB_if_gt (q := 900) (tgt := 943) dL_law_897 (by decide) (by decide) (fun _ => ?_) (fun hc => absurd hc (by decide))
            refine VB_iload (q := 945) dL_law_943 8 rfl rfl ?_
            refine VB_bipush (q := 947) dL_law_945 (by decide) rfl ?_
            refine VB_irem (q := 948) (a := 4) (b := 20) dL_law_947 (by omega) (by decide) (by decide) rfl ?_
            refine VB_top (y := iZ 4) rfl ?_
            refine VB_if_gt (q := 951) (tgt := 964) dL_law_948 (by decide) (by decide) (fun _ => ?_) (fun hc => absurd hc (by decide))
            refine VB_iconst (q := 965) dL_law_964 rfl ?_
            refine VB_goto (tgt := 969) dL_law_965 (by decide) ?_
            refine VB_istore (q := 971) (lv' := [(0, _), (1, _), (2, _), (3, _), (4, _), (5, _), (6, _), (7, _), (8, _), (9, _), (10, _)]) dL_law_969 (by decide) rfl rfl ?_
            refine VB_iinc (q := 974) (y := 5) (lv' := [(0, _), (1, _), (2, _), (3, _), (4, _), (5, _), (6, _), (7, _), (8, _), (9, _), (10, _)]) dL_law_971 8 rfl (by omega) (by decide) rfl rfl ?_
            refine VB_goto (tgt := 64) dL_law_974 (by decide) ?_
            refine VB_loc (lv' := [(0, _), (1, _), (2, _), (3, _), (4, _), (5, _), (6, _), (7, _), (8, _)]) [0, 1, 2, 3, 4, 5, 6, 7, 8] rfl ?_
            refine VB_lo (lo' := 102) (by omega) ?_
            exact VB_widen (by omega) (by omega) (rd5 hL h16 hx S F g886 hI (fun _ => hK) hg886)
set_option maxRecDepth 100000 in
set_option maxHeartbeats 8000000 in
theorem rd4 {s0 L : Nat} {xs : Nat → Int32} {a : Nat → Nat} {c : Nat → ClassId} {b : Nat → Nat} {d : Nat → ClassId} (hL : L ≤ 260) (h16 : 80 ≤ L) (hx : ∀ j, j < 80 → xs j = 31) : ∀ (S : St) (F : Nat → Nat → Int32) (g : Nat → Nat), Iv S F 4 → (0 < 4 → sK S 0 = 0) → (∀ j, g j < 4096) → VB 100 RL cL_law 17 (some .boolean) wsL_law roomB (vXL s0 L xs) (tyl c d) (qF 123) (706) (4236 + 1250) (wal a c S b d F g) 64 [(0, .ref (s0)), (1, .ref (a 0)), (2, .ref (b 0)), (3, .ref (b 1)), (4, .ref (b 2)), (5, .ref (b 3)), (6, .ref (b 4)), (7, .int (iZ 1)), (8, .int (iZ 4))] [] := by
  intro S F g hI hK hg
  obtain ⟨ho, hn, hm4, hM0, hG, hC⟩ := id hI
  refine VB_iload (q := 66) dL_law_64 8 rfl rfl ?_
  refine VB_bipush (q := 68) dL_law_66 (by decide) rfl ?_
  refine VB_icmp_ge (q := 71) (tgt := 977) dL_law_68 (by decide) (by decide) (by decide) (fun hc => absurd hc (by decide)) (fun _ => ?_)
  refine VB_iload (q := 73) dL_law_71 7 rfl rfl ?_
  refine VB_if_eq (q := 76) (tgt := 977) dL_law_73 (by decide) (by decide) (fun hc => absurd hc (by decide)) (fun _ => ?_)
  refine VB_aload_n (q := 77) dL_law_76 0 rfl rfl ?_
  refine VB_iload (q := 79) dL_law_77 8 rfl rfl ?_
  refine VB_callD (q := 82) dL_law_79 (u_dice (b := s0) (L := L) (xs := xs) 4 (by omega) hL (hx 4 (by omega))) yv_L_dice rfl gL_law_L_dice xL_s rfl (Nat.le_of_ble_eq_true rfl) (by decide) ⟨by show _ ≤ 20000; omega, by show _ ≤ 130000; omega⟩ ?_
  refine VB_istore (q := 84) (lv' := [(0, _), (1, _), (2, _), (3, _), (4, _), (5, _), (6, _), (7, _), (8, _), (9, _)]) dL_law_82 (by decide) rfl rfl ?_
  refine VB_iload (q := 86) dL_law_84 9 rfl rfl ?_
  refine VB_bipush (q := 88) dL_law_86 (by decide) rfl ?_
  refine VB_idiv (q := 89) (a := 31) (b := 32) dL_law_88 (by omega) (by decide) (by decide) rfl ?_
  refine VB_top (y := iZ 0) rfl ?_
  refine VB_istore (q := 91) (lv' := [(0, _), (1, _), (2, _), (3, _), (4, _), (5, _), (6, _), (7, _), (8, _), (9, _), (10, _)]) dL_law_89 (by decide) rfl rfl ?_
  refine VB_iload (q := 93) dL_law_91 9 rfl rfl ?_
  refine VB_bipush (q := 95) dL_law_93 (by decide) rfl ?_
  refine VB_irem (q := 96) (a := 31) (b := 32) dL_law_95 (by omega) (by decide) (by decide) rfl ?_
  refine VB_top (y := iZ 31) rfl ?_
  refine VB_istore (q := 98) (lv' := [(0, _), (1, _), (2, _), (3, _), (4, _), (5, _), (6, _), (7, _), (8, _), (9, _), (10, _), (11, _)]) dL_law_96 (by decide) rfl rfl ?_
  refine VB_aload (q := 100) dL_law_98 6 rfl rfl ?_
  refine VB_iconst (q := 101) dL_law_100 rfl ?_
  refine VB_iald (q := 102) (v := (iZ 4)) dL_law_101 13 12 rfl rfl (0) (by omega) (by omega) (by decide) (hM0) rfl ?_
  refine VB_if_ne (q := 105) (tgt := 109) dL_law_102 (by decide) (by decide) (fun _ => ?_) (fun hc => absurd hc (by decide))
  refine VB_iload (q := 111) dL_law_109 10 rfl rfl ?_
  refine VB_aload (q := 113) dL_law_111 6 rfl rfl ?_
  refine VB_iconst (q := 114) dL_law_113 rfl ?_
  refine VB_iald (q := 115) (v := (iZ 4)) dL_law_114 13 12 rfl rfl (0) (by omega) (by omega) (by decide) (hM0) rfl ?_
  refine VB_irem (q := 116) (a := 0) (b := 4) dL_law_115 (by omega) (by decide) (by decide) rfl ?_
  refine VB_top (y := iZ 0) rfl ?_
  refine VB_istore (q := 118) (lv' := [(0, _), (1, _), (2, _), (3, _), (4, _), (5, _), (6, _), (7, _), (8, _), (9, _), (10, _), (11, _), (12, _)]) dL_law_116 (by decide) rfl rfl ?_
  refine VB_aload (q := 120) dL_law_118 6 rfl rfl ?_
  refine VB_iconst (q := 121) dL_law_120 rfl ?_
  refine VB_iald (q := 122) (v := (iZ 4)) dL_law_121 13 12 rfl rfl (0) (by omega) (by omega) (by decide) (hM0) rfl ?_
  refine VB_iconst (q := 123) dL_law_122 rfl ?_
  refine VB_icmp_lt (q := 126) (tgt := 141) dL_law_123 (by decide) (by decide) (by decide) (fun hc => absurd hc (by decide)) (fun _ => ?_)
  refine VB_iload (q := 128) dL_law_126 11 rfl rfl ?_
  refine VB_iconst (q := 129) dL_law_128 rfl ?_
  refine VB_icmp_ge (q := 132) (tgt := 326) dL_law_129 (by decide) (by decide) (by decide) (fun _ => ?_) (fun hc => absurd hc (by decide))
  refine VB_iload (q := 328) dL_law_326 11 rfl rfl ?_
  refine VB_bipush (q := 330) dL_law_328 (by decide) rfl ?_
  refine VB_icmp_ge (q := 333) (tgt := 451) dL_law_330 (by decide) (by decide) (by decide) (fun _ => ?_) (fun hc => absurd hc (by decide))
  refine VB_iload (q := 453) dL_law_451 11 rfl rfl ?_
  refine VB_bipush (q := 455) dL_law_453 (by decide) rfl ?_
  refine VB_icmp_ge (q := 458) (tgt := 603) dL_law_455 (by decide) (by decide) (by decide) (fun _ => ?_) (fun hc => absurd hc (by decide))
  refine VB_iload (q := 605) dL_law_603 11 rfl rfl ?_
  refine VB_bipush (q := 607) dL_law_605 (by decide) rfl ?_
  refine VB_icmp_ge (q := 610) (tgt := 633) dL_law_607 (by decide) (by decide) (by decide) (fun _ => ?_) (fun hc => absurd hc (by decide))
  refine VB_iload (q := 635) dL_law_633 11 rfl rfl ?_
  refine VB_bipush (q := 637) dL_law_635 (by decide) rfl ?_
  refine VB_icmp_ge (q := 640) (tgt := 677) dL_law_637 (by decide) (by decide) (by decide) (fun _ => ?_) (fun hc => absurd hc (by decide))
  refine VB_iload (q := 679) dL_law_677 11 rfl rfl ?_
  refine VB_bipush (q := 681) dL_law_679 (by decide) rfl ?_
  refine VB_icmp_ne (q := 684) (tgt := 783) dL_law_681 (by decide) (by decide) (by decide) (fun _ => ?_) (fun hc => absurd hc (by decide))
  refine VB_loc (lv' := [(0, _), (1, _), (2, _), (3, _), (4, _), (5, _), (6, _), (7, _), (8, _), (9, _), (10, _)]) [0, 1, 2, 3, 4, 5, 6, 7, 8, 9, 10] rfl ?_
  exact VB_widen (by omega) (by omega) (ck4 hL h16 hx S F g hI (hK (by decide)) hg)
set_option maxRecDepth 100000 in
set_option maxHeartbeats 8000000 in
theorem ck3 {s0 L : Nat} {xs : Nat → Int32} {a : Nat → Nat} {c : Nat → ClassId} {b : Nat → Nat} {d : Nat → ClassId} (hL : L ≤ 260) (h16 : 80 ≤ L) (hx : ∀ j, j < 80 → xs j = 31) : ∀ (S : St) (F : Nat → Nat → Int32) (g : Nat → Nat), Iv S F 4 → sK S 0 = 0 → (∀ j, g j < 4096) → VB 98 RL cL_law 17 (some .boolean) wsL_law roomB (vXL s0 L xs) (tyl c d) (qF 123) (686) (4116 + 1250) (wal a c S b d F g) 783 [(0, .ref (s0)), (1, .ref (a 0)), (2, .ref (b 0)), (3, .ref (b 1)), (4, .ref (b 2)), (5, .ref (b 3)), (6, .ref (b 4)), (7, .int (iZ 1)), (8, .int (iZ 3)), (9, .int (iZ 31)), (10, .int (iZ 0))] [] := by
  intro S F g hI hK hg
  obtain ⟨ho, hn, hm4, hM0, hG, hC⟩ := id hI
  refine VB_iload (q := 785) dL_law_783 7 rfl rfl ?_
  refine VB_if_eq (q := 788) (tgt := 968) dL_law_785 (by decide) (by decide) (fun hc => absurd hc (by decide)) (fun _ => ?_)
  refine VB_aload_n (q := 789) dL_law_788 1 rfl rfl ?_
  refine VB_aload_n (q := 790) dL_law_789 2 rfl rfl ?_
  refine VB_aload_n (q := 791) dL_law_790 3 rfl rfl ?_
  refine VB_aload (q := 793) dL_law_791 6 rfl rfl ?_
  refine VB_callU (q := 796) dL_law_793 (u_areThings (a := a) (c := c) (S := S) (b := b) (d := d) (F := F) hI hg) yv_L_areThings rfl gL_law_L_areThings xU_L rfl (Nat.le_of_ble_eq_true rfl) (by decide) ⟨by show _ ≤ 20000; omega, by show _ ≤ 130000; omega⟩ (fun x793 g793 hP793 hg793 => ?_)
  refine VB_lo (lo' := 98) (Nat.le_add_right _ _) ?_
  have J968 : ∀ (gj968 : Nat → Nat), (∀ j, gj968 j < 4096) → VB 98 RL cL_law 17 (some .boolean) wsL_law roomB (vXL s0 L xs) (tyl c d) (qF 123) (706) (4236 + 1250) (wal a c S b d F gj968) 968 [(0, .ref (s0)), (1, .ref (a 0)), (2, .ref (b 0)), (3, .ref (b 1)), (4, .ref (b 2)), (5, .ref (b 3)), (6, .ref (b 4)), (7, .int (iZ 1)), (8, .int (iZ 3)), (9, .int (iZ 31)), (10, .int (iZ 0))] [] := by
    intro gj968 hgj968
    refine VB_iconst (q := 969) dL_law_968 rfl ?_
    refine VB_istore (q := 971) (lv' := [(0, _), (1, _), (2, _), (3, _), (4, _), (5, _), (6, _), (7, _), (8, _), (9, _), (10, _)]) dL_law_969 (by decide) rfl rfl ?_
    refine VB_iinc (q := 974) (y := 4) (lv' := [(0, _), (1, _), (2, _), (3, _), (4, _), (5, _), (6, _), (7, _), (8, _), (9, _), (10, _)]) dL_law_971 8 rfl (by omega) (by decide) rfl rfl ?_
    refine VB_goto (tgt := 64) dL_law_974 (by decide) ?_
    refine VB_iload (q := 66) dL_law_64 8 rfl rfl ?_
    refine VB_bipush (q := 68) dL_law_66 (by decide) rfl ?_
    refine VB_icmp_ge (q := 71) (tgt := 977) dL_law_68 (by decide) (by decide) (by decide) (fun hc => absurd hc (by decide)) (fun _ => ?_)
    refine VB_iload (q := 73) dL_law_71 7 rfl rfl ?_
    refine VB_if_eq (q := 76) (tgt := 977) dL_law_73 (by decide) (by decide) (fun _ => ?_) (fun hc => absurd hc (by decide))
    refine VB_iload (q := 979) dL_law_977 7 rfl rfl ?_
    exact VB_ret0 dL_law_979 rfl
  refine VB_uif_eq (q := 799) (tgt := 968) dL_law_796 (by decide) ?_ ?_
  · skip
    exact VB_widen (by omega) (by omega) (J968 g793 hg793)
  · skip
    refine VB_iload (q := 801) dL_law_799 8 rfl rfl ?_
    refine VB_iconst (q := 802) dL_law_801 rfl ?_
    refine VB_irem (q := 803) (a := 3) (b := 2) dL_law_802 (by omega) (by decide) (by decide) rfl ?_
    refine VB_top (y := iZ 1) rfl ?_
    refine VB_if_gt (q := 806) (tgt := 833) dL_law_803 (by decide) (by decide) (fun _ => ?_) (fun hc => absurd hc (by decide))
    refine VB_aload_n (q := 834) dL_law_833 1 rfl rfl ?_
    refine VB_aload_n (q := 835) dL_law_834 2 rfl rfl ?_
    refine VB_aload_n (q := 836) dL_law_835 3 rfl rfl ?_
    refine VB_aload (q := 838) dL_law_836 4 rfl rfl ?_
    refine VB_aload (q := 840) dL_law_838 6 rfl rfl ?_
    refine VB_callU (q := 843) dL_law_840 (u_isMissing (a := a) (c := c) (S := S) (b := b) (d := d) (F := F) hI hg793) yv_L_isMissing rfl gL_law_L_isMissing xU_L rfl (Nat.le_of_ble_eq_true rfl) (by decide) ⟨by show _ ≤ 20000; omega, by show _ ≤ 130000; omega⟩ (fun x840 g840 hP840 hg840 => ?_)
    refine VB_lo (lo' := 98) (Nat.le_add_right _ _) ?_
    refine VB_uif_eq (q := 846) (tgt := 968) dL_law_843 (by decide) ?_ ?_
    · skip
      exact VB_widen (by omega) (by omega) (J968 g840 hg840)
    · skip
      refine VB_aload_n (q := 847) dL_law_846 1 rfl rfl ?_
      refine VB_aload_n (q := 848) dL_law_847 2 rfl rfl ?_
      refine VB_aload (q := 850) dL_law_848 6 rfl rfl ?_
      refine VB_iload (q := 852) dL_law_850 10 rfl rfl ?_
      refine VB_aload (q := 854) dL_law_852 6 rfl rfl ?_
      refine VB_iconst (q := 855) dL_law_854 rfl ?_
      refine VB_iald (q := 856) (v := (iZ 4)) dL_law_855 13 12 rfl rfl (0) (by omega) (by omega) (by decide) (hM0) rfl ?_
      refine VB_iconst (q := 857) dL_law_856 rfl ?_
      refine VB_iadd (q := 858) dL_law_857 rfl ?_
      refine VB_top (y := iZ 5) rfl ?_
      refine VB_irem (q := 859) (a := 0) (b := 5) dL_law_858 (by omega) (by decide) (by decide) rfl ?_
      refine VB_top (y := iZ 0) rfl ?_
      refine VB_iload (q := 861) dL_law_859 10 rfl rfl ?_
      refine VB_bipush (q := 863) dL_law_861 (by decide) rfl ?_
      refine VB_idiv (q := 864) (a := 0) (b := 13) dL_law_863 (by omega) (by decide) (by decide) rfl ?_
      refine VB_top (y := iZ 0) rfl ?_
      refine VB_aload (q := 866) dL_law_864 6 rfl rfl ?_
      refine VB_iconst (q := 867) dL_law_866 rfl ?_
      refine VB_iald (q := 868) (v := (iZ 4)) dL_law_867 13 12 rfl rfl (0) (by omega) (by omega) (by decide) (hM0) rfl ?_
      refine VB_iconst (q := 869) dL_law_868 rfl ?_
      refine VB_iadd (q := 870) dL_law_869 rfl ?_
      refine VB_top (y := iZ 5) rfl ?_
      refine VB_irem (q := 871) (a := 0) (b := 5) dL_law_870 (by omega) (by decide) (by decide) rfl ?_
      refine VB_top (y := iZ 0) rfl ?_
      refine VB_iload (q := 873) dL_law_871 10 rfl rfl ?_
      refine VB_sipush (q := 876) dL_law_873 (by decide) rfl ?_
      refine VB_idiv (q := 877) (a := 0) (b := 169) dL_law_876 (by omega) (by decide) (by decide) rfl ?_
      refine VB_top (y := iZ 0) rfl ?_
      refine VB_aload (q := 879) dL_law_877 6 rfl rfl ?_
      refine VB_iconst (q := 880) dL_law_879 rfl ?_
      refine VB_iald (q := 881) (v := (iZ 4)) dL_law_880 13 12 rfl rfl (0) (by omega) (by omega) (by decide) (hM0) rfl ?_
      refine VB_iconst (q := 882) dL_law_881 rfl ?_
      refine VB_iadd (q := 883) dL_law_882 rfl ?_
      refine VB_top (y := iZ 6) rfl ?_
      refine VB_irem (q := 884) (a := 0) (b := 6) dL_law_883 (by omega) (by decide) (by decide) rfl ?_
      refine VB_top (y := iZ 0) rfl ?_
      refine VB_iconst (q := 885) dL_law_884 rfl ?_
      refine VB_isub (q := 886) dL_law_885 rfl ?_
      refine VB_top (y := iZ (-1)) rfl ?_
      refine VB_callU (q := 889) dL_law_886 (u_isWrong (a := a) (c := c) (S := S) (b := b) (d := d) (F := F) hI (wr0 hI (by decide) hK) hg840) yv_L_isWrong rfl gL_law_L_isWrong xU_L rfl (Nat.le_of_ble_eq_true rfl) (by decide) ⟨by show _ ≤ 20000; omega, by show _ ≤ 130000; omega⟩ (fun x886 g886 hP886 hg886 => ?_)
      refine VB_em (x := x886) (fun e886 => VB_lo (lo' := 98) (Nat.le_add_right _ _) (VB_top (y := iZ 0) e886 ?_)) (fun e886 => VB_lo (lo' := 100) (by show 100 ≤ 98 + (if x886 = 0 then 0 else 2); rw [if_neg e886]; omega) ?_)
      · skip
        refine VB_if_eq (q := 892) (tgt := 968) dL_law_889 (by decide) (by decide) (fun _ => ?_) (fun hc => absurd hc (by decide))
        exact VB_widen (by omega) (by omega) (J968 g886 hg886)
      · skip
        refine VB_uif_eq (q := 892) (tgt := 968) dL_law_889 (by decide) ?_ ?_
        · skip
          refine VB_lo (lo' := 98) (by omega) ?_
          exact VB_widen (by omega) (by omega) (J968 g886 hg886)
        · skip
          refine VB_iload (q := 894) dL_law_892 8 rfl rfl ?_
          refine VB_bipush (q := 896) dL_law_894 (by decide) rfl ?_
          refine VB_irem (q := 897) (a := 3) (b := 16) dL_law_896 (by omega) (by decide) (by decide) rfl ?_
          refine VB_top (y := iZ 3) rfl ?_
          refine VB_if_gt (q := 900) (tgt := 943) dL_law_897 (by decide) (by decide) (fun _ => ?_) (fun hc => absurd hc (by decide))
          refine VB_iload (q := 945) dL_law_943 8 rfl rfl ?_
          refine VB_bipush (q := 947) dL_law_945 (by decide) rfl ?_
          refine VB_irem (q := 948) (a := 3) (b := 20) dL_law_947 (by omega) (by decide) (by decide) rfl ?_
          refine VB_top (y := iZ 3) rfl ?_
          refine VB_if_gt (q := 951) (tgt := 964) dL_law_948 (by decide) (by decide) (fun _ => ?_) (fun hc => absurd hc (by decide))
          refine VB_iconst (q := 965) dL_law_964 rfl ?_
          refine VB_goto (tgt := 969) dL_law_965 (by decide) ?_
          refine VB_istore (q := 971) (lv' := [(0, _), (1, _), (2, _), (3, _), (4, _), (5, _), (6, _), (7, _), (8, _), (9, _), (10, _)]) dL_law_969 (by decide) rfl rfl ?_
          refine VB_iinc (q := 974) (y := 4) (lv' := [(0, _), (1, _), (2, _), (3, _), (4, _), (5, _), (6, _), (7, _), (8, _), (9, _), (10, _)]) dL_law_971 8 rfl (by omega) (by decide) rfl rfl ?_
          refine VB_goto (tgt := 64) dL_law_974 (by decide) ?_
          refine VB_loc (lv' := [(0, _), (1, _), (2, _), (3, _), (4, _), (5, _), (6, _), (7, _), (8, _)]) [0, 1, 2, 3, 4, 5, 6, 7, 8] rfl ?_
          refine VB_lo (lo' := 100) (by omega) ?_
          exact VB_widen (by omega) (by omega) (rd4 hL h16 hx S F g886 hI (fun _ => hK) hg886)
set_option maxRecDepth 100000 in
set_option maxHeartbeats 8000000 in
theorem rd3 {s0 L : Nat} {xs : Nat → Int32} {a : Nat → Nat} {c : Nat → ClassId} {b : Nat → Nat} {d : Nat → ClassId} (hL : L ≤ 260) (h16 : 80 ≤ L) (hx : ∀ j, j < 80 → xs j = 31) : ∀ (S : St) (F : Nat → Nat → Int32) (g : Nat → Nat), Iv S F 3 → (0 < 3 → sK S 0 = 0) → (∀ j, g j < 4096) → VB 98 RL cL_law 17 (some .boolean) wsL_law roomB (vXL s0 L xs) (tyl c d) (qF 123) (685) (4110 + 1250) (wal a c S b d F g) 64 [(0, .ref (s0)), (1, .ref (a 0)), (2, .ref (b 0)), (3, .ref (b 1)), (4, .ref (b 2)), (5, .ref (b 3)), (6, .ref (b 4)), (7, .int (iZ 1)), (8, .int (iZ 3))] [] := by
  intro S F g hI hK hg
  obtain ⟨ho, hn, hm4, hM0, hG, hC⟩ := id hI
  refine VB_iload (q := 66) dL_law_64 8 rfl rfl ?_
  refine VB_bipush (q := 68) dL_law_66 (by decide) rfl ?_
  refine VB_icmp_ge (q := 71) (tgt := 977) dL_law_68 (by decide) (by decide) (by decide) (fun hc => absurd hc (by decide)) (fun _ => ?_)
  refine VB_iload (q := 73) dL_law_71 7 rfl rfl ?_
  refine VB_if_eq (q := 76) (tgt := 977) dL_law_73 (by decide) (by decide) (fun hc => absurd hc (by decide)) (fun _ => ?_)
  refine VB_aload_n (q := 77) dL_law_76 0 rfl rfl ?_
  refine VB_iload (q := 79) dL_law_77 8 rfl rfl ?_
  refine VB_callD (q := 82) dL_law_79 (u_dice (b := s0) (L := L) (xs := xs) 3 (by omega) hL (hx 3 (by omega))) yv_L_dice rfl gL_law_L_dice xL_s rfl (Nat.le_of_ble_eq_true rfl) (by decide) ⟨by show _ ≤ 20000; omega, by show _ ≤ 130000; omega⟩ ?_
  refine VB_istore (q := 84) (lv' := [(0, _), (1, _), (2, _), (3, _), (4, _), (5, _), (6, _), (7, _), (8, _), (9, _)]) dL_law_82 (by decide) rfl rfl ?_
  refine VB_iload (q := 86) dL_law_84 9 rfl rfl ?_
  refine VB_bipush (q := 88) dL_law_86 (by decide) rfl ?_
  refine VB_idiv (q := 89) (a := 31) (b := 32) dL_law_88 (by omega) (by decide) (by decide) rfl ?_
  refine VB_top (y := iZ 0) rfl ?_
  refine VB_istore (q := 91) (lv' := [(0, _), (1, _), (2, _), (3, _), (4, _), (5, _), (6, _), (7, _), (8, _), (9, _), (10, _)]) dL_law_89 (by decide) rfl rfl ?_
  refine VB_iload (q := 93) dL_law_91 9 rfl rfl ?_
  refine VB_bipush (q := 95) dL_law_93 (by decide) rfl ?_
  refine VB_irem (q := 96) (a := 31) (b := 32) dL_law_95 (by omega) (by decide) (by decide) rfl ?_
  refine VB_top (y := iZ 31) rfl ?_
  refine VB_istore (q := 98) (lv' := [(0, _), (1, _), (2, _), (3, _), (4, _), (5, _), (6, _), (7, _), (8, _), (9, _), (10, _), (11, _)]) dL_law_96 (by decide) rfl rfl ?_
  refine VB_aload (q := 100) dL_law_98 6 rfl rfl ?_
  refine VB_iconst (q := 101) dL_law_100 rfl ?_
  refine VB_iald (q := 102) (v := (iZ 3)) dL_law_101 13 12 rfl rfl (0) (by omega) (by omega) (by decide) (hM0) rfl ?_
  refine VB_if_ne (q := 105) (tgt := 109) dL_law_102 (by decide) (by decide) (fun _ => ?_) (fun hc => absurd hc (by decide))
  refine VB_iload (q := 111) dL_law_109 10 rfl rfl ?_
  refine VB_aload (q := 113) dL_law_111 6 rfl rfl ?_
  refine VB_iconst (q := 114) dL_law_113 rfl ?_
  refine VB_iald (q := 115) (v := (iZ 3)) dL_law_114 13 12 rfl rfl (0) (by omega) (by omega) (by decide) (hM0) rfl ?_
  refine VB_irem (q := 116) (a := 0) (b := 3) dL_law_115 (by omega) (by decide) (by decide) rfl ?_
  refine VB_top (y := iZ 0) rfl ?_
  refine VB_istore (q := 118) (lv' := [(0, _), (1, _), (2, _), (3, _), (4, _), (5, _), (6, _), (7, _), (8, _), (9, _), (10, _), (11, _), (12, _)]) dL_law_116 (by decide) rfl rfl ?_
  refine VB_aload (q := 120) dL_law_118 6 rfl rfl ?_
  refine VB_iconst (q := 121) dL_law_120 rfl ?_
  refine VB_iald (q := 122) (v := (iZ 3)) dL_law_121 13 12 rfl rfl (0) (by omega) (by omega) (by decide) (hM0) rfl ?_
  refine VB_iconst (q := 123) dL_law_122 rfl ?_
  refine VB_icmp_lt (q := 126) (tgt := 141) dL_law_123 (by decide) (by decide) (by decide) (fun _ => ?_) (fun hc => absurd hc (by decide))
  refine VB_iconst (q := 142) dL_law_141 rfl ?_
  refine VB_aload (q := 144) dL_law_142 6 rfl rfl ?_
  refine VB_iconst (q := 145) dL_law_144 rfl ?_
  refine VB_iald (q := 146) (v := (iZ 3)) dL_law_145 13 12 rfl rfl (0) (by omega) (by omega) (by decide) (hM0) rfl ?_
  refine VB_imul (q := 147) dL_law_146 rfl ?_
  refine VB_top (y := iZ 15) rfl ?_
  refine VB_istore (q := 149) (lv' := [(0, _), (1, _), (2, _), (3, _), (4, _), (5, _), (6, _), (7, _), (8, _), (9, _), (10, _), (11, _), (12, _), (13, _)]) dL_law_147 (by decide) rfl rfl ?_
  refine VB_aload_n (q := 150) dL_law_149 2 rfl rfl ?_
  refine VB_iload (q := 152) dL_law_150 13 rfl rfl ?_
  refine VB_aload (q := 154) dL_law_152 6 rfl rfl ?_
  refine VB_iconst (q := 155) dL_law_154 rfl ?_
  refine VB_iald (q := 156) (v := (iZ 3)) dL_law_155 13 12 rfl rfl (0) (by omega) (by omega) (by decide) (hM0) rfl ?_
  refine VB_iconst (q := 157) dL_law_156 rfl ?_
  refine VB_icmp_ge (q := 160) (tgt := 169) dL_law_157 (by decide) (by decide) (by decide) (fun hc => absurd hc (by decide)) (fun _ => ?_)
  refine VB_aload (q := 162) dL_law_160 6 rfl rfl ?_
  refine VB_iconst (q := 163) dL_law_162 rfl ?_
  refine VB_iald (q := 164) (v := (iZ 3)) dL_law_163 13 12 rfl rfl (0) (by omega) (by omega) (by decide) (hM0) rfl ?_
  refine VB_iconst (q := 165) dL_law_164 rfl ?_
  refine VB_irem (q := 166) (a := 3) (b := 2) dL_law_165 (by omega) (by decide) (by decide) rfl ?_
  refine VB_top (y := iZ 1) rfl ?_
  refine VB_goto (tgt := 197) dL_law_166 (by decide) ?_
  refine VB_iast (q := 198) (ws' := wal a c S b d (setF F 0 15 (iZ 1)) g) dL_law_197 9 8 rfl rfl (15) (by omega) (by omega) (by decide) rfl rfl ?_
  refine VB_aload_n (q := 199) dL_law_198 2 rfl rfl ?_
  refine VB_iload (q := 201) dL_law_199 13 rfl rfl ?_
  refine VB_iconst (q := 202) dL_law_201 rfl ?_
  refine VB_iadd (q := 203) dL_law_202 rfl ?_
  refine VB_top (y := iZ 16) rfl ?_
  refine VB_iload (q := 205) dL_law_203 10 rfl rfl ?_
  refine VB_bipush (q := 207) dL_law_205 (by decide) rfl ?_
  refine VB_idiv (q := 208) (a := 0) (b := 9) dL_law_207 (by omega) (by decide) (by decide) rfl ?_
  refine VB_top (y := iZ 0) rfl ?_
  refine VB_bipush (q := 210) dL_law_208 (by decide) rfl ?_
  refine VB_irem (q := 211) (a := 0) (b := 8) dL_law_210 (by omega) (by decide) (by decide) rfl ?_
  refine VB_top (y := iZ 0) rfl ?_
  refine VB_iast (q := 212) (ws' := wal a c S b d (setF (setF F 0 15 (iZ 1)) 0 16 (iZ 0)) g) dL_law_211 9 8 rfl rfl (16) (by omega) (by omega) (by decide) rfl rfl ?_
  refine VB_aload_n (q := 213) dL_law_212 2 rfl rfl ?_
  refine VB_iload (q := 215) dL_law_213 13 rfl rfl ?_
  refine VB_iconst (q := 216) dL_law_215 rfl ?_
  refine VB_iadd (q := 217) dL_law_216 rfl ?_
  refine VB_top (y := iZ 17) rfl ?_
  refine VB_iload (q := 219) dL_law_217 10 rfl rfl ?_
  refine VB_bipush (q := 221) dL_law_219 (by decide) rfl ?_
  refine VB_idiv (q := 222) (a := 0) (b := 72) dL_law_221 (by omega) (by decide) (by decide) rfl ?_
  refine VB_top (y := iZ 0) rfl ?_
  refine VB_bipush (q := 224) dL_law_222 (by decide) rfl ?_
  refine VB_irem (q := 225) (a := 0) (b := 11) dL_law_224 (by omega) (by decide) (by decide) rfl ?_
  refine VB_top (y := iZ 0) rfl ?_
  refine VB_iast (q := 226) (ws' := wal a c S b d (setF (setF (setF F 0 15 (iZ 1)) 0 16 (iZ 0)) 0 17 (iZ 0)) g) dL_law_225 9 8 rfl rfl (17) (by omega) (by omega) (by decide) rfl rfl ?_
  refine VB_aload_n (q := 227) dL_law_226 2 rfl rfl ?_
  refine VB_iload (q := 229) dL_law_227 13 rfl rfl ?_
  refine VB_iconst (q := 230) dL_law_229 rfl ?_
  refine VB_iadd (q := 231) dL_law_230 rfl ?_
  refine VB_top (y := iZ 18) rfl ?_
  refine VB_iconst (q := 232) dL_law_231 rfl ?_
  refine VB_iload (q := 234) dL_law_232 10 rfl rfl ?_
  refine VB_sipush (q := 237) dL_law_234 (by decide) rfl ?_
  refine VB_idiv (q := 238) (a := 0) (b := 792) dL_law_237 (by omega) (by decide) (by decide) rfl ?_
  refine VB_top (y := iZ 0) rfl ?_
  refine VB_iload (q := 240) dL_law_238 10 rfl rfl ?_
  refine VB_iconst (q := 241) dL_law_240 rfl ?_
  refine VB_irem (q := 242) (a := 0) (b := 3) dL_law_241 (by omega) (by decide) (by decide) rfl ?_
  refine VB_top (y := iZ 0) rfl ?_
  refine VB_if_ne (q := 245) (tgt := 250) dL_law_242 (by decide) (by decide) (fun hc => absurd hc (by decide)) (fun _ => ?_)
  refine VB_bipush (q := 247) dL_law_245 (by decide) rfl ?_
  refine VB_goto (tgt := 251) dL_law_247 (by decide) ?_
  refine VB_irem (q := 252) (a := 0) (b := 9) dL_law_251 (by omega) (by decide) (by decide) rfl ?_
  refine VB_top (y := iZ 0) rfl ?_
  refine VB_iadd (q := 253) dL_law_252 rfl ?_
  refine VB_top (y := iZ 1) rfl ?_
  refine VB_iast (q := 254) (ws' := wal a c S b d (setF (setF (setF (setF F 0 15 (iZ 1)) 0 16 (iZ 0)) 0 17 (iZ 0)) 0 18 (iZ 1)) g) dL_law_253 9 8 rfl rfl (18) (by omega) (by omega) (by decide) rfl rfl ?_
  refine VB_aload_n (q := 255) dL_law_254 2 rfl rfl ?_
  refine VB_iload (q := 257) dL_law_255 13 rfl rfl ?_
  refine VB_iconst (q := 258) dL_law_257 rfl ?_
  refine VB_iadd (q := 259) dL_law_258 rfl ?_
  refine VB_top (y := iZ 19) rfl ?_
  refine VB_iload (q := 261) dL_law_259 10 rfl rfl ?_
  refine VB_bipush (q := 263) dL_law_261 (by decide) rfl ?_
  refine VB_idiv (q := 264) (a := 0) (b := 7) dL_law_263 (by omega) (by decide) (by decide) rfl ?_
  refine VB_top (y := iZ 0) rfl ?_
  refine VB_iconst (q := 265) dL_law_264 rfl ?_
  refine VB_irem (q := 266) (a := 0) (b := 3) dL_law_265 (by omega) (by decide) (by decide) rfl ?_
  refine VB_top (y := iZ 0) rfl ?_
  refine VB_iast (q := 267) (ws' := wal a c S b d (setF (setF (setF (setF (setF F 0 15 (iZ 1)) 0 16 (iZ 0)) 0 17 (iZ 0)) 0 18 (iZ 1)) 0 19 (iZ 0)) g) dL_law_266 9 8 rfl rfl (19) (by omega) (by omega) (by decide) rfl rfl ?_
  refine VB_aload (q := 269) dL_law_267 6 rfl rfl ?_
  refine VB_iconst (q := 270) dL_law_269 rfl ?_
  refine VB_dup2 (q := 271) dL_law_270 rfl rfl rfl ?_
  refine VB_iald (q := 272) (v := (iZ 3)) dL_law_271 13 12 rfl rfl (0) (by omega) (by omega) (by decide) (hM0) rfl ?_
  refine VB_iconst (q := 273) dL_law_272 rfl ?_
  refine VB_iadd (q := 274) dL_law_273 rfl ?_
  refine VB_top (y := iZ 4) rfl ?_
  refine VB_iast (q := 275) (ws' := wal a c S b d (setF (setF (setF (setF (setF (setF F 0 15 (iZ 1)) 0 16 (iZ 0)) 0 17 (iZ 0)) 0 18 (iZ 1)) 0 19 (iZ 0)) 4 0 (iZ 4)) g) dL_law_274 13 12 rfl rfl (0) (by omega) (by omega) (by decide) rfl rfl ?_
  refine VB_aload_n (q := 276) dL_law_275 1 rfl rfl ?_
  refine VB_aload_n (q := 277) dL_law_276 2 rfl rfl ?_
  refine VB_iload (q := 279) dL_law_277 13 rfl rfl ?_
  refine VB_iald (q := 280) (v := (iZ 1)) dL_law_279 9 8 rfl rfl (15) (by omega) (by omega) (by decide) (rfl) rfl ?_
  refine VB_aload_n (q := 281) dL_law_280 2 rfl rfl ?_
  refine VB_iload (q := 283) dL_law_281 13 rfl rfl ?_
  refine VB_iconst (q := 284) dL_law_283 rfl ?_
  refine VB_iadd (q := 285) dL_law_284 rfl ?_
  refine VB_top (y := iZ 16) rfl ?_
  refine VB_iald (q := 286) (v := (iZ 0)) dL_law_285 9 8 rfl rfl (16) (by omega) (by omega) (by decide) (rfl) rfl ?_
  refine VB_aload_n (q := 287) dL_law_286 2 rfl rfl ?_
  refine VB_iload (q := 289) dL_law_287 13 rfl rfl ?_
  refine VB_iconst (q := 290) dL_law_289 rfl ?_
  refine VB_iadd (q := 291) dL_law_290 rfl ?_
  refine VB_top (y := iZ 17) rfl ?_
  refine VB_iald (q := 292) (v := (iZ 0)) dL_law_291 9 8 rfl rfl (17) (by omega) (by omega) (by decide) (rfl) rfl ?_
  refine VB_aload_n (q := 293) dL_law_292 2 rfl rfl ?_
  refine VB_iload (q := 295) dL_law_293 13 rfl rfl ?_
  refine VB_iconst (q := 296) dL_law_295 rfl ?_
  refine VB_iadd (q := 297) dL_law_296 rfl ?_
  refine VB_top (y := iZ 18) rfl ?_
  refine VB_iald (q := 298) (v := (iZ 1)) dL_law_297 9 8 rfl rfl (18) (by omega) (by omega) (by decide) (rfl) rfl ?_
  refine VB_aload_n (q := 299) dL_law_298 2 rfl rfl ?_
  refine VB_iload (q := 301) dL_law_299 13 rfl rfl ?_
  refine VB_iconst (q := 302) dL_law_301 rfl ?_
  refine VB_iadd (q := 303) dL_law_302 rfl ?_
  refine VB_top (y := iZ 19) rfl ?_
  refine VB_iald (q := 304) (v := (iZ 0)) dL_law_303 9 8 rfl rfl (19) (by omega) (by omega) (by decide) (rfl) rfl ?_
  have hc304 : cAdd S 1 0 0 1 0 = 0 := by unfold cAdd; rw [if_pos (by decide), if_neg (by rw [hn]; decide)]
  refine VB_callUW (q := 307) dL_law_304 (u_add (a := a) (c := c) (S := S) (b := b) (d := d) (F := (setF (setF (setF (setF (setF (setF F 0 15 (iZ 1)) 0 16 (iZ 0)) 0 17 (iZ 0)) 0 18 (iZ 1)) 0 19 (iZ 0)) 4 0 (iZ 4))) ho hg 1 0 0 1 0 (by omega) (by omega) (by omega) (by omega) (by omega) hc304) yw_add rfl gL_law_L_add xU_L rfl (Nat.le_of_ble_eq_true rfl) (by decide) ⟨by show _ ≤ 20000; omega, by show _ ≤ 130000; omega⟩ (fun x304 g304 hP304 hg304 => ?_)
  refine VB_lo (lo' := 98) (Nat.le_add_right _ _) ?_
  refine VB_top (y := iZ 3) (Eq.trans hP304 (by rw [hn]; rfl)) ?_
  refine VB_aload (q := 309) dL_law_307 6 rfl rfl ?_
  refine VB_iconst (q := 310) dL_law_309 rfl ?_
  refine VB_iald (q := 311) (v := (iZ 4)) dL_law_310 13 12 rfl rfl (0) (by omega) (by omega) (by decide) (rfl) rfl ?_
  refine VB_iconst (q := 312) dL_law_311 rfl ?_
  refine VB_isub (q := 313) dL_law_312 rfl ?_
  refine VB_top (y := iZ 3) rfl ?_
  refine VB_icmp_ne (q := 316) (tgt := 320) dL_law_313 (by decide) (by decide) (by decide) (fun hc => absurd hc (by decide)) (fun _ => ?_)
  refine VB_iconst (q := 317) dL_law_316 rfl ?_
  refine VB_goto (tgt := 321) dL_law_317 (by decide) ?_
  refine VB_istore (q := 323) (lv' := [(0, _), (1, _), (2, _), (3, _), (4, _), (5, _), (6, _), (7, _), (8, _), (9, _), (10, _), (11, _), (12, _), (13, _)]) dL_law_321 (by decide) rfl rfl ?_
  refine VB_goto (tgt := 783) dL_law_323 (by decide) ?_
  refine VB_loc (lv' := [(0, _), (1, _), (2, _), (3, _), (4, _), (5, _), (6, _), (7, _), (8, _), (9, _), (10, _)]) [0, 1, 2, 3, 4, 5, 6, 7, 8, 9, 10] rfl ?_
  have hI2 : Iv (uA S (1 : Int).toNat (0 : Int).toNat (0 : Int).toNat (1 : Int).toNat (0 : Int).toNat) (setF (setF (setF (setF (setF (setF F 0 15 (iZ 1)) 0 16 (iZ 0)) 0 17 (iZ 0)) 0 18 (iZ 1)) 0 19 (iZ 0)) 4 0 (iZ 4)) 4 := iv_add hI (by decide) hc304 rfl (fun k hk => match k, hk with | 0, _ => rfl | 1, _ => rfl | 2, _ => rfl | j + 3, h => absurd h (by omega)) rfl
  have hK2 : sK (uA S (1 : Int).toNat (0 : Int).toNat (0 : Int).toNat (1 : Int).toNat (0 : Int).toNat) 0 = 0 := by show fu (sK S) (sN S) _ 0 = 0; unfold fu; rw [hn, if_neg (by decide)]; exact hK (by decide)
  exact VB_widen (by omega) (by omega) (ck3 hL h16 hx _ _ g304 hI2 hK2 hg304)
set_option maxRecDepth 100000 in
set_option maxHeartbeats 8000000 in
theorem ck2 {s0 L : Nat} {xs : Nat → Int32} {a : Nat → Nat} {c : Nat → ClassId} {b : Nat → Nat} {d : Nat → ClassId} (hL : L ≤ 260) (h16 : 80 ≤ L) (hx : ∀ j, j < 80 → xs j = 31) : ∀ (S : St) (F : Nat → Nat → Int32) (g : Nat → Nat), Iv S F 3 → sK S 0 = 0 → (∀ j, g j < 4096) → VB 96 RL cL_law 17 (some .boolean) wsL_law roomB (vXL s0 L xs) (tyl c d) (qF 123) (465) (2790 + 1250) (wal a c S b d F g) 783 [(0, .ref (s0)), (1, .ref (a 0)), (2, .ref (b 0)), (3, .ref (b 1)), (4, .ref (b 2)), (5, .ref (b 3)), (6, .ref (b 4)), (7, .int (iZ 1)), (8, .int (iZ 2)), (9, .int (iZ 31)), (10, .int (iZ 0))] [] := by
  intro S F g hI hK hg
  obtain ⟨ho, hn, hm4, hM0, hG, hC⟩ := id hI
  refine VB_iload (q := 785) dL_law_783 7 rfl rfl ?_
  refine VB_if_eq (q := 788) (tgt := 968) dL_law_785 (by decide) (by decide) (fun hc => absurd hc (by decide)) (fun _ => ?_)
  refine VB_aload_n (q := 789) dL_law_788 1 rfl rfl ?_
  refine VB_aload_n (q := 790) dL_law_789 2 rfl rfl ?_
  refine VB_aload_n (q := 791) dL_law_790 3 rfl rfl ?_
  refine VB_aload (q := 793) dL_law_791 6 rfl rfl ?_
  refine VB_callU (q := 796) dL_law_793 (u_areThings (a := a) (c := c) (S := S) (b := b) (d := d) (F := F) hI hg) yv_L_areThings rfl gL_law_L_areThings xU_L rfl (Nat.le_of_ble_eq_true rfl) (by decide) ⟨by show _ ≤ 20000; omega, by show _ ≤ 130000; omega⟩ (fun x793 g793 hP793 hg793 => ?_)
  refine VB_lo (lo' := 96) (Nat.le_add_right _ _) ?_
  have J968 : ∀ (gj968 : Nat → Nat), (∀ j, gj968 j < 4096) → VB 96 RL cL_law 17 (some .boolean) wsL_law roomB (vXL s0 L xs) (tyl c d) (qF 123) (685) (4110 + 1250) (wal a c S b d F gj968) 968 [(0, .ref (s0)), (1, .ref (a 0)), (2, .ref (b 0)), (3, .ref (b 1)), (4, .ref (b 2)), (5, .ref (b 3)), (6, .ref (b 4)), (7, .int (iZ 1)), (8, .int (iZ 2)), (9, .int (iZ 31)), (10, .int (iZ 0))] [] := by
    intro gj968 hgj968
    refine VB_iconst (q := 969) dL_law_968 rfl ?_
    refine VB_istore (q := 971) (lv' := [(0, _), (1, _), (2, _), (3, _), (4, _), (5, _), (6, _), (7, _), (8, _), (9, _), (10, _)]) dL_law_969 (by decide) rfl rfl ?_
    refine VB_iinc (q := 974) (y := 3) (lv' := [(0, _), (1, _), (2, _), (3, _), (4, _), (5, _), (6, _), (7, _), (8, _), (9, _), (10, _)]) dL_law_971 8 rfl (by omega) (by decide) rfl rfl ?_
    refine VB_goto (tgt := 64) dL_law_974 (by decide) ?_
    refine VB_iload (q := 66) dL_law_64 8 rfl rfl ?_
    refine VB_bipush (q := 68) dL_law_66 (by decide) rfl ?_
    refine VB_icmp_ge (q := 71) (tgt := 977) dL_law_68 (by decide) (by decide) (by decide) (fun hc => absurd hc (by decide)) (fun _ => ?_)
    refine VB_iload (q := 73) dL_law_71 7 rfl rfl ?_
    refine VB_if_eq (q := 76) (tgt := 977) dL_law_73 (by decide) (by decide) (fun _ => ?_) (fun hc => absurd hc (by decide))
    refine VB_iload (q := 979) dL_law_977 7 rfl rfl ?_
    exact VB_ret0 dL_law_979 rfl
  refine VB_uif_eq (q := 799) (tgt := 968) dL_law_796 (by decide) ?_ ?_
  · skip
    exact VB_widen (by omega) (by omega) (J968 g793 hg793)
  · skip
    refine VB_iload (q := 801) dL_law_799 8 rfl rfl ?_
    refine VB_iconst (q := 802) dL_law_801 rfl ?_
    refine VB_irem (q := 803) (a := 2) (b := 2) dL_law_802 (by omega) (by decide) (by decide) rfl ?_
    refine VB_top (y := iZ 0) rfl ?_
    refine VB_if_gt (q := 806) (tgt := 833) dL_law_803 (by decide) (by decide) (fun hc => absurd hc (by decide)) (fun _ => ?_)
    refine VB_aload_n (q := 807) dL_law_806 1 rfl rfl ?_
    refine VB_aload_n (q := 808) dL_law_807 2 rfl rfl ?_
    refine VB_aload_n (q := 809) dL_law_808 3 rfl rfl ?_
    refine VB_aload (q := 811) dL_law_809 4 rfl rfl ?_
    refine VB_aload (q := 813) dL_law_811 6 rfl rfl ?_
    refine VB_iload (q := 815) dL_law_813 10 rfl rfl ?_
    refine VB_bipush (q := 817) dL_law_815 (by decide) rfl ?_
    refine VB_irem (q := 818) (a := 0) (b := 31) dL_law_817 (by omega) (by decide) (by decide) rfl ?_
    refine VB_top (y := iZ 0) rfl ?_
    refine VB_iload (q := 820) dL_law_818 10 rfl rfl ?_
    refine VB_bipush (q := 822) dL_law_820 (by decide) rfl ?_
    refine VB_idiv (q := 823) (a := 0) (b := 31) dL_law_822 (by omega) (by decide) (by decide) rfl ?_
    refine VB_top (y := iZ 0) rfl ?_
    refine VB_sipush (q := 826) dL_law_823 (by decide) rfl ?_
    refine VB_irem (q := 827) (a := 0) (b := 256) dL_law_826 (by omega) (by decide) (by decide) rfl ?_
    refine VB_top (y := iZ 0) rfl ?_
    refine VB_callU (q := 830) dL_law_827 (u_areOutfits (a := a) (c := c) (S := S) (b := b) (d := d) (F := F) hI hg793) yv_L_areOutfits rfl gL_law_L_areOutfits xU_L rfl (Nat.le_of_ble_eq_true rfl) (by decide) ⟨by show _ ≤ 20000; omega, by show _ ≤ 130000; omega⟩ (fun x827 g827 hP827 hg827 => ?_)
    refine VB_lo (lo' := 96) (Nat.le_add_right _ _) ?_
    refine VB_uif_eq (q := 833) (tgt := 968) dL_law_830 (by decide) ?_ ?_
    · skip
      exact VB_widen (by omega) (by omega) (J968 g827 hg827)
    · skip
      refine VB_aload_n (q := 834) dL_law_833 1 rfl rfl ?_
      refine VB_aload_n (q := 835) dL_law_834 2 rfl rfl ?_
      refine VB_aload_n (q := 836) dL_law_835 3 rfl rfl ?_
      refine VB_aload (q := 838) dL_law_836 4 rfl rfl ?_
      refine VB_aload (q := 840) dL_law_838 6 rfl rfl ?_
      refine VB_callU (q := 843) dL_law_840 (u_isMissing (a := a) (c := c) (S := S) (b := b) (d := d) (F := F) hI hg827) yv_L_isMissing rfl gL_law_L_isMissing xU_L rfl (Nat.le_of_ble_eq_true rfl) (by decide) ⟨by show _ ≤ 20000; omega, by show _ ≤ 130000; omega⟩ (fun x840 g840 hP840 hg840 => ?_)
      refine VB_lo (lo' := 96) (Nat.le_add_right _ _) ?_
      refine VB_uif_eq (q := 846) (tgt := 968) dL_law_843 (by decide) ?_ ?_
      · skip
        exact VB_widen (by omega) (by omega) (J968 g840 hg840)
      · skip
        refine VB_aload_n (q := 847) dL_law_846 1 rfl rfl ?_
        refine VB_aload_n (q := 848) dL_law_847 2 rfl rfl ?_
        refine VB_aload (q := 850) dL_law_848 6 rfl rfl ?_
        refine VB_iload (q := 852) dL_law_850 10 rfl rfl ?_
        refine VB_aload (q := 854) dL_law_852 6 rfl rfl ?_
        refine VB_iconst (q := 855) dL_law_854 rfl ?_
        refine VB_iald (q := 856) (v := (iZ 3)) dL_law_855 13 12 rfl rfl (0) (by omega) (by omega) (by decide) (hM0) rfl ?_
        refine VB_iconst (q := 857) dL_law_856 rfl ?_
        refine VB_iadd (q := 858) dL_law_857 rfl ?_
        refine VB_top (y := iZ 4) rfl ?_
        refine VB_irem (q := 859) (a := 0) (b := 4) dL_law_858 (by omega) (by decide) (by decide) rfl ?_
        refine VB_top (y := iZ 0) rfl ?_
        refine VB_iload (q := 861) dL_law_859 10 rfl rfl ?_
        refine VB_bipush (q := 863) dL_law_861 (by decide) rfl ?_
        refine VB_idiv (q := 864) (a := 0) (b := 13) dL_law_863 (by omega) (by decide) (by decide) rfl ?_
        refine VB_top (y := iZ 0) rfl ?_
        refine VB_aload (q := 866) dL_law_864 6 rfl rfl ?_
        refine VB_iconst (q := 867) dL_law_866 rfl ?_
        refine VB_iald (q := 868) (v := (iZ 3)) dL_law_867 13 12 rfl rfl (0) (by omega) (by omega) (by decide) (hM0) rfl ?_
        refine VB_iconst (q := 869) dL_law_868 rfl ?_
        refine VB_iadd (q := 870) dL_law_869 rfl ?_
        refine VB_top (y := iZ 4) rfl ?_
        refine VB_irem (q := 871) (a := 0) (b := 4) dL_law_870 (by omega) (by decide) (by decide) rfl ?_
        refine VB_top (y := iZ 0) rfl ?_
        refine VB_iload (q := 873) dL_law_871 10 rfl rfl ?_
        refine VB_sipush (q := 876) dL_law_873 (by decide) rfl ?_
        refine VB_idiv (q := 877) (a := 0) (b := 169) dL_law_876 (by omega) (by decide) (by decide) rfl ?_
        refine VB_top (y := iZ 0) rfl ?_
        refine VB_aload (q := 879) dL_law_877 6 rfl rfl ?_
        refine VB_iconst (q := 880) dL_law_879 rfl ?_
        refine VB_iald (q := 881) (v := (iZ 3)) dL_law_880 13 12 rfl rfl (0) (by omega) (by omega) (by decide) (hM0) rfl ?_
        refine VB_iconst (q := 882) dL_law_881 rfl ?_
        refine VB_iadd (q := 883) dL_law_882 rfl ?_
        refine VB_top (y := iZ 5) rfl ?_
        refine VB_irem (q := 884) (a := 0) (b := 5) dL_law_883 (by omega) (by decide) (by decide) rfl ?_
        refine VB_top (y := iZ 0) rfl ?_
        refine VB_iconst (q := 885) dL_law_884 rfl ?_
        refine VB_isub (q := 886) dL_law_885 rfl ?_
        refine VB_top (y := iZ (-1)) rfl ?_
        refine VB_callU (q := 889) dL_law_886 (u_isWrong (a := a) (c := c) (S := S) (b := b) (d := d) (F := F) hI (wr0 hI (by decide) hK) hg840) yv_L_isWrong rfl gL_law_L_isWrong xU_L rfl (Nat.le_of_ble_eq_true rfl) (by decide) ⟨by show _ ≤ 20000; omega, by show _ ≤ 130000; omega⟩ (fun x886 g886 hP886 hg886 => ?_)
        refine VB_em (x := x886) (fun e886 => VB_lo (lo' := 96) (Nat.le_add_right _ _) (VB_top (y := iZ 0) e886 ?_)) (fun e886 => VB_lo (lo' := 98) (by show 98 ≤ 96 + (if x886 = 0 then 0 else 2); rw [if_neg e886]; omega) ?_)
        · skip
          refine VB_if_eq (q := 892) (tgt := 968) dL_law_889 (by decide) (by decide) (fun _ => ?_) (fun hc => absurd hc (by decide))
          exact VB_widen (by omega) (by omega) (J968 g886 hg886)
        · skip
          refine VB_uif_eq (q := 892) (tgt := 968) dL_law_889 (by decide) ?_ ?_
          · skip
            refine VB_lo (lo' := 96) (by omega) ?_
            exact VB_widen (by omega) (by omega) (J968 g886 hg886)
          · skip
            refine VB_iload (q := 894) dL_law_892 8 rfl rfl ?_
            refine VB_bipush (q := 896) dL_law_894 (by decide) rfl ?_
            refine VB_irem (q := 897) (a := 2) (b := 16) dL_law_896 (by omega) (by decide) (by decide) rfl ?_
            refine VB_top (y := iZ 2) rfl ?_
            refine VB_if_gt (q := 900) (tgt := 943) dL_law_897 (by decide) (by decide) (fun _ => ?_) (fun hc => absurd hc (by decide))
            refine VB_iload (q := 945) dL_law_943 8 rfl rfl ?_
            refine VB_bipush (q := 947) dL_law_945 (by decide) rfl ?_
            refine VB_irem (q := 948) (a := 2) (b := 20) dL_law_947 (by omega) (by decide) (by decide) rfl ?_
            refine VB_top (y := iZ 2) rfl ?_
            refine VB_if_gt (q := 951) (tgt := 964) dL_law_948 (by decide) (by decide) (fun _ => ?_) (fun hc => absurd hc (by decide))
            refine VB_iconst (q := 965) dL_law_964 rfl ?_
            refine VB_goto (tgt := 969) dL_law_965 (by decide) ?_
            refine VB_istore (q := 971) (lv' := [(0, _), (1, _), (2, _), (3, _), (4, _), (5, _), (6, _), (7, _), (8, _), (9, _), (10, _)]) dL_law_969 (by decide) rfl rfl ?_
            refine VB_iinc (q := 974) (y := 3) (lv' := [(0, _), (1, _), (2, _), (3, _), (4, _), (5, _), (6, _), (7, _), (8, _), (9, _), (10, _)]) dL_law_971 8 rfl (by omega) (by decide) rfl rfl ?_
            refine VB_goto (tgt := 64) dL_law_974 (by decide) ?_
            refine VB_loc (lv' := [(0, _), (1, _), (2, _), (3, _), (4, _), (5, _), (6, _), (7, _), (8, _)]) [0, 1, 2, 3, 4, 5, 6, 7, 8] rfl ?_
            refine VB_lo (lo' := 98) (by omega) ?_
            exact VB_widen (by omega) (by omega) (rd3 hL h16 hx S F g886 hI (fun _ => hK) hg886)
set_option maxRecDepth 100000 in
set_option maxHeartbeats 8000000 in
theorem rd2 {s0 L : Nat} {xs : Nat → Int32} {a : Nat → Nat} {c : Nat → ClassId} {b : Nat → Nat} {d : Nat → ClassId} (hL : L ≤ 260) (h16 : 80 ≤ L) (hx : ∀ j, j < 80 → xs j = 31) : ∀ (S : St) (F : Nat → Nat → Int32) (g : Nat → Nat), Iv S F 2 → (0 < 2 → sK S 0 = 0) → (∀ j, g j < 4096) → VB 96 RL cL_law 17 (some .boolean) wsL_law roomB (vXL s0 L xs) (tyl c d) (qF 123) (464) (2784 + 1250) (wal a c S b d F g) 64 [(0, .ref (s0)), (1, .ref (a 0)), (2, .ref (b 0)), (3, .ref (b 1)), (4, .ref (b 2)), (5, .ref (b 3)), (6, .ref (b 4)), (7, .int (iZ 1)), (8, .int (iZ 2))] [] := by
  intro S F g hI hK hg
  obtain ⟨ho, hn, hm4, hM0, hG, hC⟩ := id hI
  refine VB_iload (q := 66) dL_law_64 8 rfl rfl ?_
  refine VB_bipush (q := 68) dL_law_66 (by decide) rfl ?_
  refine VB_icmp_ge (q := 71) (tgt := 977) dL_law_68 (by decide) (by decide) (by decide) (fun hc => absurd hc (by decide)) (fun _ => ?_)
  refine VB_iload (q := 73) dL_law_71 7 rfl rfl ?_
  refine VB_if_eq (q := 76) (tgt := 977) dL_law_73 (by decide) (by decide) (fun hc => absurd hc (by decide)) (fun _ => ?_)
  refine VB_aload_n (q := 77) dL_law_76 0 rfl rfl ?_
  refine VB_iload (q := 79) dL_law_77 8 rfl rfl ?_
  refine VB_callD (q := 82) dL_law_79 (u_dice (b := s0) (L := L) (xs := xs) 2 (by omega) hL (hx 2 (by omega))) yv_L_dice rfl gL_law_L_dice xL_s rfl (Nat.le_of_ble_eq_true rfl) (by decide) ⟨by show _ ≤ 20000; omega, by show _ ≤ 130000; omega⟩ ?_
  refine VB_istore (q := 84) (lv' := [(0, _), (1, _), (2, _), (3, _), (4, _), (5, _), (6, _), (7, _), (8, _), (9, _)]) dL_law_82 (by decide) rfl rfl ?_
  refine VB_iload (q := 86) dL_law_84 9 rfl rfl ?_
  refine VB_bipush (q := 88) dL_law_86 (by decide) rfl ?_
  refine VB_idiv (q := 89) (a := 31) (b := 32) dL_law_88 (by omega) (by decide) (by decide) rfl ?_
  refine VB_top (y := iZ 0) rfl ?_
  refine VB_istore (q := 91) (lv' := [(0, _), (1, _), (2, _), (3, _), (4, _), (5, _), (6, _), (7, _), (8, _), (9, _), (10, _)]) dL_law_89 (by decide) rfl rfl ?_
  refine VB_iload (q := 93) dL_law_91 9 rfl rfl ?_
  refine VB_bipush (q := 95) dL_law_93 (by decide) rfl ?_
  refine VB_irem (q := 96) (a := 31) (b := 32) dL_law_95 (by omega) (by decide) (by decide) rfl ?_
  refine VB_top (y := iZ 31) rfl ?_
  refine VB_istore (q := 98) (lv' := [(0, _), (1, _), (2, _), (3, _), (4, _), (5, _), (6, _), (7, _), (8, _), (9, _), (10, _), (11, _)]) dL_law_96 (by decide) rfl rfl ?_
  refine VB_aload (q := 100) dL_law_98 6 rfl rfl ?_
  refine VB_iconst (q := 101) dL_law_100 rfl ?_
  refine VB_iald (q := 102) (v := (iZ 2)) dL_law_101 13 12 rfl rfl (0) (by omega) (by omega) (by decide) (hM0) rfl ?_
  refine VB_if_ne (q := 105) (tgt := 109) dL_law_102 (by decide) (by decide) (fun _ => ?_) (fun hc => absurd hc (by decide))
  refine VB_iload (q := 111) dL_law_109 10 rfl rfl ?_
  refine VB_aload (q := 113) dL_law_111 6 rfl rfl ?_
  refine VB_iconst (q := 114) dL_law_113 rfl ?_
  refine VB_iald (q := 115) (v := (iZ 2)) dL_law_114 13 12 rfl rfl (0) (by omega) (by omega) (by decide) (hM0) rfl ?_
  refine VB_irem (q := 116) (a := 0) (b := 2) dL_law_115 (by omega) (by decide) (by decide) rfl ?_
  refine VB_top (y := iZ 0) rfl ?_
  refine VB_istore (q := 118) (lv' := [(0, _), (1, _), (2, _), (3, _), (4, _), (5, _), (6, _), (7, _), (8, _), (9, _), (10, _), (11, _), (12, _)]) dL_law_116 (by decide) rfl rfl ?_
  refine VB_aload (q := 120) dL_law_118 6 rfl rfl ?_
  refine VB_iconst (q := 121) dL_law_120 rfl ?_
  refine VB_iald (q := 122) (v := (iZ 2)) dL_law_121 13 12 rfl rfl (0) (by omega) (by omega) (by decide) (hM0) rfl ?_
  refine VB_iconst (q := 123) dL_law_122 rfl ?_
  refine VB_icmp_lt (q := 126) (tgt := 141) dL_law_123 (by decide) (by decide) (by decide) (fun _ => ?_) (fun hc => absurd hc (by decide))
  refine VB_iconst (q := 142) dL_law_141 rfl ?_
  refine VB_aload (q := 144) dL_law_142 6 rfl rfl ?_
  refine VB_iconst (q := 145) dL_law_144 rfl ?_
  refine VB_iald (q := 146) (v := (iZ 2)) dL_law_145 13 12 rfl rfl (0) (by omega) (by omega) (by decide) (hM0) rfl ?_
  refine VB_imul (q := 147) dL_law_146 rfl ?_
  refine VB_top (y := iZ 10) rfl ?_
  refine VB_istore (q := 149) (lv' := [(0, _), (1, _), (2, _), (3, _), (4, _), (5, _), (6, _), (7, _), (8, _), (9, _), (10, _), (11, _), (12, _), (13, _)]) dL_law_147 (by decide) rfl rfl ?_
  refine VB_aload_n (q := 150) dL_law_149 2 rfl rfl ?_
  refine VB_iload (q := 152) dL_law_150 13 rfl rfl ?_
  refine VB_aload (q := 154) dL_law_152 6 rfl rfl ?_
  refine VB_iconst (q := 155) dL_law_154 rfl ?_
  refine VB_iald (q := 156) (v := (iZ 2)) dL_law_155 13 12 rfl rfl (0) (by omega) (by omega) (by decide) (hM0) rfl ?_
  refine VB_iconst (q := 157) dL_law_156 rfl ?_
  refine VB_icmp_ge (q := 160) (tgt := 169) dL_law_157 (by decide) (by decide) (by decide) (fun hc => absurd hc (by decide)) (fun _ => ?_)
  refine VB_aload (q := 162) dL_law_160 6 rfl rfl ?_
  refine VB_iconst (q := 163) dL_law_162 rfl ?_
  refine VB_iald (q := 164) (v := (iZ 2)) dL_law_163 13 12 rfl rfl (0) (by omega) (by omega) (by decide) (hM0) rfl ?_
  refine VB_iconst (q := 165) dL_law_164 rfl ?_
  refine VB_irem (q := 166) (a := 2) (b := 2) dL_law_165 (by omega) (by decide) (by decide) rfl ?_
  refine VB_top (y := iZ 0) rfl ?_
  refine VB_goto (tgt := 197) dL_law_166 (by decide) ?_
  refine VB_iast (q := 198) (ws' := wal a c S b d (setF F 0 10 (iZ 0)) g) dL_law_197 9 8 rfl rfl (10) (by omega) (by omega) (by decide) rfl rfl ?_
  refine VB_aload_n (q := 199) dL_law_198 2 rfl rfl ?_
  refine VB_iload (q := 201) dL_law_199 13 rfl rfl ?_
  refine VB_iconst (q := 202) dL_law_201 rfl ?_
  refine VB_iadd (q := 203) dL_law_202 rfl ?_
  refine VB_top (y := iZ 11) rfl ?_
  refine VB_iload (q := 205) dL_law_203 10 rfl rfl ?_
  refine VB_bipush (q := 207) dL_law_205 (by decide) rfl ?_
  refine VB_idiv (q := 208) (a := 0) (b := 9) dL_law_207 (by omega) (by decide) (by decide) rfl ?_
  refine VB_top (y := iZ 0) rfl ?_
  refine VB_bipush (q := 210) dL_law_208 (by decide) rfl ?_
  refine VB_irem (q := 211) (a := 0) (b := 8) dL_law_210 (by omega) (by decide) (by decide) rfl ?_
  refine VB_top (y := iZ 0) rfl ?_
  refine VB_iast (q := 212) (ws' := wal a c S b d (setF (setF F 0 10 (iZ 0)) 0 11 (iZ 0)) g) dL_law_211 9 8 rfl rfl (11) (by omega) (by omega) (by decide) rfl rfl ?_
  refine VB_aload_n (q := 213) dL_law_212 2 rfl rfl ?_
  refine VB_iload (q := 215) dL_law_213 13 rfl rfl ?_
  refine VB_iconst (q := 216) dL_law_215 rfl ?_
  refine VB_iadd (q := 217) dL_law_216 rfl ?_
  refine VB_top (y := iZ 12) rfl ?_
  refine VB_iload (q := 219) dL_law_217 10 rfl rfl ?_
  refine VB_bipush (q := 221) dL_law_219 (by decide) rfl ?_
  refine VB_idiv (q := 222) (a := 0) (b := 72) dL_law_221 (by omega) (by decide) (by decide) rfl ?_
  refine VB_top (y := iZ 0) rfl ?_
  refine VB_bipush (q := 224) dL_law_222 (by decide) rfl ?_
  refine VB_irem (q := 225) (a := 0) (b := 11) dL_law_224 (by omega) (by decide) (by decide) rfl ?_
  refine VB_top (y := iZ 0) rfl ?_
  refine VB_iast (q := 226) (ws' := wal a c S b d (setF (setF (setF F 0 10 (iZ 0)) 0 11 (iZ 0)) 0 12 (iZ 0)) g) dL_law_225 9 8 rfl rfl (12) (by omega) (by omega) (by decide) rfl rfl ?_
  refine VB_aload_n (q := 227) dL_law_226 2 rfl rfl ?_
  refine VB_iload (q := 229) dL_law_227 13 rfl rfl ?_
  refine VB_iconst (q := 230) dL_law_229 rfl ?_
  refine VB_iadd (q := 231) dL_law_230 rfl ?_
  refine VB_top (y := iZ 13) rfl ?_
  refine VB_iconst (q := 232) dL_law_231 rfl ?_
  refine VB_iload (q := 234) dL_law_232 10 rfl rfl ?_
  refine VB_sipush (q := 237) dL_law_234 (by decide) rfl ?_
  refine VB_idiv (q := 238) (a := 0) (b := 792) dL_law_237 (by omega) (by decide) (by decide) rfl ?_
  refine VB_top (y := iZ 0) rfl ?_
  refine VB_iload (q := 240) dL_law_238 10 rfl rfl ?_
  refine VB_iconst (q := 241) dL_law_240 rfl ?_
  refine VB_irem (q := 242) (a := 0) (b := 3) dL_law_241 (by omega) (by decide) (by decide) rfl ?_
  refine VB_top (y := iZ 0) rfl ?_
  refine VB_if_ne (q := 245) (tgt := 250) dL_law_242 (by decide) (by decide) (fun hc => absurd hc (by decide)) (fun _ => ?_)
  refine VB_bipush (q := 247) dL_law_245 (by decide) rfl ?_
  refine VB_goto (tgt := 251) dL_law_247 (by decide) ?_
  refine VB_irem (q := 252) (a := 0) (b := 9) dL_law_251 (by omega) (by decide) (by decide) rfl ?_
  refine VB_top (y := iZ 0) rfl ?_
  refine VB_iadd (q := 253) dL_law_252 rfl ?_
  refine VB_top (y := iZ 1) rfl ?_
  refine VB_iast (q := 254) (ws' := wal a c S b d (setF (setF (setF (setF F 0 10 (iZ 0)) 0 11 (iZ 0)) 0 12 (iZ 0)) 0 13 (iZ 1)) g) dL_law_253 9 8 rfl rfl (13) (by omega) (by omega) (by decide) rfl rfl ?_
  refine VB_aload_n (q := 255) dL_law_254 2 rfl rfl ?_
  refine VB_iload (q := 257) dL_law_255 13 rfl rfl ?_
  refine VB_iconst (q := 258) dL_law_257 rfl ?_
  refine VB_iadd (q := 259) dL_law_258 rfl ?_
  refine VB_top (y := iZ 14) rfl ?_
  refine VB_iload (q := 261) dL_law_259 10 rfl rfl ?_
  refine VB_bipush (q := 263) dL_law_261 (by decide) rfl ?_
  refine VB_idiv (q := 264) (a := 0) (b := 7) dL_law_263 (by omega) (by decide) (by decide) rfl ?_
  refine VB_top (y := iZ 0) rfl ?_
  refine VB_iconst (q := 265) dL_law_264 rfl ?_
  refine VB_irem (q := 266) (a := 0) (b := 3) dL_law_265 (by omega) (by decide) (by decide) rfl ?_
  refine VB_top (y := iZ 0) rfl ?_
  refine VB_iast (q := 267) (ws' := wal a c S b d (setF (setF (setF (setF (setF F 0 10 (iZ 0)) 0 11 (iZ 0)) 0 12 (iZ 0)) 0 13 (iZ 1)) 0 14 (iZ 0)) g) dL_law_266 9 8 rfl rfl (14) (by omega) (by omega) (by decide) rfl rfl ?_
  refine VB_aload (q := 269) dL_law_267 6 rfl rfl ?_
  refine VB_iconst (q := 270) dL_law_269 rfl ?_
  refine VB_dup2 (q := 271) dL_law_270 rfl rfl rfl ?_
  refine VB_iald (q := 272) (v := (iZ 2)) dL_law_271 13 12 rfl rfl (0) (by omega) (by omega) (by decide) (hM0) rfl ?_
  refine VB_iconst (q := 273) dL_law_272 rfl ?_
  refine VB_iadd (q := 274) dL_law_273 rfl ?_
  refine VB_top (y := iZ 3) rfl ?_
  refine VB_iast (q := 275) (ws' := wal a c S b d (setF (setF (setF (setF (setF (setF F 0 10 (iZ 0)) 0 11 (iZ 0)) 0 12 (iZ 0)) 0 13 (iZ 1)) 0 14 (iZ 0)) 4 0 (iZ 3)) g) dL_law_274 13 12 rfl rfl (0) (by omega) (by omega) (by decide) rfl rfl ?_
  refine VB_aload_n (q := 276) dL_law_275 1 rfl rfl ?_
  refine VB_aload_n (q := 277) dL_law_276 2 rfl rfl ?_
  refine VB_iload (q := 279) dL_law_277 13 rfl rfl ?_
  refine VB_iald (q := 280) (v := (iZ 0)) dL_law_279 9 8 rfl rfl (10) (by omega) (by omega) (by decide) (rfl) rfl ?_
  refine VB_aload_n (q := 281) dL_law_280 2 rfl rfl ?_
  refine VB_iload (q := 283) dL_law_281 13 rfl rfl ?_
  refine VB_iconst (q := 284) dL_law_283 rfl ?_
  refine VB_iadd (q := 285) dL_law_284 rfl ?_
  refine VB_top (y := iZ 11) rfl ?_
  refine VB_iald (q := 286) (v := (iZ 0)) dL_law_285 9 8 rfl rfl (11) (by omega) (by omega) (by decide) (rfl) rfl ?_
  refine VB_aload_n (q := 287) dL_law_286 2 rfl rfl ?_
  refine VB_iload (q := 289) dL_law_287 13 rfl rfl ?_
  refine VB_iconst (q := 290) dL_law_289 rfl ?_
  refine VB_iadd (q := 291) dL_law_290 rfl ?_
  refine VB_top (y := iZ 12) rfl ?_
  refine VB_iald (q := 292) (v := (iZ 0)) dL_law_291 9 8 rfl rfl (12) (by omega) (by omega) (by decide) (rfl) rfl ?_
  refine VB_aload_n (q := 293) dL_law_292 2 rfl rfl ?_
  refine VB_iload (q := 295) dL_law_293 13 rfl rfl ?_
  refine VB_iconst (q := 296) dL_law_295 rfl ?_
  refine VB_iadd (q := 297) dL_law_296 rfl ?_
  refine VB_top (y := iZ 13) rfl ?_
  refine VB_iald (q := 298) (v := (iZ 1)) dL_law_297 9 8 rfl rfl (13) (by omega) (by omega) (by decide) (rfl) rfl ?_
  refine VB_aload_n (q := 299) dL_law_298 2 rfl rfl ?_
  refine VB_iload (q := 301) dL_law_299 13 rfl rfl ?_
  refine VB_iconst (q := 302) dL_law_301 rfl ?_
  refine VB_iadd (q := 303) dL_law_302 rfl ?_
  refine VB_top (y := iZ 14) rfl ?_
  refine VB_iald (q := 304) (v := (iZ 0)) dL_law_303 9 8 rfl rfl (14) (by omega) (by omega) (by decide) (rfl) rfl ?_
  have hc304 : cAdd S 0 0 0 1 0 = 0 := by unfold cAdd; rw [if_pos (by decide), if_neg (by rw [hn]; decide)]
  refine VB_callUW (q := 307) dL_law_304 (u_add (a := a) (c := c) (S := S) (b := b) (d := d) (F := (setF (setF (setF (setF (setF (setF F 0 10 (iZ 0)) 0 11 (iZ 0)) 0 12 (iZ 0)) 0 13 (iZ 1)) 0 14 (iZ 0)) 4 0 (iZ 3))) ho hg 0 0 0 1 0 (by omega) (by omega) (by omega) (by omega) (by omega) hc304) yw_add rfl gL_law_L_add xU_L rfl (Nat.le_of_ble_eq_true rfl) (by decide) ⟨by show _ ≤ 20000; omega, by show _ ≤ 130000; omega⟩ (fun x304 g304 hP304 hg304 => ?_)
  refine VB_lo (lo' := 96) (Nat.le_add_right _ _) ?_
  refine VB_top (y := iZ 2) (Eq.trans hP304 (by rw [hn]; rfl)) ?_
  refine VB_aload (q := 309) dL_law_307 6 rfl rfl ?_
  refine VB_iconst (q := 310) dL_law_309 rfl ?_
  refine VB_iald (q := 311) (v := (iZ 3)) dL_law_310 13 12 rfl rfl (0) (by omega) (by omega) (by decide) (rfl) rfl ?_
  refine VB_iconst (q := 312) dL_law_311 rfl ?_
  refine VB_isub (q := 313) dL_law_312 rfl ?_
  refine VB_top (y := iZ 2) rfl ?_
  refine VB_icmp_ne (q := 316) (tgt := 320) dL_law_313 (by decide) (by decide) (by decide) (fun hc => absurd hc (by decide)) (fun _ => ?_)
  refine VB_iconst (q := 317) dL_law_316 rfl ?_
  refine VB_goto (tgt := 321) dL_law_317 (by decide) ?_
  refine VB_istore (q := 323) (lv' := [(0, _), (1, _), (2, _), (3, _), (4, _), (5, _), (6, _), (7, _), (8, _), (9, _), (10, _), (11, _), (12, _), (13, _)]) dL_law_321 (by decide) rfl rfl ?_
  refine VB_goto (tgt := 783) dL_law_323 (by decide) ?_
  refine VB_loc (lv' := [(0, _), (1, _), (2, _), (3, _), (4, _), (5, _), (6, _), (7, _), (8, _), (9, _), (10, _)]) [0, 1, 2, 3, 4, 5, 6, 7, 8, 9, 10] rfl ?_
  have hI2 : Iv (uA S (0 : Int).toNat (0 : Int).toNat (0 : Int).toNat (1 : Int).toNat (0 : Int).toNat) (setF (setF (setF (setF (setF (setF F 0 10 (iZ 0)) 0 11 (iZ 0)) 0 12 (iZ 0)) 0 13 (iZ 1)) 0 14 (iZ 0)) 4 0 (iZ 3)) 3 := iv_add hI (by decide) hc304 rfl (fun k hk => match k, hk with | 0, _ => rfl | 1, _ => rfl | j + 2, h => absurd h (by omega)) rfl
  have hK2 : sK (uA S (0 : Int).toNat (0 : Int).toNat (0 : Int).toNat (1 : Int).toNat (0 : Int).toNat) 0 = 0 := by show fu (sK S) (sN S) _ 0 = 0; unfold fu; rw [hn, if_neg (by decide)]; exact hK (by decide)
  exact VB_widen (by omega) (by omega) (ck2 hL h16 hx _ _ g304 hI2 hK2 hg304)
set_option maxRecDepth 100000 in
set_option maxHeartbeats 8000000 in
theorem ck1 {s0 L : Nat} {xs : Nat → Int32} {a : Nat → Nat} {c : Nat → ClassId} {b : Nat → Nat} {d : Nat → ClassId} (hL : L ≤ 260) (h16 : 80 ≤ L) (hx : ∀ j, j < 80 → xs j = 31) : ∀ (S : St) (F : Nat → Nat → Int32) (g : Nat → Nat), Iv S F 2 → sK S 0 = 0 → (∀ j, g j < 4096) → VB 94 RL cL_law 17 (some .boolean) wsL_law roomB (vXL s0 L xs) (tyl c d) (qF 123) (444) (2664 + 1250) (wal a c S b d F g) 783 [(0, .ref (s0)), (1, .ref (a 0)), (2, .ref (b 0)), (3, .ref (b 1)), (4, .ref (b 2)), (5, .ref (b 3)), (6, .ref (b 4)), (7, .int (iZ 1)), (8, .int (iZ 1)), (9, .int (iZ 31)), (10, .int (iZ 0))] [] := by
  intro S F g hI hK hg
  obtain ⟨ho, hn, hm4, hM0, hG, hC⟩ := id hI
  refine VB_iload (q := 785) dL_law_783 7 rfl rfl ?_
  refine VB_if_eq (q := 788) (tgt := 968) dL_law_785 (by decide) (by decide) (fun hc => absurd hc (by decide)) (fun _ => ?_)
  refine VB_aload_n (q := 789) dL_law_788 1 rfl rfl ?_
  refine VB_aload_n (q := 790) dL_law_789 2 rfl rfl ?_
  refine VB_aload_n (q := 791) dL_law_790 3 rfl rfl ?_
  refine VB_aload (q := 793) dL_law_791 6 rfl rfl ?_
  refine VB_callU (q := 796) dL_law_793 (u_areThings (a := a) (c := c) (S := S) (b := b) (d := d) (F := F) hI hg) yv_L_areThings rfl gL_law_L_areThings xU_L rfl (Nat.le_of_ble_eq_true rfl) (by decide) ⟨by show _ ≤ 20000; omega, by show _ ≤ 130000; omega⟩ (fun x793 g793 hP793 hg793 => ?_)
  refine VB_lo (lo' := 94) (Nat.le_add_right _ _) ?_
  have J968 : ∀ (gj968 : Nat → Nat), (∀ j, gj968 j < 4096) → VB 94 RL cL_law 17 (some .boolean) wsL_law roomB (vXL s0 L xs) (tyl c d) (qF 123) (464) (2784 + 1250) (wal a c S b d F gj968) 968 [(0, .ref (s0)), (1, .ref (a 0)), (2, .ref (b 0)), (3, .ref (b 1)), (4, .ref (b 2)), (5, .ref (b 3)), (6, .ref (b 4)), (7, .int (iZ 1)), (8, .int (iZ 1)), (9, .int (iZ 31)), (10, .int (iZ 0))] [] := by
    intro gj968 hgj968
    refine VB_iconst (q := 969) dL_law_968 rfl ?_
    refine VB_istore (q := 971) (lv' := [(0, _), (1, _), (2, _), (3, _), (4, _), (5, _), (6, _), (7, _), (8, _), (9, _), (10, _)]) dL_law_969 (by decide) rfl rfl ?_
    refine VB_iinc (q := 974) (y := 2) (lv' := [(0, _), (1, _), (2, _), (3, _), (4, _), (5, _), (6, _), (7, _), (8, _), (9, _), (10, _)]) dL_law_971 8 rfl (by omega) (by decide) rfl rfl ?_
    refine VB_goto (tgt := 64) dL_law_974 (by decide) ?_
    refine VB_iload (q := 66) dL_law_64 8 rfl rfl ?_
    refine VB_bipush (q := 68) dL_law_66 (by decide) rfl ?_
    refine VB_icmp_ge (q := 71) (tgt := 977) dL_law_68 (by decide) (by decide) (by decide) (fun hc => absurd hc (by decide)) (fun _ => ?_)
    refine VB_iload (q := 73) dL_law_71 7 rfl rfl ?_
    refine VB_if_eq (q := 76) (tgt := 977) dL_law_73 (by decide) (by decide) (fun _ => ?_) (fun hc => absurd hc (by decide))
    refine VB_iload (q := 979) dL_law_977 7 rfl rfl ?_
    exact VB_ret0 dL_law_979 rfl
  refine VB_uif_eq (q := 799) (tgt := 968) dL_law_796 (by decide) ?_ ?_
  · skip
    exact VB_widen (by omega) (by omega) (J968 g793 hg793)
  · skip
    refine VB_iload (q := 801) dL_law_799 8 rfl rfl ?_
    refine VB_iconst (q := 802) dL_law_801 rfl ?_
    refine VB_irem (q := 803) (a := 1) (b := 2) dL_law_802 (by omega) (by decide) (by decide) rfl ?_
    refine VB_top (y := iZ 1) rfl ?_
    refine VB_if_gt (q := 806) (tgt := 833) dL_law_803 (by decide) (by decide) (fun _ => ?_) (fun hc => absurd hc (by decide))
    refine VB_aload_n (q := 834) dL_law_833 1 rfl rfl ?_
    refine VB_aload_n (q := 835) dL_law_834 2 rfl rfl ?_
    refine VB_aload_n (q := 836) dL_law_835 3 rfl rfl ?_
    refine VB_aload (q := 838) dL_law_836 4 rfl rfl ?_
    refine VB_aload (q := 840) dL_law_838 6 rfl rfl ?_
    refine VB_callU (q := 843) dL_law_840 (u_isMissing (a := a) (c := c) (S := S) (b := b) (d := d) (F := F) hI hg793) yv_L_isMissing rfl gL_law_L_isMissing xU_L rfl (Nat.le_of_ble_eq_true rfl) (by decide) ⟨by show _ ≤ 20000; omega, by show _ ≤ 130000; omega⟩ (fun x840 g840 hP840 hg840 => ?_)
    refine VB_lo (lo' := 94) (Nat.le_add_right _ _) ?_
    refine VB_uif_eq (q := 846) (tgt := 968) dL_law_843 (by decide) ?_ ?_
    · skip
      exact VB_widen (by omega) (by omega) (J968 g840 hg840)
    · skip
      refine VB_aload_n (q := 847) dL_law_846 1 rfl rfl ?_
      refine VB_aload_n (q := 848) dL_law_847 2 rfl rfl ?_
      refine VB_aload (q := 850) dL_law_848 6 rfl rfl ?_
      refine VB_iload (q := 852) dL_law_850 10 rfl rfl ?_
      refine VB_aload (q := 854) dL_law_852 6 rfl rfl ?_
      refine VB_iconst (q := 855) dL_law_854 rfl ?_
      refine VB_iald (q := 856) (v := (iZ 2)) dL_law_855 13 12 rfl rfl (0) (by omega) (by omega) (by decide) (hM0) rfl ?_
      refine VB_iconst (q := 857) dL_law_856 rfl ?_
      refine VB_iadd (q := 858) dL_law_857 rfl ?_
      refine VB_top (y := iZ 3) rfl ?_
      refine VB_irem (q := 859) (a := 0) (b := 3) dL_law_858 (by omega) (by decide) (by decide) rfl ?_
      refine VB_top (y := iZ 0) rfl ?_
      refine VB_iload (q := 861) dL_law_859 10 rfl rfl ?_
      refine VB_bipush (q := 863) dL_law_861 (by decide) rfl ?_
      refine VB_idiv (q := 864) (a := 0) (b := 13) dL_law_863 (by omega) (by decide) (by decide) rfl ?_
      refine VB_top (y := iZ 0) rfl ?_
      refine VB_aload (q := 866) dL_law_864 6 rfl rfl ?_
      refine VB_iconst (q := 867) dL_law_866 rfl ?_
      refine VB_iald (q := 868) (v := (iZ 2)) dL_law_867 13 12 rfl rfl (0) (by omega) (by omega) (by decide) (hM0) rfl ?_
      refine VB_iconst (q := 869) dL_law_868 rfl ?_
      refine VB_iadd (q := 870) dL_law_869 rfl ?_
      refine VB_top (y := iZ 3) rfl ?_
      refine VB_irem (q := 871) (a := 0) (b := 3) dL_law_870 (by omega) (by decide) (by decide) rfl ?_
      refine VB_top (y := iZ 0) rfl ?_
      refine VB_iload (q := 873) dL_law_871 10 rfl rfl ?_
      refine VB_sipush (q := 876) dL_law_873 (by decide) rfl ?_
      refine VB_idiv (q := 877) (a := 0) (b := 169) dL_law_876 (by omega) (by decide) (by decide) rfl ?_
      refine VB_top (y := iZ 0) rfl ?_
      refine VB_aload (q := 879) dL_law_877 6 rfl rfl ?_
      refine VB_iconst (q := 880) dL_law_879 rfl ?_
      refine VB_iald (q := 881) (v := (iZ 2)) dL_law_880 13 12 rfl rfl (0) (by omega) (by omega) (by decide) (hM0) rfl ?_
      refine VB_iconst (q := 882) dL_law_881 rfl ?_
      refine VB_iadd (q := 883) dL_law_882 rfl ?_
      refine VB_top (y := iZ 4) rfl ?_
      refine VB_irem (q := 884) (a := 0) (b := 4) dL_law_883 (by omega) (by decide) (by decide) rfl ?_
      refine VB_top (y := iZ 0) rfl ?_
      refine VB_iconst (q := 885) dL_law_884 rfl ?_
      refine VB_isub (q := 886) dL_law_885 rfl ?_
      refine VB_top (y := iZ (-1)) rfl ?_
      refine VB_callU (q := 889) dL_law_886 (u_isWrong (a := a) (c := c) (S := S) (b := b) (d := d) (F := F) hI (wr0 hI (by decide) hK) hg840) yv_L_isWrong rfl gL_law_L_isWrong xU_L rfl (Nat.le_of_ble_eq_true rfl) (by decide) ⟨by show _ ≤ 20000; omega, by show _ ≤ 130000; omega⟩ (fun x886 g886 hP886 hg886 => ?_)
      refine VB_em (x := x886) (fun e886 => VB_lo (lo' := 94) (Nat.le_add_right _ _) (VB_top (y := iZ 0) e886 ?_)) (fun e886 => VB_lo (lo' := 96) (by show 96 ≤ 94 + (if x886 = 0 then 0 else 2); rw [if_neg e886]; omega) ?_)
      · skip
        refine VB_if_eq (q := 892) (tgt := 968) dL_law_889 (by decide) (by decide) (fun _ => ?_) (fun hc => absurd hc (by decide))
        exact VB_widen (by omega) (by omega) (J968 g886 hg886)
      · skip
        refine VB_uif_eq (q := 892) (tgt := 968) dL_law_889 (by decide) ?_ ?_
        · skip
          refine VB_lo (lo' := 94) (by omega) ?_
          exact VB_widen (by omega) (by omega) (J968 g886 hg886)
        · skip
          refine VB_iload (q := 894) dL_law_892 8 rfl rfl ?_
          refine VB_bipush (q := 896) dL_law_894 (by decide) rfl ?_
          refine VB_irem (q := 897) (a := 1) (b := 16) dL_law_896 (by omega) (by decide) (by decide) rfl ?_
          refine VB_top (y := iZ 1) rfl ?_
          refine VB_if_gt (q := 900) (tgt := 943) dL_law_897 (by decide) (by decide) (fun _ => ?_) (fun hc => absurd hc (by decide))
          refine VB_iload (q := 945) dL_law_943 8 rfl rfl ?_
          refine VB_bipush (q := 947) dL_law_945 (by decide) rfl ?_
          refine VB_irem (q := 948) (a := 1) (b := 20) dL_law_947 (by omega) (by decide) (by decide) rfl ?_
          refine VB_top (y := iZ 1) rfl ?_
          refine VB_if_gt (q := 951) (tgt := 964) dL_law_948 (by decide) (by decide) (fun _ => ?_) (fun hc => absurd hc (by decide))
          refine VB_iconst (q := 965) dL_law_964 rfl ?_
          refine VB_goto (tgt := 969) dL_law_965 (by decide) ?_
          refine VB_istore (q := 971) (lv' := [(0, _), (1, _), (2, _), (3, _), (4, _), (5, _), (6, _), (7, _), (8, _), (9, _), (10, _)]) dL_law_969 (by decide) rfl rfl ?_
          refine VB_iinc (q := 974) (y := 2) (lv' := [(0, _), (1, _), (2, _), (3, _), (4, _), (5, _), (6, _), (7, _), (8, _), (9, _), (10, _)]) dL_law_971 8 rfl (by omega) (by decide) rfl rfl ?_
          refine VB_goto (tgt := 64) dL_law_974 (by decide) ?_
          refine VB_loc (lv' := [(0, _), (1, _), (2, _), (3, _), (4, _), (5, _), (6, _), (7, _), (8, _)]) [0, 1, 2, 3, 4, 5, 6, 7, 8] rfl ?_
          refine VB_lo (lo' := 96) (by omega) ?_
          exact VB_widen (by omega) (by omega) (rd2 hL h16 hx S F g886 hI (fun _ => hK) hg886)
set_option maxRecDepth 100000 in
set_option maxHeartbeats 8000000 in
theorem rd1 {s0 L : Nat} {xs : Nat → Int32} {a : Nat → Nat} {c : Nat → ClassId} {b : Nat → Nat} {d : Nat → ClassId} (hL : L ≤ 260) (h16 : 80 ≤ L) (hx : ∀ j, j < 80 → xs j = 31) : ∀ (S : St) (F : Nat → Nat → Int32) (g : Nat → Nat), Iv S F 1 → (0 < 1 → sK S 0 = 0) → (∀ j, g j < 4096) → VB 94 RL cL_law 17 (some .boolean) wsL_law roomB (vXL s0 L xs) (tyl c d) (qF 123) (443) (2658 + 1250) (wal a c S b d F g) 64 [(0, .ref (s0)), (1, .ref (a 0)), (2, .ref (b 0)), (3, .ref (b 1)), (4, .ref (b 2)), (5, .ref (b 3)), (6, .ref (b 4)), (7, .int (iZ 1)), (8, .int (iZ 1))] [] := by
  intro S F g hI hK hg
  obtain ⟨ho, hn, hm4, hM0, hG, hC⟩ := id hI
  refine VB_iload (q := 66) dL_law_64 8 rfl rfl ?_
  refine VB_bipush (q := 68) dL_law_66 (by decide) rfl ?_
  refine VB_icmp_ge (q := 71) (tgt := 977) dL_law_68 (by decide) (by decide) (by decide) (fun hc => absurd hc (by decide)) (fun _ => ?_)
  refine VB_iload (q := 73) dL_law_71 7 rfl rfl ?_
  refine VB_if_eq (q := 76) (tgt := 977) dL_law_73 (by decide) (by decide) (fun hc => absurd hc (by decide)) (fun _ => ?_)
  refine VB_aload_n (q := 77) dL_law_76 0 rfl rfl ?_
  refine VB_iload (q := 79) dL_law_77 8 rfl rfl ?_
  refine VB_callD (q := 82) dL_law_79 (u_dice (b := s0) (L := L) (xs := xs) 1 (by omega) hL (hx 1 (by omega))) yv_L_dice rfl gL_law_L_dice xL_s rfl (Nat.le_of_ble_eq_true rfl) (by decide) ⟨by show _ ≤ 20000; omega, by show _ ≤ 130000; omega⟩ ?_
  refine VB_istore (q := 84) (lv' := [(0, _), (1, _), (2, _), (3, _), (4, _), (5, _), (6, _), (7, _), (8, _), (9, _)]) dL_law_82 (by decide) rfl rfl ?_
  refine VB_iload (q := 86) dL_law_84 9 rfl rfl ?_
  refine VB_bipush (q := 88) dL_law_86 (by decide) rfl ?_
  refine VB_idiv (q := 89) (a := 31) (b := 32) dL_law_88 (by omega) (by decide) (by decide) rfl ?_
  refine VB_top (y := iZ 0) rfl ?_
  refine VB_istore (q := 91) (lv' := [(0, _), (1, _), (2, _), (3, _), (4, _), (5, _), (6, _), (7, _), (8, _), (9, _), (10, _)]) dL_law_89 (by decide) rfl rfl ?_
  refine VB_iload (q := 93) dL_law_91 9 rfl rfl ?_
  refine VB_bipush (q := 95) dL_law_93 (by decide) rfl ?_
  refine VB_irem (q := 96) (a := 31) (b := 32) dL_law_95 (by omega) (by decide) (by decide) rfl ?_
  refine VB_top (y := iZ 31) rfl ?_
  refine VB_istore (q := 98) (lv' := [(0, _), (1, _), (2, _), (3, _), (4, _), (5, _), (6, _), (7, _), (8, _), (9, _), (10, _), (11, _)]) dL_law_96 (by decide) rfl rfl ?_
  refine VB_aload (q := 100) dL_law_98 6 rfl rfl ?_
  refine VB_iconst (q := 101) dL_law_100 rfl ?_
  refine VB_iald (q := 102) (v := (iZ 1)) dL_law_101 13 12 rfl rfl (0) (by omega) (by omega) (by decide) (hM0) rfl ?_
  refine VB_if_ne (q := 105) (tgt := 109) dL_law_102 (by decide) (by decide) (fun _ => ?_) (fun hc => absurd hc (by decide))
  refine VB_iload (q := 111) dL_law_109 10 rfl rfl ?_
  refine VB_aload (q := 113) dL_law_111 6 rfl rfl ?_
  refine VB_iconst (q := 114) dL_law_113 rfl ?_
  refine VB_iald (q := 115) (v := (iZ 1)) dL_law_114 13 12 rfl rfl (0) (by omega) (by omega) (by decide) (hM0) rfl ?_
  refine VB_irem (q := 116) (a := 0) (b := 1) dL_law_115 (by omega) (by decide) (by decide) rfl ?_
  refine VB_top (y := iZ 0) rfl ?_
  refine VB_istore (q := 118) (lv' := [(0, _), (1, _), (2, _), (3, _), (4, _), (5, _), (6, _), (7, _), (8, _), (9, _), (10, _), (11, _), (12, _)]) dL_law_116 (by decide) rfl rfl ?_
  refine VB_aload (q := 120) dL_law_118 6 rfl rfl ?_
  refine VB_iconst (q := 121) dL_law_120 rfl ?_
  refine VB_iald (q := 122) (v := (iZ 1)) dL_law_121 13 12 rfl rfl (0) (by omega) (by omega) (by decide) (hM0) rfl ?_
  refine VB_iconst (q := 123) dL_law_122 rfl ?_
  refine VB_icmp_lt (q := 126) (tgt := 141) dL_law_123 (by decide) (by decide) (by decide) (fun _ => ?_) (fun hc => absurd hc (by decide))
  refine VB_iconst (q := 142) dL_law_141 rfl ?_
  refine VB_aload (q := 144) dL_law_142 6 rfl rfl ?_
  refine VB_iconst (q := 145) dL_law_144 rfl ?_
  refine VB_iald (q := 146) (v := (iZ 1)) dL_law_145 13 12 rfl rfl (0) (by omega) (by omega) (by decide) (hM0) rfl ?_
  refine VB_imul (q := 147) dL_law_146 rfl ?_
  refine VB_top (y := iZ 5) rfl ?_
  refine VB_istore (q := 149) (lv' := [(0, _), (1, _), (2, _), (3, _), (4, _), (5, _), (6, _), (7, _), (8, _), (9, _), (10, _), (11, _), (12, _), (13, _)]) dL_law_147 (by decide) rfl rfl ?_
  refine VB_aload_n (q := 150) dL_law_149 2 rfl rfl ?_
  refine VB_iload (q := 152) dL_law_150 13 rfl rfl ?_
  refine VB_aload (q := 154) dL_law_152 6 rfl rfl ?_
  refine VB_iconst (q := 155) dL_law_154 rfl ?_
  refine VB_iald (q := 156) (v := (iZ 1)) dL_law_155 13 12 rfl rfl (0) (by omega) (by omega) (by decide) (hM0) rfl ?_
  refine VB_iconst (q := 157) dL_law_156 rfl ?_
  refine VB_icmp_ge (q := 160) (tgt := 169) dL_law_157 (by decide) (by decide) (by decide) (fun hc => absurd hc (by decide)) (fun _ => ?_)
  refine VB_aload (q := 162) dL_law_160 6 rfl rfl ?_
  refine VB_iconst (q := 163) dL_law_162 rfl ?_
  refine VB_iald (q := 164) (v := (iZ 1)) dL_law_163 13 12 rfl rfl (0) (by omega) (by omega) (by decide) (hM0) rfl ?_
  refine VB_iconst (q := 165) dL_law_164 rfl ?_
  refine VB_irem (q := 166) (a := 1) (b := 2) dL_law_165 (by omega) (by decide) (by decide) rfl ?_
  refine VB_top (y := iZ 1) rfl ?_
  refine VB_goto (tgt := 197) dL_law_166 (by decide) ?_
  refine VB_iast (q := 198) (ws' := wal a c S b d (setF F 0 5 (iZ 1)) g) dL_law_197 9 8 rfl rfl (5) (by omega) (by omega) (by decide) rfl rfl ?_
  refine VB_aload_n (q := 199) dL_law_198 2 rfl rfl ?_
  refine VB_iload (q := 201) dL_law_199 13 rfl rfl ?_
  refine VB_iconst (q := 202) dL_law_201 rfl ?_
  refine VB_iadd (q := 203) dL_law_202 rfl ?_
  refine VB_top (y := iZ 6) rfl ?_
  refine VB_iload (q := 205) dL_law_203 10 rfl rfl ?_
  refine VB_bipush (q := 207) dL_law_205 (by decide) rfl ?_
  refine VB_idiv (q := 208) (a := 0) (b := 9) dL_law_207 (by omega) (by decide) (by decide) rfl ?_
  refine VB_top (y := iZ 0) rfl ?_
  refine VB_bipush (q := 210) dL_law_208 (by decide) rfl ?_
  refine VB_irem (q := 211) (a := 0) (b := 8) dL_law_210 (by omega) (by decide) (by decide) rfl ?_
  refine VB_top (y := iZ 0) rfl ?_
  refine VB_iast (q := 212) (ws' := wal a c S b d (setF (setF F 0 5 (iZ 1)) 0 6 (iZ 0)) g) dL_law_211 9 8 rfl rfl (6) (by omega) (by omega) (by decide) rfl rfl ?_
  refine VB_aload_n (q := 213) dL_law_212 2 rfl rfl ?_
  refine VB_iload (q := 215) dL_law_213 13 rfl rfl ?_
  refine VB_iconst (q := 216) dL_law_215 rfl ?_
  refine VB_iadd (q := 217) dL_law_216 rfl ?_
  refine VB_top (y := iZ 7) rfl ?_
  refine VB_iload (q := 219) dL_law_217 10 rfl rfl ?_
  refine VB_bipush (q := 221) dL_law_219 (by decide) rfl ?_
  refine VB_idiv (q := 222) (a := 0) (b := 72) dL_law_221 (by omega) (by decide) (by decide) rfl ?_
  refine VB_top (y := iZ 0) rfl ?_
  refine VB_bipush (q := 224) dL_law_222 (by decide) rfl ?_
  refine VB_irem (q := 225) (a := 0) (b := 11) dL_law_224 (by omega) (by decide) (by decide) rfl ?_
  refine VB_top (y := iZ 0) rfl ?_
  refine VB_iast (q := 226) (ws' := wal a c S b d (setF (setF (setF F 0 5 (iZ 1)) 0 6 (iZ 0)) 0 7 (iZ 0)) g) dL_law_225 9 8 rfl rfl (7) (by omega) (by omega) (by decide) rfl rfl ?_
  refine VB_aload_n (q := 227) dL_law_226 2 rfl rfl ?_
  refine VB_iload (q := 229) dL_law_227 13 rfl rfl ?_
  refine VB_iconst (q := 230) dL_law_229 rfl ?_
  refine VB_iadd (q := 231) dL_law_230 rfl ?_
  refine VB_top (y := iZ 8) rfl ?_
  refine VB_iconst (q := 232) dL_law_231 rfl ?_
  refine VB_iload (q := 234) dL_law_232 10 rfl rfl ?_
  refine VB_sipush (q := 237) dL_law_234 (by decide) rfl ?_
  refine VB_idiv (q := 238) (a := 0) (b := 792) dL_law_237 (by omega) (by decide) (by decide) rfl ?_
  refine VB_top (y := iZ 0) rfl ?_
  refine VB_iload (q := 240) dL_law_238 10 rfl rfl ?_
  refine VB_iconst (q := 241) dL_law_240 rfl ?_
  refine VB_irem (q := 242) (a := 0) (b := 3) dL_law_241 (by omega) (by decide) (by decide) rfl ?_
  refine VB_top (y := iZ 0) rfl ?_
  refine VB_if_ne (q := 245) (tgt := 250) dL_law_242 (by decide) (by decide) (fun hc => absurd hc (by decide)) (fun _ => ?_)
  refine VB_bipush (q := 247) dL_law_245 (by decide) rfl ?_
  refine VB_goto (tgt := 251) dL_law_247 (by decide) ?_
  refine VB_irem (q := 252) (a := 0) (b := 9) dL_law_251 (by omega) (by decide) (by decide) rfl ?_
  refine VB_top (y := iZ 0) rfl ?_
  refine VB_iadd (q := 253) dL_law_252 rfl ?_
  refine VB_top (y := iZ 1) rfl ?_
  refine VB_iast (q := 254) (ws' := wal a c S b d (setF (setF (setF (setF F 0 5 (iZ 1)) 0 6 (iZ 0)) 0 7 (iZ 0)) 0 8 (iZ 1)) g) dL_law_253 9 8 rfl rfl (8) (by omega) (by omega) (by decide) rfl rfl ?_
  refine VB_aload_n (q := 255) dL_law_254 2 rfl rfl ?_
  refine VB_iload (q := 257) dL_law_255 13 rfl rfl ?_
  refine VB_iconst (q := 258) dL_law_257 rfl ?_
  refine VB_iadd (q := 259) dL_law_258 rfl ?_
  refine VB_top (y := iZ 9) rfl ?_
  refine VB_iload (q := 261) dL_law_259 10 rfl rfl ?_
  refine VB_bipush (q := 263) dL_law_261 (by decide) rfl ?_
  refine VB_idiv (q := 264) (a := 0) (b := 7) dL_law_263 (by omega) (by decide) (by decide) rfl ?_
  refine VB_top (y := iZ 0) rfl ?_
  refine VB_iconst (q := 265) dL_law_264 rfl ?_
  refine VB_irem (q := 266) (a := 0) (b := 3) dL_law_265 (by omega) (by decide) (by decide) rfl ?_
  refine VB_top (y := iZ 0) rfl ?_
  refine VB_iast (q := 267) (ws' := wal a c S b d (setF (setF (setF (setF (setF F 0 5 (iZ 1)) 0 6 (iZ 0)) 0 7 (iZ 0)) 0 8 (iZ 1)) 0 9 (iZ 0)) g) dL_law_266 9 8 rfl rfl (9) (by omega) (by omega) (by decide) rfl rfl ?_
  refine VB_aload (q := 269) dL_law_267 6 rfl rfl ?_
  refine VB_iconst (q := 270) dL_law_269 rfl ?_
  refine VB_dup2 (q := 271) dL_law_270 rfl rfl rfl ?_
  refine VB_iald (q := 272) (v := (iZ 1)) dL_law_271 13 12 rfl rfl (0) (by omega) (by omega) (by decide) (hM0) rfl ?_
  refine VB_iconst (q := 273) dL_law_272 rfl ?_
  refine VB_iadd (q := 274) dL_law_273 rfl ?_
  refine VB_top (y := iZ 2) rfl ?_
  refine VB_iast (q := 275) (ws' := wal a c S b d (setF (setF (setF (setF (setF (setF F 0 5 (iZ 1)) 0 6 (iZ 0)) 0 7 (iZ 0)) 0 8 (iZ 1)) 0 9 (iZ 0)) 4 0 (iZ 2)) g) dL_law_274 13 12 rfl rfl (0) (by omega) (by omega) (by decide) rfl rfl ?_
  refine VB_aload_n (q := 276) dL_law_275 1 rfl rfl ?_
  refine VB_aload_n (q := 277) dL_law_276 2 rfl rfl ?_
  refine VB_iload (q := 279) dL_law_277 13 rfl rfl ?_
  refine VB_iald (q := 280) (v := (iZ 1)) dL_law_279 9 8 rfl rfl (5) (by omega) (by omega) (by decide) (rfl) rfl ?_
  refine VB_aload_n (q := 281) dL_law_280 2 rfl rfl ?_
  refine VB_iload (q := 283) dL_law_281 13 rfl rfl ?_
  refine VB_iconst (q := 284) dL_law_283 rfl ?_
  refine VB_iadd (q := 285) dL_law_284 rfl ?_
  refine VB_top (y := iZ 6) rfl ?_
  refine VB_iald (q := 286) (v := (iZ 0)) dL_law_285 9 8 rfl rfl (6) (by omega) (by omega) (by decide) (rfl) rfl ?_
  refine VB_aload_n (q := 287) dL_law_286 2 rfl rfl ?_
  refine VB_iload (q := 289) dL_law_287 13 rfl rfl ?_
  refine VB_iconst (q := 290) dL_law_289 rfl ?_
  refine VB_iadd (q := 291) dL_law_290 rfl ?_
  refine VB_top (y := iZ 7) rfl ?_
  refine VB_iald (q := 292) (v := (iZ 0)) dL_law_291 9 8 rfl rfl (7) (by omega) (by omega) (by decide) (rfl) rfl ?_
  refine VB_aload_n (q := 293) dL_law_292 2 rfl rfl ?_
  refine VB_iload (q := 295) dL_law_293 13 rfl rfl ?_
  refine VB_iconst (q := 296) dL_law_295 rfl ?_
  refine VB_iadd (q := 297) dL_law_296 rfl ?_
  refine VB_top (y := iZ 8) rfl ?_
  refine VB_iald (q := 298) (v := (iZ 1)) dL_law_297 9 8 rfl rfl (8) (by omega) (by omega) (by decide) (rfl) rfl ?_
  refine VB_aload_n (q := 299) dL_law_298 2 rfl rfl ?_
  refine VB_iload (q := 301) dL_law_299 13 rfl rfl ?_
  refine VB_iconst (q := 302) dL_law_301 rfl ?_
  refine VB_iadd (q := 303) dL_law_302 rfl ?_
  refine VB_top (y := iZ 9) rfl ?_
  refine VB_iald (q := 304) (v := (iZ 0)) dL_law_303 9 8 rfl rfl (9) (by omega) (by omega) (by decide) (rfl) rfl ?_
  have hc304 : cAdd S 1 0 0 1 0 = 0 := by unfold cAdd; rw [if_pos (by decide), if_neg (by rw [hn]; decide)]
  refine VB_callUW (q := 307) dL_law_304 (u_add (a := a) (c := c) (S := S) (b := b) (d := d) (F := (setF (setF (setF (setF (setF (setF F 0 5 (iZ 1)) 0 6 (iZ 0)) 0 7 (iZ 0)) 0 8 (iZ 1)) 0 9 (iZ 0)) 4 0 (iZ 2))) ho hg 1 0 0 1 0 (by omega) (by omega) (by omega) (by omega) (by omega) hc304) yw_add rfl gL_law_L_add xU_L rfl (Nat.le_of_ble_eq_true rfl) (by decide) ⟨by show _ ≤ 20000; omega, by show _ ≤ 130000; omega⟩ (fun x304 g304 hP304 hg304 => ?_)
  refine VB_lo (lo' := 94) (Nat.le_add_right _ _) ?_
  refine VB_top (y := iZ 1) (Eq.trans hP304 (by rw [hn]; rfl)) ?_
  refine VB_aload (q := 309) dL_law_307 6 rfl rfl ?_
  refine VB_iconst (q := 310) dL_law_309 rfl ?_
  refine VB_iald (q := 311) (v := (iZ 2)) dL_law_310 13 12 rfl rfl (0) (by omega) (by omega) (by decide) (rfl) rfl ?_
  refine VB_iconst (q := 312) dL_law_311 rfl ?_
  refine VB_isub (q := 313) dL_law_312 rfl ?_
  refine VB_top (y := iZ 1) rfl ?_
  refine VB_icmp_ne (q := 316) (tgt := 320) dL_law_313 (by decide) (by decide) (by decide) (fun hc => absurd hc (by decide)) (fun _ => ?_)
  refine VB_iconst (q := 317) dL_law_316 rfl ?_
  refine VB_goto (tgt := 321) dL_law_317 (by decide) ?_
  refine VB_istore (q := 323) (lv' := [(0, _), (1, _), (2, _), (3, _), (4, _), (5, _), (6, _), (7, _), (8, _), (9, _), (10, _), (11, _), (12, _), (13, _)]) dL_law_321 (by decide) rfl rfl ?_
  refine VB_goto (tgt := 783) dL_law_323 (by decide) ?_
  refine VB_loc (lv' := [(0, _), (1, _), (2, _), (3, _), (4, _), (5, _), (6, _), (7, _), (8, _), (9, _), (10, _)]) [0, 1, 2, 3, 4, 5, 6, 7, 8, 9, 10] rfl ?_
  have hI2 : Iv (uA S (1 : Int).toNat (0 : Int).toNat (0 : Int).toNat (1 : Int).toNat (0 : Int).toNat) (setF (setF (setF (setF (setF (setF F 0 5 (iZ 1)) 0 6 (iZ 0)) 0 7 (iZ 0)) 0 8 (iZ 1)) 0 9 (iZ 0)) 4 0 (iZ 2)) 2 := iv_add hI (by decide) hc304 rfl (fun k hk => match k, hk with | 0, _ => rfl | j + 1, h => absurd h (by omega)) rfl
  have hK2 : sK (uA S (1 : Int).toNat (0 : Int).toNat (0 : Int).toNat (1 : Int).toNat (0 : Int).toNat) 0 = 0 := by show fu (sK S) (sN S) _ 0 = 0; unfold fu; rw [hn, if_neg (by decide)]; exact hK (by decide)
  exact VB_widen (by omega) (by omega) (ck1 hL h16 hx _ _ g304 hI2 hK2 hg304)
set_option maxRecDepth 100000 in
set_option maxHeartbeats 8000000 in
theorem ck0 {s0 L : Nat} {xs : Nat → Int32} {a : Nat → Nat} {c : Nat → ClassId} {b : Nat → Nat} {d : Nat → ClassId} (hL : L ≤ 260) (h16 : 80 ≤ L) (hx : ∀ j, j < 80 → xs j = 31) : ∀ (S : St) (F : Nat → Nat → Int32) (g : Nat → Nat), Iv S F 1 → sK S 0 = 0 → (∀ j, g j < 4096) → VB 66 RL cL_law 17 (some .boolean) wsL_law roomB (vXL s0 L xs) (tyl c d) (qF 123) (143) (858 + 1250) (wal a c S b d F g) 783 [(0, .ref (s0)), (1, .ref (a 0)), (2, .ref (b 0)), (3, .ref (b 1)), (4, .ref (b 2)), (5, .ref (b 3)), (6, .ref (b 4)), (7, .int (iZ 1)), (8, .int (iZ 0)), (9, .int (iZ 31)), (10, .int (iZ 0))] [] := by
  intro S F g hI hK hg
  obtain ⟨ho, hn, hm4, hM0, hG, hC⟩ := id hI
  refine VB_iload (q := 785) dL_law_783 7 rfl rfl ?_
  refine VB_if_eq (q := 788) (tgt := 968) dL_law_785 (by decide) (by decide) (fun hc => absurd hc (by decide)) (fun _ => ?_)
  refine VB_aload_n (q := 789) dL_law_788 1 rfl rfl ?_
  refine VB_aload_n (q := 790) dL_law_789 2 rfl rfl ?_
  refine VB_aload_n (q := 791) dL_law_790 3 rfl rfl ?_
  refine VB_aload (q := 793) dL_law_791 6 rfl rfl ?_
  refine VB_callU (q := 796) dL_law_793 (u_areThings (a := a) (c := c) (S := S) (b := b) (d := d) (F := F) hI hg) yv_L_areThings rfl gL_law_L_areThings xU_L rfl (Nat.le_of_ble_eq_true rfl) (by decide) ⟨by show _ ≤ 20000; omega, by show _ ≤ 130000; omega⟩ (fun x793 g793 hP793 hg793 => ?_)
  refine VB_lo (lo' := 66) (Nat.le_add_right _ _) ?_
  have J968 : ∀ (gj968 : Nat → Nat), (∀ j, gj968 j < 4096) → VB 66 RL cL_law 17 (some .boolean) wsL_law roomB (vXL s0 L xs) (tyl c d) (qF 123) (443) (2658 + 1250) (wal a c S b d F gj968) 968 [(0, .ref (s0)), (1, .ref (a 0)), (2, .ref (b 0)), (3, .ref (b 1)), (4, .ref (b 2)), (5, .ref (b 3)), (6, .ref (b 4)), (7, .int (iZ 1)), (8, .int (iZ 0)), (9, .int (iZ 31)), (10, .int (iZ 0))] [] := by
    intro gj968 hgj968
    refine VB_iconst (q := 969) dL_law_968 rfl ?_
    refine VB_istore (q := 971) (lv' := [(0, _), (1, _), (2, _), (3, _), (4, _), (5, _), (6, _), (7, _), (8, _), (9, _), (10, _)]) dL_law_969 (by decide) rfl rfl ?_
    refine VB_iinc (q := 974) (y := 1) (lv' := [(0, _), (1, _), (2, _), (3, _), (4, _), (5, _), (6, _), (7, _), (8, _), (9, _), (10, _)]) dL_law_971 8 rfl (by omega) (by decide) rfl rfl ?_
    refine VB_goto (tgt := 64) dL_law_974 (by decide) ?_
    refine VB_iload (q := 66) dL_law_64 8 rfl rfl ?_
    refine VB_bipush (q := 68) dL_law_66 (by decide) rfl ?_
    refine VB_icmp_ge (q := 71) (tgt := 977) dL_law_68 (by decide) (by decide) (by decide) (fun hc => absurd hc (by decide)) (fun _ => ?_)
    refine VB_iload (q := 73) dL_law_71 7 rfl rfl ?_
    refine VB_if_eq (q := 76) (tgt := 977) dL_law_73 (by decide) (by decide) (fun _ => ?_) (fun hc => absurd hc (by decide))
    refine VB_iload (q := 979) dL_law_977 7 rfl rfl ?_
    exact VB_ret0 dL_law_979 rfl
  refine VB_uif_eq (q := 799) (tgt := 968) dL_law_796 (by decide) ?_ ?_
  · skip
    exact VB_widen (by omega) (by omega) (J968 g793 hg793)
  · skip
    refine VB_iload (q := 801) dL_law_799 8 rfl rfl ?_
    refine VB_iconst (q := 802) dL_law_801 rfl ?_
    refine VB_irem (q := 803) (a := 0) (b := 2) dL_law_802 (by omega) (by decide) (by decide) rfl ?_
    refine VB_top (y := iZ 0) rfl ?_
    refine VB_if_gt (q := 806) (tgt := 833) dL_law_803 (by decide) (by decide) (fun hc => absurd hc (by decide)) (fun _ => ?_)
    refine VB_aload_n (q := 807) dL_law_806 1 rfl rfl ?_
    refine VB_aload_n (q := 808) dL_law_807 2 rfl rfl ?_
    refine VB_aload_n (q := 809) dL_law_808 3 rfl rfl ?_
    refine VB_aload (q := 811) dL_law_809 4 rfl rfl ?_
    refine VB_aload (q := 813) dL_law_811 6 rfl rfl ?_
    refine VB_iload (q := 815) dL_law_813 10 rfl rfl ?_
    refine VB_bipush (q := 817) dL_law_815 (by decide) rfl ?_
    refine VB_irem (q := 818) (a := 0) (b := 31) dL_law_817 (by omega) (by decide) (by decide) rfl ?_
    refine VB_top (y := iZ 0) rfl ?_
    refine VB_iload (q := 820) dL_law_818 10 rfl rfl ?_
    refine VB_bipush (q := 822) dL_law_820 (by decide) rfl ?_
    refine VB_idiv (q := 823) (a := 0) (b := 31) dL_law_822 (by omega) (by decide) (by decide) rfl ?_
    refine VB_top (y := iZ 0) rfl ?_
    refine VB_sipush (q := 826) dL_law_823 (by decide) rfl ?_
    refine VB_irem (q := 827) (a := 0) (b := 256) dL_law_826 (by omega) (by decide) (by decide) rfl ?_
    refine VB_top (y := iZ 0) rfl ?_
    refine VB_callU (q := 830) dL_law_827 (u_areOutfits (a := a) (c := c) (S := S) (b := b) (d := d) (F := F) hI hg793) yv_L_areOutfits rfl gL_law_L_areOutfits xU_L rfl (Nat.le_of_ble_eq_true rfl) (by decide) ⟨by show _ ≤ 20000; omega, by show _ ≤ 130000; omega⟩ (fun x827 g827 hP827 hg827 => ?_)
    refine VB_lo (lo' := 66) (Nat.le_add_right _ _) ?_
    refine VB_uif_eq (q := 833) (tgt := 968) dL_law_830 (by decide) ?_ ?_
    · skip
      exact VB_widen (by omega) (by omega) (J968 g827 hg827)
    · skip
      refine VB_aload_n (q := 834) dL_law_833 1 rfl rfl ?_
      refine VB_aload_n (q := 835) dL_law_834 2 rfl rfl ?_
      refine VB_aload_n (q := 836) dL_law_835 3 rfl rfl ?_
      refine VB_aload (q := 838) dL_law_836 4 rfl rfl ?_
      refine VB_aload (q := 840) dL_law_838 6 rfl rfl ?_
      refine VB_callU (q := 843) dL_law_840 (u_isMissing (a := a) (c := c) (S := S) (b := b) (d := d) (F := F) hI hg827) yv_L_isMissing rfl gL_law_L_isMissing xU_L rfl (Nat.le_of_ble_eq_true rfl) (by decide) ⟨by show _ ≤ 20000; omega, by show _ ≤ 130000; omega⟩ (fun x840 g840 hP840 hg840 => ?_)
      refine VB_lo (lo' := 66) (Nat.le_add_right _ _) ?_
      refine VB_uif_eq (q := 846) (tgt := 968) dL_law_843 (by decide) ?_ ?_
      · skip
        exact VB_widen (by omega) (by omega) (J968 g840 hg840)
      · skip
        refine VB_aload_n (q := 847) dL_law_846 1 rfl rfl ?_
        refine VB_aload_n (q := 848) dL_law_847 2 rfl rfl ?_
        refine VB_aload (q := 850) dL_law_848 6 rfl rfl ?_
        refine VB_iload (q := 852) dL_law_850 10 rfl rfl ?_
        refine VB_aload (q := 854) dL_law_852 6 rfl rfl ?_
        refine VB_iconst (q := 855) dL_law_854 rfl ?_
        refine VB_iald (q := 856) (v := (iZ 1)) dL_law_855 13 12 rfl rfl (0) (by omega) (by omega) (by decide) (hM0) rfl ?_
        refine VB_iconst (q := 857) dL_law_856 rfl ?_
        refine VB_iadd (q := 858) dL_law_857 rfl ?_
        refine VB_top (y := iZ 2) rfl ?_
        refine VB_irem (q := 859) (a := 0) (b := 2) dL_law_858 (by omega) (by decide) (by decide) rfl ?_
        refine VB_top (y := iZ 0) rfl ?_
        refine VB_iload (q := 861) dL_law_859 10 rfl rfl ?_
        refine VB_bipush (q := 863) dL_law_861 (by decide) rfl ?_
        refine VB_idiv (q := 864) (a := 0) (b := 13) dL_law_863 (by omega) (by decide) (by decide) rfl ?_
        refine VB_top (y := iZ 0) rfl ?_
        refine VB_aload (q := 866) dL_law_864 6 rfl rfl ?_
        refine VB_iconst (q := 867) dL_law_866 rfl ?_
        refine VB_iald (q := 868) (v := (iZ 1)) dL_law_867 13 12 rfl rfl (0) (by omega) (by omega) (by decide) (hM0) rfl ?_
        refine VB_iconst (q := 869) dL_law_868 rfl ?_
        refine VB_iadd (q := 870) dL_law_869 rfl ?_
        refine VB_top (y := iZ 2) rfl ?_
        refine VB_irem (q := 871) (a := 0) (b := 2) dL_law_870 (by omega) (by decide) (by decide) rfl ?_
        refine VB_top (y := iZ 0) rfl ?_
        refine VB_iload (q := 873) dL_law_871 10 rfl rfl ?_
        refine VB_sipush (q := 876) dL_law_873 (by decide) rfl ?_
        refine VB_idiv (q := 877) (a := 0) (b := 169) dL_law_876 (by omega) (by decide) (by decide) rfl ?_
        refine VB_top (y := iZ 0) rfl ?_
        refine VB_aload (q := 879) dL_law_877 6 rfl rfl ?_
        refine VB_iconst (q := 880) dL_law_879 rfl ?_
        refine VB_iald (q := 881) (v := (iZ 1)) dL_law_880 13 12 rfl rfl (0) (by omega) (by omega) (by decide) (hM0) rfl ?_
        refine VB_iconst (q := 882) dL_law_881 rfl ?_
        refine VB_iadd (q := 883) dL_law_882 rfl ?_
        refine VB_top (y := iZ 3) rfl ?_
        refine VB_irem (q := 884) (a := 0) (b := 3) dL_law_883 (by omega) (by decide) (by decide) rfl ?_
        refine VB_top (y := iZ 0) rfl ?_
        refine VB_iconst (q := 885) dL_law_884 rfl ?_
        refine VB_isub (q := 886) dL_law_885 rfl ?_
        refine VB_top (y := iZ (-1)) rfl ?_
        refine VB_callU (q := 889) dL_law_886 (u_isWrong (a := a) (c := c) (S := S) (b := b) (d := d) (F := F) hI (wr0 hI (by decide) hK) hg840) yv_L_isWrong rfl gL_law_L_isWrong xU_L rfl (Nat.le_of_ble_eq_true rfl) (by decide) ⟨by show _ ≤ 20000; omega, by show _ ≤ 130000; omega⟩ (fun x886 g886 hP886 hg886 => ?_)
        refine VB_em (x := x886) (fun e886 => VB_lo (lo' := 66) (Nat.le_add_right _ _) (VB_top (y := iZ 0) e886 ?_)) (fun e886 => VB_lo (lo' := 68) (by show 68 ≤ 66 + (if x886 = 0 then 0 else 2); rw [if_neg e886]; omega) ?_)
        · skip
          refine VB_if_eq (q := 892) (tgt := 968) dL_law_889 (by decide) (by decide) (fun _ => ?_) (fun hc => absurd hc (by decide))
          exact VB_widen (by omega) (by omega) (J968 g886 hg886)
        · skip
          refine VB_uif_eq (q := 892) (tgt := 968) dL_law_889 (by decide) ?_ ?_
          · skip
            refine VB_lo (lo' := 66) (by omega) ?_
            exact VB_widen (by omega) (by omega) (J968 g886 hg886)
          · skip
            refine VB_iload (q := 894) dL_law_892 8 rfl rfl ?_
            refine VB_bipush (q := 896) dL_law_894 (by decide) rfl ?_
            refine VB_irem (q := 897) (a := 0) (b := 16) dL_law_896 (by omega) (by decide) (by decide) rfl ?_
            refine VB_top (y := iZ 0) rfl ?_
            refine VB_if_gt (q := 900) (tgt := 943) dL_law_897 (by decide) (by decide) (fun hc => absurd hc (by decide)) (fun _ => ?_)
            refine VB_aload_n (q := 901) dL_law_900 1 rfl rfl ?_
            refine VB_aload_n (q := 902) dL_law_901 2 rfl rfl ?_
            refine VB_aload_n (q := 903) dL_law_902 3 rfl rfl ?_
            refine VB_aload (q := 905) dL_law_903 6 rfl rfl ?_
            refine VB_iload (q := 907) dL_law_905 10 rfl rfl ?_
            refine VB_bipush (q := 909) dL_law_907 (by decide) rfl ?_
            refine VB_idiv (q := 910) (a := 0) (b := 13) dL_law_909 (by omega) (by decide) (by decide) rfl ?_
            refine VB_top (y := iZ 0) rfl ?_
            refine VB_iconst (q := 911) dL_law_910 rfl ?_
            refine VB_iload (q := 913) dL_law_911 10 rfl rfl ?_
            refine VB_bipush (q := 915) dL_law_913 (by decide) rfl ?_
            refine VB_irem (q := 916) (a := 0) (b := 20) dL_law_915 (by omega) (by decide) (by decide) rfl ?_
            refine VB_top (y := iZ 0) rfl ?_
            refine VB_iadd (q := 917) dL_law_916 rfl ?_
            refine VB_top (y := iZ 1) rfl ?_
            refine VB_iload (q := 919) dL_law_917 10 rfl rfl ?_
            refine VB_bipush (q := 921) dL_law_919 (by decide) rfl ?_
            refine VB_idiv (q := 922) (a := 0) (b := 20) dL_law_921 (by omega) (by decide) (by decide) rfl ?_
            refine VB_top (y := iZ 0) rfl ?_
            refine VB_iload (q := 924) dL_law_922 10 rfl rfl ?_
            refine VB_iconst (q := 925) dL_law_924 rfl ?_
            refine VB_irem (q := 926) (a := 0) (b := 3) dL_law_925 (by omega) (by decide) (by decide) rfl ?_
            refine VB_top (y := iZ 0) rfl ?_
            refine VB_if_ne (q := 929) (tgt := 934) dL_law_926 (by decide) (by decide) (fun hc => absurd hc (by decide)) (fun _ => ?_)
            refine VB_bipush (q := 931) dL_law_929 (by decide) rfl ?_
            refine VB_goto (tgt := 936) dL_law_931 (by decide) ?_
            refine VB_irem (q := 937) (a := 0) (b := 21) dL_law_936 (by omega) (by decide) (by decide) rfl ?_
            refine VB_top (y := iZ 0) rfl ?_
            refine VB_callU (q := 940) dL_law_937 (u_isBag (a := a) (c := c) (S := S) (b := b) (d := d) (F := F) hI hg886) yv_L_isBag rfl gL_law_L_isBag xU_L rfl (Nat.le_of_ble_eq_true rfl) (by decide) ⟨by show _ ≤ 20000; omega, by show _ ≤ 130000; omega⟩ (fun x937 g937 hP937 hg937 => ?_)
            refine VB_lo (lo' := 68) (Nat.le_add_right _ _) ?_
            refine VB_uif_eq (q := 943) (tgt := 968) dL_law_940 (by decide) ?_ ?_
            · skip
              refine VB_lo (lo' := 66) (by omega) ?_
              exact VB_widen (by omega) (by omega) (J968 g937 hg937)
            · skip
              refine VB_iload (q := 945) dL_law_943 8 rfl rfl ?_
              refine VB_bipush (q := 947) dL_law_945 (by decide) rfl ?_
              refine VB_irem (q := 948) (a := 0) (b := 20) dL_law_947 (by omega) (by decide) (by decide) rfl ?_
              refine VB_top (y := iZ 0) rfl ?_
              refine VB_if_gt (q := 951) (tgt := 964) dL_law_948 (by decide) (by decide) (fun hc => absurd hc (by decide)) (fun _ => ?_)
              refine VB_aload_n (q := 952) dL_law_951 1 rfl rfl ?_
              refine VB_aload (q := 954) dL_law_952 6 rfl rfl ?_
              refine VB_iload (q := 956) dL_law_954 9 rfl rfl ?_
              refine VB_iconst (q := 957) dL_law_956 rfl ?_
              refine VB_idiv (q := 958) (a := 31) (b := 3) dL_law_957 (by omega) (by decide) (by decide) rfl ?_
              refine VB_top (y := iZ 10) rfl ?_
              refine VB_callU (q := 961) dL_law_958 (u_isRefused10 (a := a) (c := c) (S := S) (b := b) (d := d) (F := F) hI hg937) yv_L_isRefused rfl gL_law_L_isRefused xU_L rfl (Nat.le_of_ble_eq_true rfl) (by decide) ⟨by show _ ≤ 20000; omega, by show _ ≤ 130000; omega⟩ (fun x958 g958 hP958 hg958 => ?_)
              refine VB_em (x := x958) (fun e958 => VB_lo (lo' := 68) (Nat.le_add_right _ _) (VB_top (y := iZ 0) e958 ?_)) (fun e958 => VB_lo (lo' := 94) (by show 94 ≤ 68 + (if x958 = 0 then 0 else 26); rw [if_neg e958]; omega) ?_)
              · skip
                refine VB_if_eq (q := 964) (tgt := 968) dL_law_961 (by decide) (by decide) (fun _ => ?_) (fun hc => absurd hc (by decide))
                refine VB_lo (lo' := 66) (by omega) ?_
                exact VB_widen (by omega) (by omega) (J968 g958 hg958)
              · skip
                refine VB_uif_eq (q := 964) (tgt := 968) dL_law_961 (by decide) ?_ ?_
                · skip
                  refine VB_lo (lo' := 66) (by omega) ?_
                  exact VB_widen (by omega) (by omega) (J968 g958 hg958)
                · skip
                  refine VB_iconst (q := 965) dL_law_964 rfl ?_
                  refine VB_goto (tgt := 969) dL_law_965 (by decide) ?_
                  refine VB_istore (q := 971) (lv' := [(0, _), (1, _), (2, _), (3, _), (4, _), (5, _), (6, _), (7, _), (8, _), (9, _), (10, _)]) dL_law_969 (by decide) rfl rfl ?_
                  refine VB_iinc (q := 974) (y := 1) (lv' := [(0, _), (1, _), (2, _), (3, _), (4, _), (5, _), (6, _), (7, _), (8, _), (9, _), (10, _)]) dL_law_971 8 rfl (by omega) (by decide) rfl rfl ?_
                  refine VB_goto (tgt := 64) dL_law_974 (by decide) ?_
                  refine VB_loc (lv' := [(0, _), (1, _), (2, _), (3, _), (4, _), (5, _), (6, _), (7, _), (8, _)]) [0, 1, 2, 3, 4, 5, 6, 7, 8] rfl ?_
                  refine VB_lo (lo' := 94) (by omega) ?_
                  exact VB_widen (by omega) (by omega) (rd1 hL h16 hx S F g958 hI (fun _ => hK) hg958)
set_option maxRecDepth 100000 in
set_option maxHeartbeats 8000000 in
theorem rd0 {s0 L : Nat} {xs : Nat → Int32} {a : Nat → Nat} {c : Nat → ClassId} {b : Nat → Nat} {d : Nat → ClassId} (hL : L ≤ 260) (h16 : 80 ≤ L) (hx : ∀ j, j < 80 → xs j = 31) : ∀ (S : St) (F : Nat → Nat → Int32) (g : Nat → Nat), Iv S F 0 → (0 < 0 → sK S 0 = 0) → (∀ j, g j < 4096) → VB 66 RL cL_law 17 (some .boolean) wsL_law roomB (vXL s0 L xs) (tyl c d) (qF 123) (142) (852 + 1250) (wal a c S b d F g) 64 [(0, .ref (s0)), (1, .ref (a 0)), (2, .ref (b 0)), (3, .ref (b 1)), (4, .ref (b 2)), (5, .ref (b 3)), (6, .ref (b 4)), (7, .int (iZ 1)), (8, .int (iZ 0))] [] := by
  intro S F g hI hK hg
  obtain ⟨ho, hn, hm4, hM0, hG, hC⟩ := id hI
  refine VB_iload (q := 66) dL_law_64 8 rfl rfl ?_
  refine VB_bipush (q := 68) dL_law_66 (by decide) rfl ?_
  refine VB_icmp_ge (q := 71) (tgt := 977) dL_law_68 (by decide) (by decide) (by decide) (fun hc => absurd hc (by decide)) (fun _ => ?_)
  refine VB_iload (q := 73) dL_law_71 7 rfl rfl ?_
  refine VB_if_eq (q := 76) (tgt := 977) dL_law_73 (by decide) (by decide) (fun hc => absurd hc (by decide)) (fun _ => ?_)
  refine VB_aload_n (q := 77) dL_law_76 0 rfl rfl ?_
  refine VB_iload (q := 79) dL_law_77 8 rfl rfl ?_
  refine VB_callD (q := 82) dL_law_79 (u_dice (b := s0) (L := L) (xs := xs) 0 (by omega) hL (hx 0 (by omega))) yv_L_dice rfl gL_law_L_dice xL_s rfl (Nat.le_of_ble_eq_true rfl) (by decide) ⟨by show _ ≤ 20000; omega, by show _ ≤ 130000; omega⟩ ?_
  refine VB_istore (q := 84) (lv' := [(0, _), (1, _), (2, _), (3, _), (4, _), (5, _), (6, _), (7, _), (8, _), (9, _)]) dL_law_82 (by decide) rfl rfl ?_
  refine VB_iload (q := 86) dL_law_84 9 rfl rfl ?_
  refine VB_bipush (q := 88) dL_law_86 (by decide) rfl ?_
  refine VB_idiv (q := 89) (a := 31) (b := 32) dL_law_88 (by omega) (by decide) (by decide) rfl ?_
  refine VB_top (y := iZ 0) rfl ?_
  refine VB_istore (q := 91) (lv' := [(0, _), (1, _), (2, _), (3, _), (4, _), (5, _), (6, _), (7, _), (8, _), (9, _), (10, _)]) dL_law_89 (by decide) rfl rfl ?_
  refine VB_iload (q := 93) dL_law_91 9 rfl rfl ?_
  refine VB_bipush (q := 95) dL_law_93 (by decide) rfl ?_
  refine VB_irem (q := 96) (a := 31) (b := 32) dL_law_95 (by omega) (by decide) (by decide) rfl ?_
  refine VB_top (y := iZ 31) rfl ?_
  refine VB_istore (q := 98) (lv' := [(0, _), (1, _), (2, _), (3, _), (4, _), (5, _), (6, _), (7, _), (8, _), (9, _), (10, _), (11, _)]) dL_law_96 (by decide) rfl rfl ?_
  refine VB_aload (q := 100) dL_law_98 6 rfl rfl ?_
  refine VB_iconst (q := 101) dL_law_100 rfl ?_
  refine VB_iald (q := 102) (v := (iZ 0)) dL_law_101 13 12 rfl rfl (0) (by omega) (by omega) (by decide) (hM0) rfl ?_
  refine VB_if_ne (q := 105) (tgt := 109) dL_law_102 (by decide) (by decide) (fun hc => absurd hc (by decide)) (fun _ => ?_)
  refine VB_iconst (q := 106) dL_law_105 rfl ?_
  refine VB_goto (tgt := 116) dL_law_106 (by decide) ?_
  refine VB_istore (q := 118) (lv' := [(0, _), (1, _), (2, _), (3, _), (4, _), (5, _), (6, _), (7, _), (8, _), (9, _), (10, _), (11, _), (12, _)]) dL_law_116 (by decide) rfl rfl ?_
  refine VB_aload (q := 120) dL_law_118 6 rfl rfl ?_
  refine VB_iconst (q := 121) dL_law_120 rfl ?_
  refine VB_iald (q := 122) (v := (iZ 0)) dL_law_121 13 12 rfl rfl (0) (by omega) (by omega) (by decide) (hM0) rfl ?_
  refine VB_iconst (q := 123) dL_law_122 rfl ?_
  refine VB_icmp_lt (q := 126) (tgt := 141) dL_law_123 (by decide) (by decide) (by decide) (fun _ => ?_) (fun hc => absurd hc (by decide))
  refine VB_iconst (q := 142) dL_law_141 rfl ?_
  refine VB_aload (q := 144) dL_law_142 6 rfl rfl ?_
  refine VB_iconst (q := 145) dL_law_144 rfl ?_
  refine VB_iald (q := 146) (v := (iZ 0)) dL_law_145 13 12 rfl rfl (0) (by omega) (by omega) (by decide) (hM0) rfl ?_
  refine VB_imul (q := 147) dL_law_146 rfl ?_
  refine VB_top (y := iZ 0) rfl ?_
  refine VB_istore (q := 149) (lv' := [(0, _), (1, _), (2, _), (3, _), (4, _), (5, _), (6, _), (7, _), (8, _), (9, _), (10, _), (11, _), (12, _), (13, _)]) dL_law_147 (by decide) rfl rfl ?_
  refine VB_aload_n (q := 150) dL_law_149 2 rfl rfl ?_
  refine VB_iload (q := 152) dL_law_150 13 rfl rfl ?_
  refine VB_aload (q := 154) dL_law_152 6 rfl rfl ?_
  refine VB_iconst (q := 155) dL_law_154 rfl ?_
  refine VB_iald (q := 156) (v := (iZ 0)) dL_law_155 13 12 rfl rfl (0) (by omega) (by omega) (by decide) (hM0) rfl ?_
  refine VB_iconst (q := 157) dL_law_156 rfl ?_
  refine VB_icmp_ge (q := 160) (tgt := 169) dL_law_157 (by decide) (by decide) (by decide) (fun hc => absurd hc (by decide)) (fun _ => ?_)
  refine VB_aload (q := 162) dL_law_160 6 rfl rfl ?_
  refine VB_iconst (q := 163) dL_law_162 rfl ?_
  refine VB_iald (q := 164) (v := (iZ 0)) dL_law_163 13 12 rfl rfl (0) (by omega) (by omega) (by decide) (hM0) rfl ?_
  refine VB_iconst (q := 165) dL_law_164 rfl ?_
  refine VB_irem (q := 166) (a := 0) (b := 2) dL_law_165 (by omega) (by decide) (by decide) rfl ?_
  refine VB_top (y := iZ 0) rfl ?_
  refine VB_goto (tgt := 197) dL_law_166 (by decide) ?_
  refine VB_iast (q := 198) (ws' := wal a c S b d (setF F 0 0 (iZ 0)) g) dL_law_197 9 8 rfl rfl (0) (by omega) (by omega) (by decide) rfl rfl ?_
  refine VB_aload_n (q := 199) dL_law_198 2 rfl rfl ?_
  refine VB_iload (q := 201) dL_law_199 13 rfl rfl ?_
  refine VB_iconst (q := 202) dL_law_201 rfl ?_
  refine VB_iadd (q := 203) dL_law_202 rfl ?_
  refine VB_top (y := iZ 1) rfl ?_
  refine VB_iload (q := 205) dL_law_203 10 rfl rfl ?_
  refine VB_bipush (q := 207) dL_law_205 (by decide) rfl ?_
  refine VB_idiv (q := 208) (a := 0) (b := 9) dL_law_207 (by omega) (by decide) (by decide) rfl ?_
  refine VB_top (y := iZ 0) rfl ?_
  refine VB_bipush (q := 210) dL_law_208 (by decide) rfl ?_
  refine VB_irem (q := 211) (a := 0) (b := 8) dL_law_210 (by omega) (by decide) (by decide) rfl ?_
  refine VB_top (y := iZ 0) rfl ?_
  refine VB_iast (q := 212) (ws' := wal a c S b d (setF (setF F 0 0 (iZ 0)) 0 1 (iZ 0)) g) dL_law_211 9 8 rfl rfl (1) (by omega) (by omega) (by decide) rfl rfl ?_
  refine VB_aload_n (q := 213) dL_law_212 2 rfl rfl ?_
  refine VB_iload (q := 215) dL_law_213 13 rfl rfl ?_
  refine VB_iconst (q := 216) dL_law_215 rfl ?_
  refine VB_iadd (q := 217) dL_law_216 rfl ?_
  refine VB_top (y := iZ 2) rfl ?_
  refine VB_iload (q := 219) dL_law_217 10 rfl rfl ?_
  refine VB_bipush (q := 221) dL_law_219 (by decide) rfl ?_
  refine VB_idiv (q := 222) (a := 0) (b := 72) dL_law_221 (by omega) (by decide) (by decide) rfl ?_
  refine VB_top (y := iZ 0) rfl ?_
  refine VB_bipush (q := 224) dL_law_222 (by decide) rfl ?_
  refine VB_irem (q := 225) (a := 0) (b := 11) dL_law_224 (by omega) (by decide) (by decide) rfl ?_
  refine VB_top (y := iZ 0) rfl ?_
  refine VB_iast (q := 226) (ws' := wal a c S b d (setF (setF (setF F 0 0 (iZ 0)) 0 1 (iZ 0)) 0 2 (iZ 0)) g) dL_law_225 9 8 rfl rfl (2) (by omega) (by omega) (by decide) rfl rfl ?_
  refine VB_aload_n (q := 227) dL_law_226 2 rfl rfl ?_
  refine VB_iload (q := 229) dL_law_227 13 rfl rfl ?_
  refine VB_iconst (q := 230) dL_law_229 rfl ?_
  refine VB_iadd (q := 231) dL_law_230 rfl ?_
  refine VB_top (y := iZ 3) rfl ?_
  refine VB_iconst (q := 232) dL_law_231 rfl ?_
  refine VB_iload (q := 234) dL_law_232 10 rfl rfl ?_
  refine VB_sipush (q := 237) dL_law_234 (by decide) rfl ?_
  refine VB_idiv (q := 238) (a := 0) (b := 792) dL_law_237 (by omega) (by decide) (by decide) rfl ?_
  refine VB_top (y := iZ 0) rfl ?_
  refine VB_iload (q := 240) dL_law_238 10 rfl rfl ?_
  refine VB_iconst (q := 241) dL_law_240 rfl ?_
  refine VB_irem (q := 242) (a := 0) (b := 3) dL_law_241 (by omega) (by decide) (by decide) rfl ?_
  refine VB_top (y := iZ 0) rfl ?_
  refine VB_if_ne (q := 245) (tgt := 250) dL_law_242 (by decide) (by decide) (fun hc => absurd hc (by decide)) (fun _ => ?_)
  refine VB_bipush (q := 247) dL_law_245 (by decide) rfl ?_
  refine VB_goto (tgt := 251) dL_law_247 (by decide) ?_
  refine VB_irem (q := 252) (a := 0) (b := 9) dL_law_251 (by omega) (by decide) (by decide) rfl ?_
  refine VB_top (y := iZ 0) rfl ?_
  refine VB_iadd (q := 253) dL_law_252 rfl ?_
  refine VB_top (y := iZ 1) rfl ?_
  refine VB_iast (q := 254) (ws' := wal a c S b d (setF (setF (setF (setF F 0 0 (iZ 0)) 0 1 (iZ 0)) 0 2 (iZ 0)) 0 3 (iZ 1)) g) dL_law_253 9 8 rfl rfl (3) (by omega) (by omega) (by decide) rfl rfl ?_
  refine VB_aload_n (q := 255) dL_law_254 2 rfl rfl ?_
  refine VB_iload (q := 257) dL_law_255 13 rfl rfl ?_
  refine VB_iconst (q := 258) dL_law_257 rfl ?_
  refine VB_iadd (q := 259) dL_law_258 rfl ?_
  refine VB_top (y := iZ 4) rfl ?_
  refine VB_iload (q := 261) dL_law_259 10 rfl rfl ?_
  refine VB_bipush (q := 263) dL_law_261 (by decide) rfl ?_
  refine VB_idiv (q := 264) (a := 0) (b := 7) dL_law_263 (by omega) (by decide) (by decide) rfl ?_
  refine VB_top (y := iZ 0) rfl ?_
  refine VB_iconst (q := 265) dL_law_264 rfl ?_
  refine VB_irem (q := 266) (a := 0) (b := 3) dL_law_265 (by omega) (by decide) (by decide) rfl ?_
  refine VB_top (y := iZ 0) rfl ?_
  refine VB_iast (q := 267) (ws' := wal a c S b d (setF (setF (setF (setF (setF F 0 0 (iZ 0)) 0 1 (iZ 0)) 0 2 (iZ 0)) 0 3 (iZ 1)) 0 4 (iZ 0)) g) dL_law_266 9 8 rfl rfl (4) (by omega) (by omega) (by decide) rfl rfl ?_
  refine VB_aload (q := 269) dL_law_267 6 rfl rfl ?_
  refine VB_iconst (q := 270) dL_law_269 rfl ?_
  refine VB_dup2 (q := 271) dL_law_270 rfl rfl rfl ?_
  refine VB_iald (q := 272) (v := (iZ 0)) dL_law_271 13 12 rfl rfl (0) (by omega) (by omega) (by decide) (hM0) rfl ?_
  refine VB_iconst (q := 273) dL_law_272 rfl ?_
  refine VB_iadd (q := 274) dL_law_273 rfl ?_
  refine VB_top (y := iZ 1) rfl ?_
  refine VB_iast (q := 275) (ws' := wal a c S b d (setF (setF (setF (setF (setF (setF F 0 0 (iZ 0)) 0 1 (iZ 0)) 0 2 (iZ 0)) 0 3 (iZ 1)) 0 4 (iZ 0)) 4 0 (iZ 1)) g) dL_law_274 13 12 rfl rfl (0) (by omega) (by omega) (by decide) rfl rfl ?_
  refine VB_aload_n (q := 276) dL_law_275 1 rfl rfl ?_
  refine VB_aload_n (q := 277) dL_law_276 2 rfl rfl ?_
  refine VB_iload (q := 279) dL_law_277 13 rfl rfl ?_
  refine VB_iald (q := 280) (v := (iZ 0)) dL_law_279 9 8 rfl rfl (0) (by omega) (by omega) (by decide) (rfl) rfl ?_
  refine VB_aload_n (q := 281) dL_law_280 2 rfl rfl ?_
  refine VB_iload (q := 283) dL_law_281 13 rfl rfl ?_
  refine VB_iconst (q := 284) dL_law_283 rfl ?_
  refine VB_iadd (q := 285) dL_law_284 rfl ?_
  refine VB_top (y := iZ 1) rfl ?_
  refine VB_iald (q := 286) (v := (iZ 0)) dL_law_285 9 8 rfl rfl (1) (by omega) (by omega) (by decide) (rfl) rfl ?_
  refine VB_aload_n (q := 287) dL_law_286 2 rfl rfl ?_
  refine VB_iload (q := 289) dL_law_287 13 rfl rfl ?_
  refine VB_iconst (q := 290) dL_law_289 rfl ?_
  refine VB_iadd (q := 291) dL_law_290 rfl ?_
  refine VB_top (y := iZ 2) rfl ?_
  refine VB_iald (q := 292) (v := (iZ 0)) dL_law_291 9 8 rfl rfl (2) (by omega) (by omega) (by decide) (rfl) rfl ?_
  refine VB_aload_n (q := 293) dL_law_292 2 rfl rfl ?_
  refine VB_iload (q := 295) dL_law_293 13 rfl rfl ?_
  refine VB_iconst (q := 296) dL_law_295 rfl ?_
  refine VB_iadd (q := 297) dL_law_296 rfl ?_
  refine VB_top (y := iZ 3) rfl ?_
  refine VB_iald (q := 298) (v := (iZ 1)) dL_law_297 9 8 rfl rfl (3) (by omega) (by omega) (by decide) (rfl) rfl ?_
  refine VB_aload_n (q := 299) dL_law_298 2 rfl rfl ?_
  refine VB_iload (q := 301) dL_law_299 13 rfl rfl ?_
  refine VB_iconst (q := 302) dL_law_301 rfl ?_
  refine VB_iadd (q := 303) dL_law_302 rfl ?_
  refine VB_top (y := iZ 4) rfl ?_
  refine VB_iald (q := 304) (v := (iZ 0)) dL_law_303 9 8 rfl rfl (4) (by omega) (by omega) (by decide) (rfl) rfl ?_
  have hc304 : cAdd S 0 0 0 1 0 = 0 := by unfold cAdd; rw [if_pos (by decide), if_neg (by rw [hn]; decide)]
  refine VB_callUW (q := 307) dL_law_304 (u_add (a := a) (c := c) (S := S) (b := b) (d := d) (F := (setF (setF (setF (setF (setF (setF F 0 0 (iZ 0)) 0 1 (iZ 0)) 0 2 (iZ 0)) 0 3 (iZ 1)) 0 4 (iZ 0)) 4 0 (iZ 1))) ho hg 0 0 0 1 0 (by omega) (by omega) (by omega) (by omega) (by omega) hc304) yw_add rfl gL_law_L_add xU_L rfl (Nat.le_of_ble_eq_true rfl) (by decide) ⟨by show _ ≤ 20000; omega, by show _ ≤ 130000; omega⟩ (fun x304 g304 hP304 hg304 => ?_)
  refine VB_lo (lo' := 66) (Nat.le_add_right _ _) ?_
  refine VB_top (y := iZ 0) (Eq.trans hP304 (by rw [hn]; rfl)) ?_
  refine VB_aload (q := 309) dL_law_307 6 rfl rfl ?_
  refine VB_iconst (q := 310) dL_law_309 rfl ?_
  refine VB_iald (q := 311) (v := (iZ 1)) dL_law_310 13 12 rfl rfl (0) (by omega) (by omega) (by decide) (rfl) rfl ?_
  refine VB_iconst (q := 312) dL_law_311 rfl ?_
  refine VB_isub (q := 313) dL_law_312 rfl ?_
  refine VB_top (y := iZ 0) rfl ?_
  refine VB_icmp_ne (q := 316) (tgt := 320) dL_law_313 (by decide) (by decide) (by decide) (fun hc => absurd hc (by decide)) (fun _ => ?_)
  refine VB_iconst (q := 317) dL_law_316 rfl ?_
  refine VB_goto (tgt := 321) dL_law_317 (by decide) ?_
  refine VB_istore (q := 323) (lv' := [(0, _), (1, _), (2, _), (3, _), (4, _), (5, _), (6, _), (7, _), (8, _), (9, _), (10, _), (11, _), (12, _), (13, _)]) dL_law_321 (by decide) rfl rfl ?_
  refine VB_goto (tgt := 783) dL_law_323 (by decide) ?_
  refine VB_loc (lv' := [(0, _), (1, _), (2, _), (3, _), (4, _), (5, _), (6, _), (7, _), (8, _), (9, _), (10, _)]) [0, 1, 2, 3, 4, 5, 6, 7, 8, 9, 10] rfl ?_
  have hI2 : Iv (uA S (0 : Int).toNat (0 : Int).toNat (0 : Int).toNat (1 : Int).toNat (0 : Int).toNat) (setF (setF (setF (setF (setF (setF F 0 0 (iZ 0)) 0 1 (iZ 0)) 0 2 (iZ 0)) 0 3 (iZ 1)) 0 4 (iZ 0)) 4 0 (iZ 1)) 1 := iv_add hI (by decide) hc304 rfl (fun k hk => match k, hk with  | j + 0, h => absurd h (by omega)) rfl
  have hK2 : sK (uA S (0 : Int).toNat (0 : Int).toNat (0 : Int).toNat (1 : Int).toNat (0 : Int).toNat) 0 = 0 := by show fu (sK S) (sN S) _ 0 = 0; unfold fu; rw [hn, if_pos rfl]; rfl
  exact VB_widen (by omega) (by omega) (ck0 hL h16 hx _ _ g304 hI2 hK2 hg304)
