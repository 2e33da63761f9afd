/-! the law's rounds, further -/
set_option maxRecDepth 100000 in
set_option maxHeartbeats 8000000 in
theorem ck39 {s0 L : Nat} {xs : Nat → Int32} {a : Nat → Nat} {c : Nat → ClassId} {b : Nat → Nat} {d : Nat → ClassId} (hL : L ≤ 260) (h16 : 80 ≤ L) (hx : ∀ j, j < 80 → xs j = 31) : ∀ (S : St) (F : Nat → Nat → Int32) (g : Nat → Nat), Iv S F 4 → sK S 0 = 0 → (∀ j, g j < 4096) → VB 123 RL cL_law 17 (some .boolean) wsL_law roomB (vXL s0 L xs) (tyl c d) (qF 123) (5102) (30612 + 1250) (wal a c S b d F g) 783 [(0, .ref (s0)), (1, .ref (a 0)), (2, .ref (b 0)), (3, .ref (b 1)), (4, .ref (b 2)), (5, .ref (b 3)), (6, .ref (b 4)), (7, .int (iZ 1)), (8, .int (iZ 39)), (9, .int (iZ 31)), (10, .int (iZ 0))] [] := by
  intro S F g hI hK hg
  obtain ⟨ho, hn, hm4, hM0, hG, hC⟩ := id hI
  refine VB_iload (q := 785) dL_law_783 7 rfl rfl ?_
  refine VB_if_eq (q := 788) (tgt := 968) dL_law_785 (by decide) (by decide) (fun hc => absurd hc (by decide)) (fun _ => ?_)
  refine VB_aload_n (q := 789) dL_law_788 1 rfl rfl ?_
  refine VB_aload_n (q := 790) dL_law_789 2 rfl rfl ?_
  refine VB_aload_n (q := 791) dL_law_790 3 rfl rfl ?_
  refine VB_aload (q := 793) dL_law_791 6 rfl rfl ?_
  refine VB_callU (q := 796) dL_law_793 (u_areThings (a := a) (c := c) (S := S) (b := b) (d := d) (F := F) hI hg) yv_L_areThings rfl gL_law_L_areThings xU_L rfl (Nat.le_of_ble_eq_true rfl) (by decide) ⟨by show _ ≤ 20000; omega, by show _ ≤ 130000; omega⟩ (fun x793 g793 hP793 hg793 => ?_)
  refine VB_lo (lo' := 123) (Nat.le_add_right _ _) ?_
  have J968 : ∀ (gj968 : Nat → Nat), (∀ j, gj968 j < 4096) → VB 123 RL cL_law 17 (some .boolean) wsL_law roomB (vXL s0 L xs) (tyl c d) (qF 123) (5122) (30732 + 1250) (wal a c S b d F gj968) 968 [(0, .ref (s0)), (1, .ref (a 0)), (2, .ref (b 0)), (3, .ref (b 1)), (4, .ref (b 2)), (5, .ref (b 3)), (6, .ref (b 4)), (7, .int (iZ 1)), (8, .int (iZ 39)), (9, .int (iZ 31)), (10, .int (iZ 0))] [] := by
    intro gj968 hgj968
    refine VB_iconst (q := 969) dL_law_968 rfl ?_
    refine VB_istore (q := 971) (lv' := [(0, _), (1, _), (2, _), (3, _), (4, _), (5, _), (6, _), (7, _), (8, _), (9, _), (10, _)]) dL_law_969 (by decide) rfl rfl ?_
    refine VB_iinc (q := 974) (y := 40) (lv' := [(0, _), (1, _), (2, _), (3, _), (4, _), (5, _), (6, _), (7, _), (8, _), (9, _), (10, _)]) dL_law_971 8 rfl (by omega) (by decide) rfl rfl ?_
    refine VB_goto (tgt := 64) dL_law_974 (by decide) ?_
    refine VB_iload (q := 66) dL_law_64 8 rfl rfl ?_
    refine VB_bipush (q := 68) dL_law_66 (by decide) rfl ?_
    refine VB_icmp_ge (q := 71) (tgt := 977) dL_law_68 (by decide) (by decide) (by decide) (fun hc => absurd hc (by decide)) (fun _ => ?_)
    refine VB_iload (q := 73) dL_law_71 7 rfl rfl ?_
    refine VB_if_eq (q := 76) (tgt := 977) dL_law_73 (by decide) (by decide) (fun _ => ?_) (fun hc => absurd hc (by decide))
    refine VB_iload (q := 979) dL_law_977 7 rfl rfl ?_
    exact VB_ret0 dL_law_979 rfl
  refine VB_uif_eq (q := 799) (tgt := 968) dL_law_796 (by decide) ?_ ?_
  · skip
    exact VB_widen (by omega) (by omega) (J968 g793 hg793)
  · skip
    refine VB_iload (q := 801) dL_law_799 8 rfl rfl ?_
    refine VB_iconst (q := 802) dL_law_801 rfl ?_
    refine VB_irem (q := 803) (a := 39) (b := 2) dL_law_802 (by omega) (by decide) (by decide) rfl ?_
    refine VB_top (y := iZ 1) rfl ?_
    refine VB_if_gt (q := 806) (tgt := 833) dL_law_803 (by decide) (by decide) (fun _ => ?_) (fun hc => absurd hc (by decide))
    refine VB_aload_n (q := 834) dL_law_833 1 rfl rfl ?_
    refine VB_aload_n (q := 835) dL_law_834 2 rfl rfl ?_
    refine VB_aload_n (q := 836) dL_law_835 3 rfl rfl ?_
    refine VB_aload (q := 838) dL_law_836 4 rfl rfl ?_
    refine VB_aload (q := 840) dL_law_838 6 rfl rfl ?_
    refine VB_callU (q := 843) dL_law_840 (u_isMissing (a := a) (c := c) (S := S) (b := b) (d := d) (F := F) hI hg793) yv_L_isMissing rfl gL_law_L_isMissing xU_L rfl (Nat.le_of_ble_eq_true rfl) (by decide) ⟨by show _ ≤ 20000; omega, by show _ ≤ 130000; omega⟩ (fun x840 g840 hP840 hg840 => ?_)
    refine VB_lo (lo' := 123) (Nat.le_add_right _ _) ?_
    refine VB_uif_eq (q := 846) (tgt := 968) dL_law_843 (by decide) ?_ ?_
    · skip
      exact VB_widen (by omega) (by omega) (J968 g840 hg840)
    · skip
      refine VB_aload_n (q := 847) dL_law_846 1 rfl rfl ?_
      refine VB_aload_n (q := 848) dL_law_847 2 rfl rfl ?_
      refine VB_aload (q := 850) dL_law_848 6 rfl rfl ?_
      refine VB_iload (q := 852) dL_law_850 10 rfl rfl ?_
      refine VB_aload (q := 854) dL_law_852 6 rfl rfl ?_
      refine VB_iconst (q := 855) dL_law_854 rfl ?_
      refine VB_iald (q := 856) (v := (iZ 4)) dL_law_855 13 12 rfl rfl (0) (by omega) (by omega) (by decide) (hM0) rfl ?_
      refine VB_iconst (q := 857) dL_law_856 rfl ?_
      refine VB_iadd (q := 858) dL_law_857 rfl ?_
      refine VB_top (y := iZ 5) rfl ?_
      refine VB_irem (q := 859) (a := 0) (b := 5) dL_law_858 (by omega) (by decide) (by decide) rfl ?_
      refine VB_top (y := iZ 0) rfl ?_
      refine VB_iload (q := 861) dL_law_859 10 rfl rfl ?_
      refine VB_bipush (q := 863) dL_law_861 (by decide) rfl ?_
      refine VB_idiv (q := 864) (a := 0) (b := 13) dL_law_863 (by omega) (by decide) (by decide) rfl ?_
      refine VB_top (y := iZ 0) rfl ?_
      refine VB_aload (q := 866) dL_law_864 6 rfl rfl ?_
      refine VB_iconst (q := 867) dL_law_866 rfl ?_
      refine VB_iald (q := 868) (v := (iZ 4)) dL_law_867 13 12 rfl rfl (0) (by omega) (by omega) (by decide) (hM0) rfl ?_
      refine VB_iconst (q := 869) dL_law_868 rfl ?_
      refine VB_iadd (q := 870) dL_law_869 rfl ?_
      refine VB_top (y := iZ 5) rfl ?_
      refine VB_irem (q := 871) (a := 0) (b := 5) dL_law_870 (by omega) (by decide) (by decide) rfl ?_
      refine VB_top (y := iZ 0) rfl ?_
      refine VB_iload (q := 873) dL_law_871 10 rfl rfl ?_
      refine VB_sipush (q := 876) dL_law_873 (by decide) rfl ?_
      refine VB_idiv (q := 877) (a := 0) (b := 169) dL_law_876 (by omega) (by decide) (by decide) rfl ?_
      refine VB_top (y := iZ 0) rfl ?_
      refine VB_aload (q := 879) dL_law_877 6 rfl rfl ?_
      refine VB_iconst (q := 880) dL_law_879 rfl ?_
      refine VB_iald (q := 881) (v := (iZ 4)) dL_law_880 13 12 rfl rfl (0) (by omega) (by omega) (by decide) (hM0) rfl ?_
      refine VB_iconst (q := 882) dL_law_881 rfl ?_
      refine VB_iadd (q := 883) dL_law_882 rfl ?_
      refine VB_top (y := iZ 6) rfl ?_
      refine VB_irem (q := 884) (a := 0) (b := 6) dL_law_883 (by omega) (by decide) (by decide) rfl ?_
      refine VB_top (y := iZ 0) rfl ?_
      refine VB_iconst (q := 885) dL_law_884 rfl ?_
      refine VB_isub (q := 886) dL_law_885 rfl ?_
      refine VB_top (y := iZ (-1)) rfl ?_
      refine VB_callU (q := 889) dL_law_886 (u_isWrong (a := a) (c := c) (S := S) (b := b) (d := d) (F := F) hI (wr0 hI (by decide) hK) hg840) yv_L_isWrong rfl gL_law_L_isWrong xU_L rfl (Nat.le_of_ble_eq_true rfl) (by decide) ⟨by show _ ≤ 20000; omega, by show _ ≤ 130000; omega⟩ (fun x886 g886 hP886 hg886 => ?_)
      refine VB_em (x := x886) (fun e886 => VB_lo (lo' := 123) (Nat.le_add_right _ _) (VB_top (y := iZ 0) e886 ?_)) (fun e886 => VB_lo (lo' := 125) (by show 125 ≤ 123 + (if x886 = 0 then 0 else 2); rw [if_neg e886]; omega) ?_)
      · skip
        refine VB_if_eq (q := 892) (tgt := 968) dL_law_889 (by decide) (by decide) (fun _ => ?_) (fun hc => absurd hc (by decide))
        exact VB_widen (by omega) (by omega) (J968 g886 hg886)
      · skip
        refine VB_uif_eq (q := 892) (tgt := 968) dL_law_889 (by decide) ?_ ?_
        · skip
          refine VB_lo (lo' := 123) (by omega) ?_
          exact VB_widen (by omega) (by omega) (J968 g886 hg886)
        · skip
          refine VB_iload (q := 894) dL_law_892 8 rfl rfl ?_
          refine VB_bipush (q := 896) dL_law_894 (by decide) rfl ?_
          refine VB_irem (q := 897) (a := 39) (b := 16) dL_law_896 (by omega) (by decide) (by decide) rfl ?_
          refine VB_top (y := iZ 7) rfl ?_
          refine VB_if_gt (q := 900) (tgt := 943) dL_law_897 (by decide) (by decide) (fun _ => ?_) (fun hc => absurd hc (by decide))
          refine VB_iload (q := 945) dL_law_943 8 rfl rfl ?_
          refine VB_bipush (q := 947) dL_law_945 (by decide) rfl ?_
          refine VB_irem (q := 948) (a := 39) (b := 20) dL_law_947 (by omega) (by decide) (by decide) rfl ?_
          refine VB_top (y := iZ 19) rfl ?_
          refine VB_if_gt (q := 951) (tgt := 964) dL_law_948 (by decide) (by decide) (fun _ => ?_) (fun hc => absurd hc (by decide))
          refine VB_iconst (q := 965) dL_law_964 rfl ?_
          refine VB_goto (tgt := 969) dL_law_965 (by decide) ?_
          refine VB_istore (q := 971) (lv' := [(0, _), (1, _), (2, _), (3, _), (4, _), (5, _), (6, _), (7, _), (8, _), (9, _), (10, _)]) dL_law_969 (by decide) rfl rfl ?_
          refine VB_iinc (q := 974) (y := 40) (lv' := [(0, _), (1, _), (2, _), (3, _), (4, _), (5, _), (6, _), (7, _), (8, _), (9, _), (10, _)]) dL_law_971 8 rfl (by omega) (by decide) rfl rfl ?_
          refine VB_goto (tgt := 64) dL_law_974 (by decide) ?_
          refine VB_loc (lv' := [(0, _), (1, _), (2, _), (3, _), (4, _), (5, _), (6, _), (7, _), (8, _)]) [0, 1, 2, 3, 4, 5, 6, 7, 8] rfl ?_
          refine VB_lo (lo' := 123) (by omega) ?_
          exact VB_widen (by omega) (by omega) (rd40 hL h16 hx S F g886 hI (fun _ => hK) hg886)
set_option maxRecDepth 100000 in
set_option maxHeartbeats 8000000 in
theorem rd39 {s0 L : Nat} {xs : Nat → Int32} {a : Nat → Nat} {c : Nat → ClassId} {b : Nat → Nat} {d : Nat → ClassId} (hL : L ≤ 260) (h16 : 80 ≤ L) (hx : ∀ j, j < 80 → xs j = 31) : ∀ (S : St) (F : Nat → Nat → Int32) (g : Nat → Nat), Iv S F 4 → (0 < 39 → sK S 0 = 0) → (∀ j, g j < 4096) → VB 123 RL cL_law 17 (some .boolean) wsL_law roomB (vXL s0 L xs) (tyl c d) (qF 123) (5102) (30612 + 1250) (wal a c S b d F g) 64 [(0, .ref (s0)), (1, .ref (a 0)), (2, .ref (b 0)), (3, .ref (b 1)), (4, .ref (b 2)), (5, .ref (b 3)), (6, .ref (b 4)), (7, .int (iZ 1)), (8, .int (iZ 39))] [] := by
  intro S F g hI hK hg
  obtain ⟨ho, hn, hm4, hM0, hG, hC⟩ := id hI
  refine VB_iload (q := 66) dL_law_64 8 rfl rfl ?_
  refine VB_bipush (q := 68) dL_law_66 (by decide) rfl ?_
  refine VB_icmp_ge (q := 71) (tgt := 977) dL_law_68 (by decide) (by decide) (by decide) (fun hc => absurd hc (by decide)) (fun _ => ?_)
  refine VB_iload (q := 73) dL_law_71 7 rfl rfl ?_
  refine VB_if_eq (q := 76) (tgt := 977) dL_law_73 (by decide) (by decide) (fun hc => absurd hc (by decide)) (fun _ => ?_)
  refine VB_aload_n (q := 77) dL_law_76 0 rfl rfl ?_
  refine VB_iload (q := 79) dL_law_77 8 rfl rfl ?_
  refine VB_callD (q := 82) dL_law_79 (u_dice (b := s0) (L := L) (xs := xs) 39 (by omega) hL (hx 39 (by omega))) yv_L_dice rfl gL_law_L_dice xL_s rfl (Nat.le_of_ble_eq_true rfl) (by decide) ⟨by show _ ≤ 20000; omega, by show _ ≤ 130000; omega⟩ ?_
  refine VB_istore (q := 84) (lv' := [(0, _), (1, _), (2, _), (3, _), (4, _), (5, _), (6, _), (7, _), (8, _), (9, _)]) dL_law_82 (by decide) rfl rfl ?_
  refine VB_iload (q := 86) dL_law_84 9 rfl rfl ?_
  refine VB_bipush (q := 88) dL_law_86 (by decide) rfl ?_
  refine VB_idiv (q := 89) (a := 31) (b := 32) dL_law_88 (by omega) (by decide) (by decide) rfl ?_
  refine VB_top (y := iZ 0) rfl ?_
  refine VB_istore (q := 91) (lv' := [(0, _), (1, _), (2, _), (3, _), (4, _), (5, _), (6, _), (7, _), (8, _), (9, _), (10, _)]) dL_law_89 (by decide) rfl rfl ?_
  refine VB_iload (q := 93) dL_law_91 9 rfl rfl ?_
  refine VB_bipush (q := 95) dL_law_93 (by decide) rfl ?_
  refine VB_irem (q := 96) (a := 31) (b := 32) dL_law_95 (by omega) (by decide) (by decide) rfl ?_
  refine VB_top (y := iZ 31) rfl ?_
  refine VB_istore (q := 98) (lv' := [(0, _), (1, _), (2, _), (3, _), (4, _), (5, _), (6, _), (7, _), (8, _), (9, _), (10, _), (11, _)]) dL_law_96 (by decide) rfl rfl ?_
  refine VB_aload (q := 100) dL_law_98 6 rfl rfl ?_
  refine VB_iconst (q := 101) dL_law_100 rfl ?_
  refine VB_iald (q := 102) (v := (iZ 4)) dL_law_101 13 12 rfl rfl (0) (by omega) (by omega) (by decide) (hM0) rfl ?_
  refine VB_if_ne (q := 105) (tgt := 109) dL_law_102 (by decide) (by decide) (fun _ => ?_) (fun hc => absurd hc (by decide))
  refine VB_iload (q := 111) dL_law_109 10 rfl rfl ?_
  refine VB_aload (q := 113) dL_law_111 6 rfl rfl ?_
  refine VB_iconst (q := 114) dL_law_113 rfl ?_
  refine VB_iald (q := 115) (v := (iZ 4)) dL_law_114 13 12 rfl rfl (0) (by omega) (by omega) (by decide) (hM0) rfl ?_
  refine VB_irem (q := 116) (a := 0) (b := 4) dL_law_115 (by omega) (by decide) (by decide) rfl ?_
  refine VB_top (y := iZ 0) rfl ?_
  refine VB_istore (q := 118) (lv' := [(0, _), (1, _), (2, _), (3, _), (4, _), (5, _), (6, _), (7, _), (8, _), (9, _), (10, _), (11, _), (12, _)]) dL_law_116 (by decide) rfl rfl ?_
  refine VB_aload (q := 120) dL_law_118 6 rfl rfl ?_
  refine VB_iconst (q := 121) dL_law_120 rfl ?_
  refine VB_iald (q := 122) (v := (iZ 4)) dL_law_121 13 12 rfl rfl (0) (by omega) (by omega) (by decide) (hM0) rfl ?_
  refine VB_iconst (q := 123) dL_law_122 rfl ?_
  refine VB_icmp_lt (q := 126) (tgt := 141) dL_law_123 (by decide) (by decide) (by decide) (fun hc => absurd hc (by decide)) (fun _ => ?_)
  refine VB_iload (q := 128) dL_law_126 11 rfl rfl ?_
  refine VB_iconst (q := 129) dL_law_128 rfl ?_
  refine VB_icmp_ge (q := 132) (tgt := 326) dL_law_129 (by decide) (by decide) (by decide) (fun _ => ?_) (fun hc => absurd hc (by decide))
  refine VB_iload (q := 328) dL_law_326 11 rfl rfl ?_
  refine VB_bipush (q := 330) dL_law_328 (by decide) rfl ?_
  refine VB_icmp_ge (q := 333) (tgt := 451) dL_law_330 (by decide) (by decide) (by decide) (fun _ => ?_) (fun hc => absurd hc (by decide))
  refine VB_iload (q := 453) dL_law_451 11 rfl rfl ?_
  refine VB_bipush (q := 455) dL_law_453 (by decide) rfl ?_
  refine VB_icmp_ge (q := 458) (tgt := 603) dL_law_455 (by decide) (by decide) (by decide) (fun _ => ?_) (fun hc => absurd hc (by decide))
  refine VB_iload (q := 605) dL_law_603 11 rfl rfl ?_
  refine VB_bipush (q := 607) dL_law_605 (by decide) rfl ?_
  refine VB_icmp_ge (q := 610) (tgt := 633) dL_law_607 (by decide) (by decide) (by decide) (fun _ => ?_) (fun hc => absurd hc (by decide))
  refine VB_iload (q := 635) dL_law_633 11 rfl rfl ?_
  refine VB_bipush (q := 637) dL_law_635 (by decide) rfl ?_
  refine VB_icmp_ge (q := 640) (tgt := 677) dL_law_637 (by decide) (by decide) (by decide) (fun _ => ?_) (fun hc => absurd hc (by decide))
  refine VB_iload (q := 679) dL_law_677 11 rfl rfl ?_
  refine VB_bipush (q := 681) dL_law_679 (by decide) rfl ?_
  refine VB_icmp_ne (q := 684) (tgt := 783) dL_law_681 (by decide) (by decide) (by decide) (fun _ => ?_) (fun hc => absurd hc (by decide))
  refine VB_loc (lv' := [(0, _), (1, _), (2, _), (3, _), (4, _), (5, _), (6, _), (7, _), (8, _), (9, _), (10, _)]) [0, 1, 2, 3, 4, 5, 6, 7, 8, 9, 10] rfl ?_
  exact VB_widen (by omega) (by omega) (ck39 hL h16 hx S F g hI (hK (by decide)) hg)
set_option maxRecDepth 100000 in
set_option maxHeartbeats 8000000 in
theorem ck38 {s0 L : Nat} {xs : Nat → Int32} {a : Nat → Nat} {c : Nat → ClassId} {b : Nat → Nat} {d : Nat → ClassId} (hL : L ≤ 260) (h16 : 80 ≤ L) (hx : ∀ j, j < 80 → xs j = 31) : ∀ (S : St) (F : Nat → Nat → Int32) (g : Nat → Nat), Iv S F 4 → sK S 0 = 0 → (∀ j, g j < 4096) → VB 123 RL cL_law 17 (some .boolean) wsL_law roomB (vXL s0 L xs) (tyl c d) (qF 123) (4882) (29292 + 1250) (wal a c S b d F g) 783 [(0, .ref (s0)), (1, .ref (a 0)), (2, .ref (b 0)), (3, .ref (b 1)), (4, .ref (b 2)), (5, .ref (b 3)), (6, .ref (b 4)), (7, .int (iZ 1)), (8, .int (iZ 38)), (9, .int (iZ 31)), (10, .int (iZ 0))] [] := by
  intro S F g hI hK hg
  obtain ⟨ho, hn, hm4, hM0, hG, hC⟩ := id hI
  refine VB_iload (q := 785) dL_law_783 7 rfl rfl ?_
  refine VB_if_eq (q := 788) (tgt := 968) dL_law_785 (by decide) (by decide) (fun hc => absurd hc (by decide)) (fun _ => ?_)
  refine VB_aload_n (q := 789) dL_law_788 1 rfl rfl ?_
  refine VB_aload_n (q := 790) dL_law_789 2 rfl rfl ?_
  refine VB_aload_n (q := 791) dL_law_790 3 rfl rfl ?_
  refine VB_aload (q := 793) dL_law_791 6 rfl rfl ?_
  refine VB_callU (q := 796) dL_law_793 (u_areThings (a := a) (c := c) (S := S) (b := b) (d := d) (F := F) hI hg) yv_L_areThings rfl gL_law_L_areThings xU_L rfl (Nat.le_of_ble_eq_true rfl) (by decide) ⟨by show _ ≤ 20000; omega, by show _ ≤ 130000; omega⟩ (fun x793 g793 hP793 hg793 => ?_)
  refine VB_lo (lo' := 123) (Nat.le_add_right _ _) ?_
  have J968 : ∀ (gj968 : Nat → Nat), (∀ j, gj968 j < 4096) → VB 123 RL cL_law 17 (some .boolean) wsL_law roomB (vXL s0 L xs) (tyl c d) (qF 123) (5102) (30612 + 1250) (wal a c S b d F gj968) 968 [(0, .ref (s0)), (1, .ref (a 0)), (2, .ref (b 0)), (3, .ref (b 1)), (4, .ref (b 2)), (5, .ref (b 3)), (6, .ref (b 4)), (7, .int (iZ 1)), (8, .int (iZ 38)), (9, .int (iZ 31)), (10, .int (iZ 0))] [] := by
    intro gj968 hgj968
    refine VB_iconst (q := 969) dL_law_968 rfl ?_
    refine VB_istore (q := 971) (lv' := [(0, _), (1, _), (2, _), (3, _), (4, _), (5, _), (6, _), (7, _), (8, _), (9, _), (10, _)]) dL_law_969 (by decide) rfl rfl ?_
    refine VB_iinc (q := 974) (y := 39) (lv' := [(0, _), (1, _), (2, _), (3, _), (4, _), (5, _), (6, _), (7, _), (8, _), (9, _), (10, _)]) dL_law_971 8 rfl (by omega) (by decide) rfl rfl ?_
    refine VB_goto (tgt := 64) dL_law_974 (by decide) ?_
    refine VB_iload (q := 66) dL_law_64 8 rfl rfl ?_
    refine VB_bipush (q := 68) dL_law_66 (by decide) rfl ?_
    refine VB_icmp_ge (q := 71) (tgt := 977) dL_law_68 (by decide) (by decide) (by decide) (fun hc => absurd hc (by decide)) (fun _ => ?_)
    refine VB_iload (q := 73) dL_law_71 7 rfl rfl ?_
    refine VB_if_eq (q := 76) (tgt := 977) dL_law_73 (by decide) (by decide) (fun _ => ?_) (fun hc => absurd hc (by decide))
    refine VB_iload (q := 979) dL_law_977 7 rfl rfl ?_
    exact VB_ret0 dL_law_979 rfl
  refine VB_uif_eq (q := 799) (tgt := 968) dL_law_796 (by decide) ?_ ?_
  · skip
    exact VB_widen (by omega) (by omega) (J968 g793 hg793)
  · skip
    refine VB_iload (q := 801) dL_law_799 8 rfl rfl ?_
    refine VB_iconst (q := 802) dL_law_801 rfl ?_
    refine VB_irem (q := 803) (a := 38) (b := 2) dL_law_802 (by omega) (by decide) (by decide) rfl ?_
    refine VB_top (y := iZ 0) rfl ?_
    refine VB_if_gt (q := 806) (tgt := 833) dL_law_803 (by decide) (by decide) (fun hc => absurd hc (by decide)) (fun _ => ?_)
    refine VB_aload_n (q := 807) dL_law_806 1 rfl rfl ?_
    refine VB_aload_n (q := 808) dL_law_807 2 rfl rfl ?_
    refine VB_aload_n (q := 809) dL_law_808 3 rfl rfl ?_
    refine VB_aload (q := 811) dL_law_809 4 rfl rfl ?_
    refine VB_aload (q := 813) dL_law_811 6 rfl rfl ?_
    refine VB_iload (q := 815) dL_law_813 10 rfl rfl ?_
    refine VB_bipush (q := 817) dL_law_815 (by decide) rfl ?_
    refine VB_irem (q := 818) (a := 0) (b := 31) dL_law_817 (by omega) (by decide) (by decide) rfl ?_
    refine VB_top (y := iZ 0) rfl ?_
    refine VB_iload (q := 820) dL_law_818 10 rfl rfl ?_
    refine VB_bipush (q := 822) dL_law_820 (by decide) rfl ?_
    refine VB_idiv (q := 823) (a := 0) (b := 31) dL_law_822 (by omega) (by decide) (by decide) rfl ?_
    refine VB_top (y := iZ 0) rfl ?_
    refine VB_sipush (q := 826) dL_law_823 (by decide) rfl ?_
    refine VB_irem (q := 827) (a := 0) (b := 256) dL_law_826 (by omega) (by decide) (by decide) rfl ?_
    refine VB_top (y := iZ 0) rfl ?_
    refine VB_callU (q := 830) dL_law_827 (u_areOutfits (a := a) (c := c) (S := S) (b := b) (d := d) (F := F) hI hg793) yv_L_areOutfits rfl gL_law_L_areOutfits xU_L rfl (Nat.le_of_ble_eq_true rfl) (by decide) ⟨by show _ ≤ 20000; omega, by show _ ≤ 130000; omega⟩ (fun x827 g827 hP827 hg827 => ?_)
    refine VB_lo (lo' := 123) (Nat.le_add_right _ _) ?_
    refine VB_uif_eq (q := 833) (tgt := 968) dL_law_830 (by decide) ?_ ?_
    · skip
      exact VB_widen (by omega) (by omega) (J968 g827 hg827)
    · skip
      refine VB_aload_n (q := 834) dL_law_833 1 rfl rfl ?_
      refine VB_aload_n (q := 835) dL_law_834 2 rfl rfl ?_
      refine VB_aload_n (q := 836) dL_law_835 3 rfl rfl ?_
      refine VB_aload (q := 838) dL_law_836 4 rfl rfl ?_
      refine VB_aload (q := 840) dL_law_838 6 rfl rfl ?_
      refine VB_callU (q := 843) dL_law_840 (u_isMissing (a := a) (c := c) (S := S) (b := b) (d := d) (F := F) hI hg827) yv_L_isMissing rfl gL_law_L_isMissing xU_L rfl (Nat.le_of_ble_eq_true rfl) (by decide) ⟨by show _ ≤ 20000; omega, by show _ ≤ 130000; omega⟩ (fun x840 g840 hP840 hg840 => ?_)
      refine VB_lo (lo' := 123) (Nat.le_add_right _ _) ?_
      refine VB_uif_eq (q := 846) (tgt := 968) dL_law_843 (by decide) ?_ ?_
      · skip
        exact VB_widen (by omega) (by omega) (J968 g840 hg840)
      · skip
        refine VB_aload_n (q := 847) dL_law_846 1 rfl rfl ?_
        refine VB_aload_n (q := 848) dL_law_847 2 rfl rfl ?_
        refine VB_aload (q := 850) dL_law_848 6 rfl rfl ?_
        refine VB_iload (q := 852) dL_law_850 10 rfl rfl ?_
        refine VB_aload (q := 854) dL_law_852 6 rfl rfl ?_
        refine VB_iconst (q := 855) dL_law_854 rfl ?_
        refine VB_iald (q := 856) (v := (iZ 4)) dL_law_855 13 12 rfl rfl (0) (by omega) (by omega) (by decide) (hM0) rfl ?_
        refine VB_iconst (q := 857) dL_law_856 rfl ?_
        refine VB_iadd (q := 858) dL_law_857 rfl ?_
        refine VB_top (y := iZ 5) rfl ?_
        refine VB_irem (q := 859) (a := 0) (b := 5) dL_law_858 (by omega) (by decide) (by decide) rfl ?_
        refine VB_top (y := iZ 0) rfl ?_
        refine VB_iload (q := 861) dL_law_859 10 rfl rfl ?_
        refine VB_bipush (q := 863) dL_law_861 (by decide) rfl ?_
        refine VB_idiv (q := 864) (a := 0) (b := 13) dL_law_863 (by omega) (by decide) (by decide) rfl ?_
        refine VB_top (y := iZ 0) rfl ?_
        refine VB_aload (q := 866) dL_law_864 6 rfl rfl ?_
        refine VB_iconst (q := 867) dL_law_866 rfl ?_
        refine VB_iald (q := 868) (v := (iZ 4)) dL_law_867 13 12 rfl rfl (0) (by omega) (by omega) (by decide) (hM0) rfl ?_
        refine VB_iconst (q := 869) dL_law_868 rfl ?_
        refine VB_iadd (q := 870) dL_law_869 rfl ?_
        refine VB_top (y := iZ 5) rfl ?_
        refine VB_irem (q := 871) (a := 0) (b := 5) dL_law_870 (by omega) (by decide) (by decide) rfl ?_
        refine VB_top (y := iZ 0) rfl ?_
        refine VB_iload (q := 873) dL_law_871 10 rfl rfl ?_
        refine VB_sipush (q := 876) dL_law_873 (by decide) rfl ?_
        refine VB_idiv (q := 877) (a := 0) (b := 169) dL_law_876 (by omega) (by decide) (by decide) rfl ?_
        refine VB_top (y := iZ 0) rfl ?_
        refine VB_aload (q := 879) dL_law_877 6 rfl rfl ?_
        refine VB_iconst (q := 880) dL_law_879 rfl ?_
        refine VB_iald (q := 881) (v := (iZ 4)) dL_law_880 13 12 rfl rfl (0) (by omega) (by omega) (by decide) (hM0) rfl ?_
        refine VB_iconst (q := 882) dL_law_881 rfl ?_
        refine VB_iadd (q := 883) dL_law_882 rfl ?_
        refine VB_top (y := iZ 6) rfl ?_
        refine VB_irem (q := 884) (a := 0) (b := 6) dL_law_883 (by omega) (by decide) (by decide) rfl ?_
        refine VB_top (y := iZ 0) rfl ?_
        refine VB_iconst (q := 885) dL_law_884 rfl ?_
        refine VB_isub (q := 886) dL_law_885 rfl ?_
        refine VB_top (y := iZ (-1)) rfl ?_
        refine VB_callU (q := 889) dL_law_886 (u_isWrong (a := a) (c := c) (S := S) (b := b) (d := d) (F := F) hI (wr0 hI (by decide) hK) hg840) yv_L_isWrong rfl gL_law_L_isWrong xU_L rfl (Nat.le_of_ble_eq_true rfl) (by decide) ⟨by show _ ≤ 20000; omega, by show _ ≤ 130000; omega⟩ (fun x886 g886 hP886 hg886 => ?_)
        refine VB_em (x := x886) (fun e886 => VB_lo (lo' := 123) (Nat.le_add_right _ _) (VB_top (y := iZ 0) e886 ?_)) (fun e886 => VB_lo (lo' := 125) (by show 125 ≤ 123 + (if x886 = 0 then 0 else 2); rw [if_neg e886]; omega) ?_)
        · skip
          refine VB_if_eq (q := 892) (tgt := 968) dL_law_889 (by decide) (by decide) (fun _ => ?_) (fun hc => absurd hc (by decide))
          exact VB_widen (by omega) (by omega) (J968 g886 hg886)
        · skip
          refine VB_uif_eq (q := 892) (tgt := 968) dL_law_889 (by decide) ?_ ?_
          · skip
            refine VB_lo (lo' := 123) (by omega) ?_
            exact VB_widen (by omega) (by omega) (J968 g886 hg886)
          · skip
            refine VB_iload (q := 894) dL_law_892 8 rfl rfl ?_
            refine VB_bipush (q := 896) dL_law_894 (by decide) rfl ?_
            refine VB_irem (q := 897) (a := 38) (b := 16) dL_law_896 (by omega) (by decide) (by decide) rfl ?_
            refine VB_top (y := iZ 6) rfl ?_
            refine VB_if_gt (q := 900) (tgt := 943) dL_law_897 (by decide) (by decide) (fun _ => ?_) (fun hc => absurd hc (by decide))
            refine VB_iload (q := 945) dL_law_943 8 rfl rfl ?_
            refine VB_bipush (q := 947) dL_law_945 (by decide) rfl ?_
            refine VB_irem (q := 948) (a := 38) (b := 20) dL_law_947 (by omega) (by decide) (by decide) rfl ?_
            refine VB_top (y := iZ 18) rfl ?_
            refine VB_if_gt (q := 951) (tgt := 964) dL_law_948 (by decide) (by decide) (fun _ => ?_) (fun hc => absurd hc (by decide))
            refine VB_iconst (q := 965) dL_law_964 rfl ?_
            refine VB_goto (tgt := 969) dL_law_965 (by decide) ?_
            refine VB_istore (q := 971) (lv' := [(0, _), (1, _), (2, _), (3, _), (4, _), (5, _), (6, _), (7, _), (8, _), (9, _), (10, _)]) dL_law_969 (by decide) rfl rfl ?_
            refine VB_iinc (q := 974) (y := 39) (lv' := [(0, _), (1, _), (2, _), (3, _), (4, _), (5, _), (6, _), (7, _), (8, _), (9, _), (10, _)]) dL_law_971 8 rfl (by omega) (by decide) rfl rfl ?_
            refine VB_goto (tgt := 64) dL_law_974 (by decide) ?_
            refine VB_loc (lv' := [(0, _), (1, _), (2, _), (3, _), (4, _), (5, _), (6, _), (7, _), (8, _)]) [0, 1, 2, 3, 4, 5, 6, 7, 8] rfl ?_
            refine VB_lo (lo' := 123) (by omega) ?_
            exact VB_widen (by omega) (by omega) (rd39 hL h16 hx S F g886 hI (fun _ => hK) hg886)
set_option maxRecDepth 100000 in
set_option maxHeartbeats 8000000 in
theorem rd38 {s0 L : Nat} {xs : Nat → Int32} {a : Nat → Nat} {c : Nat → ClassId} {b : Nat → Nat} {d : Nat → ClassId} (hL : L ≤ 260) (h16 : 80 ≤ L) (hx : ∀ j, j < 80 → xs j = 31) : ∀ (S : St) (F : Nat → Nat → Int32) (g : Nat → Nat), Iv S F 4 → (0 < 38 → sK S 0 = 0) → (∀ j, g j < 4096) → VB 123 RL cL_law 17 (some .boolean) wsL_law roomB (vXL s0 L xs) (tyl c d) (qF 123) (4882) (29292 + 1250) (wal a c S b d F g) 64 [(0, .ref (s0)), (1, .ref (a 0)), (2, .ref (b 0)), (3, .ref (b 1)), (4, .ref (b 2)), (5, .ref (b 3)), (6, .ref (b 4)), (7, .int (iZ 1)), (8, .int (iZ 38))] [] := by
  intro S F g hI hK hg
  obtain ⟨ho, hn, hm4, hM0, hG, hC⟩ := id hI
  refine VB_iload (q := 66) dL_law_64 8 rfl rfl ?_
  refine VB_bipush (q := 68) dL_law_66 (by decide) rfl ?_
  refine VB_icmp_ge (q := 71) (tgt := 977) dL_law_68 (by decide) (by decide) (by decide) (fun hc => absurd hc (by decide)) (fun _ => ?_)
  refine VB_iload (q := 73) dL_law_71 7 rfl rfl ?_
  refine VB_if_eq (q := 76) (tgt := 977) dL_law_73 (by decide) (by decide) (fun hc => absurd hc (by decide)) (fun _ => ?_)
  refine VB_aload_n (q := 77) dL_law_76 0 rfl rfl ?_
  refine VB_iload (q := 79) dL_law_77 8 rfl rfl ?_
  refine VB_callD (q := 82) dL_law_79 (u_dice (b := s0) (L := L) (xs := xs) 38 (by omega) hL (hx 38 (by omega))) yv_L_dice rfl gL_law_L_dice xL_s rfl (Nat.le_of_ble_eq_true rfl) (by decide) ⟨by show _ ≤ 20000; omega, by show _ ≤ 130000; omega⟩ ?_
  refine VB_istore (q := 84) (lv' := [(0, _), (1, _), (2, _), (3, _), (4, _), (5, _), (6, _), (7, _), (8, _), (9, _)]) dL_law_82 (by decide) rfl rfl ?_
  refine VB_iload (q := 86) dL_law_84 9 rfl rfl ?_
  refine VB_bipush (q := 88) dL_law_86 (by decide) rfl ?_
  refine VB_idiv (q := 89) (a := 31) (b := 32) dL_law_88 (by omega) (by decide) (by decide) rfl ?_
  refine VB_top (y := iZ 0) rfl ?_
  refine VB_istore (q := 91) (lv' := [(0, _), (1, _), (2, _), (3, _), (4, _), (5, _), (6, _), (7, _), (8, _), (9, _), (10, _)]) dL_law_89 (by decide) rfl rfl ?_
  refine VB_iload (q := 93) dL_law_91 9 rfl rfl ?_
  refine VB_bipush (q := 95) dL_law_93 (by decide) rfl ?_
  refine VB_irem (q := 96) (a := 31) (b := 32) dL_law_95 (by omega) (by decide) (by decide) rfl ?_
  refine VB_top (y := iZ 31) rfl ?_
  refine VB_istore (q := 98) (lv' := [(0, _), (1, _), (2, _), (3, _), (4, _), (5, _), (6, _), (7, _), (8, _), (9, _), (10, _), (11, _)]) dL_law_96 (by decide) rfl rfl ?_
  refine VB_aload (q := 100) dL_law_98 6 rfl rfl ?_
  refine VB_iconst (q := 101) dL_law_100 rfl ?_
  refine VB_iald (q := 102) (v := (iZ 4)) dL_law_101 13 12 rfl rfl (0) (by omega) (by omega) (by decide) (hM0) rfl ?_
  refine VB_if_ne (q := 105) (tgt := 109) dL_law_102 (by decide) (by decide) (fun _ => ?_) (fun hc => absurd hc (by decide))
  refine VB_iload (q := 111) dL_law_109 10 rfl rfl ?_
  refine VB_aload (q := 113) dL_law_111 6 rfl rfl ?_
  refine VB_iconst (q := 114) dL_law_113 rfl ?_
  refine VB_iald (q := 115) (v := (iZ 4)) dL_law_114 13 12 rfl rfl (0) (by omega) (by omega) (by decide) (hM0) rfl ?_
  refine VB_irem (q := 116) (a := 0) (b := 4) dL_law_115 (by omega) (by decide) (by decide) rfl ?_
  refine VB_top (y := iZ 0) rfl ?_
  refine VB_istore (q := 118) (lv' := [(0, _), (1, _), (2, _), (3, _), (4, _), (5, _), (6, _), (7, _), (8, _), (9, _), (10, _), (11, _), (12, _)]) dL_law_116 (by decide) rfl rfl ?_
  refine VB_aload (q := 120) dL_law_118 6 rfl rfl ?_
  refine VB_iconst (q := 121) dL_law_120 rfl ?_
  refine VB_iald (q := 122) (v := (iZ 4)) dL_law_121 13 12 rfl rfl (0) (by omega) (by omega) (by decide) (hM0) rfl ?_
  refine VB_iconst (q := 123) dL_law_122 rfl ?_
  refine VB_icmp_lt (q := 126) (tgt := 141) dL_law_123 (by decide) (by decide) (by decide) (fun hc => absurd hc (by decide)) (fun _ => ?_)
  refine VB_iload (q := 128) dL_law_126 11 rfl rfl ?_
  refine VB_iconst (q := 129) dL_law_128 rfl ?_
  refine VB_icmp_ge (q := 132) (tgt := 326) dL_law_129 (by decide) (by decide) (by decide) (fun _ => ?_) (fun hc => absurd hc (by decide))
  refine VB_iload (q := 328) dL_law_326 11 rfl rfl ?_
  refine VB_bipush (q := 330) dL_law_328 (by decide) rfl ?_
  refine VB_icmp_ge (q := 333) (tgt := 451) dL_law_330 (by decide) (by decide) (by decide) (fun _ => ?_) (fun hc => absurd hc (by decide))
  refine VB_iload (q := 453) dL_law_451 11 rfl rfl ?_
  refine VB_bipush (q := 455) dL_law_453 (by decide) rfl ?_
  refine VB_icmp_ge (q := 458) (tgt := 603) dL_law_455 (by decide) (by decide) (by decide) (fun _ => ?_) (fun hc => absurd hc (by decide))
  refine VB_iload (q := 605) dL_law_603 11 rfl rfl ?_
  refine VB_bipush (q := 607) dL_law_605 (by decide) rfl ?_
  refine VB_icmp_ge (q := 610) (tgt := 633) dL_law_607 (by decide) (by decide) (by decide) (fun _ => ?_) (fun hc => absurd hc (by decide))
  refine VB_iload (q := 635) dL_law_633 11 rfl rfl ?_
  refine VB_bipush (q := 637) dL_law_635 (by decide) rfl ?_
  refine VB_icmp_ge (q := 640) (tgt := 677) dL_law_637 (by decide) (by decide) (by decide) (fun _ => ?_) (fun hc => absurd hc (by decide))
  refine VB_iload (q := 679) dL_law_677 11 rfl rfl ?_
  refine VB_bipush (q := 681) dL_law_679 (by decide) rfl ?_
  refine VB_icmp_ne (q := 684) (tgt := 783) dL_law_681 (by decide) (by decide) (by decide) (fun _ => ?_) (fun hc => absurd hc (by decide))
  refine VB_loc (lv' := [(0, _), (1, _), (2, _), (3, _), (4, _), (5, _), (6, _), (7, _), (8, _), (9, _), (10, _)]) [0, 1, 2, 3, 4, 5, 6, 7, 8, 9, 10] rfl ?_
  exact VB_widen (by omega) (by omega) (ck38 hL h16 hx S F g hI (hK (by decide)) hg)
set_option maxRecDepth 100000 in
set_option maxHeartbeats 8000000 in
theorem ck37 {s0 L : Nat} {xs : Nat → Int32} {a : Nat → Nat} {c : Nat → ClassId} {b : Nat → Nat} {d : Nat → ClassId} (hL : L ≤ 260) (h16 : 80 ≤ L) (hx : ∀ j, j < 80 → xs j = 31) : ∀ (S : St) (F : Nat → Nat → Int32) (g : Nat → Nat), Iv S F 4 → sK S 0 = 0 → (∀ j, g j < 4096) → VB 123 RL cL_law 17 (some .boolean) wsL_law roomB (vXL s0 L xs) (tyl c d) (qF 123) (4862) (29172 + 1250) (wal a c S b d F g) 783 [(0, .ref (s0)), (1, .ref (a 0)), (2, .ref (b 0)), (3, .ref (b 1)), (4, .ref (b 2)), (5, .ref (b 3)), (6, .ref (b 4)), (7, .int (iZ 1)), (8, .int (iZ 37)), (9, .int (iZ 31)), (10, .int (iZ 0))] [] := by
  intro S F g hI hK hg
  obtain ⟨ho, hn, hm4, hM0, hG, hC⟩ := id hI
  refine VB_iload (q := 785) dL_law_783 7 rfl rfl ?_
  refine VB_if_eq (q := 788) (tgt := 968) dL_law_785 (by decide) (by decide) (fun hc => absurd hc (by decide)) (fun _ => ?_)
  refine VB_aload_n (q := 789) dL_law_788 1 rfl rfl ?_
  refine VB_aload_n (q := 790) dL_law_789 2 rfl rfl ?_
  refine VB_aload_n (q := 791) dL_law_790 3 rfl rfl ?_
  refine VB_aload (q := 793) dL_law_791 6 rfl rfl ?_
  refine VB_callU (q := 796) dL_law_793 (u_areThings (a := a) (c := c) (S := S) (b := b) (d := d) (F := F) hI hg) yv_L_areThings rfl gL_law_L_areThings xU_L rfl (Nat.le_of_ble_eq_true rfl) (by decide) ⟨by show _ ≤ 20000; omega, by show _ ≤ 130000; omega⟩ (fun x793 g793 hP793 hg793 => ?_)
  refine VB_lo (lo' := 123) (Nat.le_add_right _ _) ?_
  have J968 : ∀ (gj968 : Nat → Nat), (∀ j, gj968 j < 4096) → VB 123 RL cL_law 17 (some .boolean) wsL_law roomB (vXL s0 L xs) (tyl c d) (qF 123) (4882) (29292 + 1250) (wal a c S b d F gj968) 968 [(0, .ref (s0)), (1, .ref (a 0)), (2, .ref (b 0)), (3, .ref (b 1)), (4, .ref (b 2)), (5, .ref (b 3)), (6, .ref (b 4)), (7, .int (iZ 1)), (8, .int (iZ 37)), (9, .int (iZ 31)), (10, .int (iZ 0))] [] := by
    intro gj968 hgj968
    refine VB_iconst (q := 969) dL_law_968 rfl ?_
    refine VB_istore (q := 971) (lv' := [(0, _), (1, _), (2, _), (3, _), (4, _), (5, _), (6, _), (7, _), (8, _), (9, _), (10, _)]) dL_law_969 (by decide) rfl rfl ?_
    refine VB_iinc (q := 974) (y := 38) (lv' := [(0, _), (1, _), (2, _), (3, _), (4, _), (5, _), (6, _), (7, _), (8, _), (9, _), (10, _)]) dL_law_971 8 rfl (by omega) (by decide) rfl rfl ?_
    refine VB_goto (tgt := 64) dL_law_974 (by decide) ?_
    refine VB_iload (q := 66) dL_law_64 8 rfl rfl ?_
    refine VB_bipush (q := 68) dL_law_66 (by decide) rfl ?_
    refine VB_icmp_ge (q := 71) (tgt := 977) dL_law_68 (by decide) (by decide) (by decide) (fun hc => absurd hc (by decide)) (fun _ => ?_)
    refine VB_iload (q := 73) dL_law_71 7 rfl rfl ?_
    refine VB_if_eq (q := 76) (tgt := 977) dL_law_73 (by decide) (by decide) (fun _ => ?_) (fun hc => absurd hc (by decide))
    refine VB_iload (q := 979) dL_law_977 7 rfl rfl ?_
    exact VB_ret0 dL_law_979 rfl
  refine VB_uif_eq (q := 799) (tgt := 968) dL_law_796 (by decide) ?_ ?_
  · skip
    exact VB_widen (by omega) (by omega) (J968 g793 hg793)
  · skip
    refine VB_iload (q := 801) dL_law_799 8 rfl rfl ?_
    refine VB_iconst (q := 802) dL_law_801 rfl ?_
    refine VB_irem (q := 803) (a := 37) (b := 2) dL_law_802 (by omega) (by decide) (by decide) rfl ?_
    refine VB_top (y := iZ 1) rfl ?_
    refine VB_if_gt (q := 806) (tgt := 833) dL_law_803 (by decide) (by decide) (fun _ => ?_) (fun hc => absurd hc (by decide))
    refine VB_aload_n (q := 834) dL_law_833 1 rfl rfl ?_
    refine VB_aload_n (q := 835) dL_law_834 2 rfl rfl ?_
    refine VB_aload_n (q := 836) dL_law_835 3 rfl rfl ?_
    refine VB_aload (q := 838) dL_law_836 4 rfl rfl ?_
    refine VB_aload (q := 840) dL_law_838 6 rfl rfl ?_
    refine VB_callU (q := 843) dL_law_840 (u_isMissing (a := a) (c := c) (S := S) (b := b) (d := d) (F := F) hI hg793) yv_L_isMissing rfl gL_law_L_isMissing xU_L rfl (Nat.le_of_ble_eq_true rfl) (by decide) ⟨by show _ ≤ 20000; omega, by show _ ≤ 130000; omega⟩ (fun x840 g840 hP840 hg840 => ?_)
    refine VB_lo (lo' := 123) (Nat.le_add_right _ _) ?_
    refine VB_uif_eq (q := 846) (tgt := 968) dL_law_843 (by decide) ?_ ?_
    · skip
      exact VB_widen (by omega) (by omega) (J968 g840 hg840)
    · skip
      refine VB_aload_n (q := 847) dL_law_846 1 rfl rfl ?_
      refine VB_aload_n (q := 848) dL_law_847 2 rfl rfl ?_
      refine VB_aload (q := 850) dL_law_848 6 rfl rfl ?_
      refine VB_iload (q := 852) dL_law_850 10 rfl rfl ?_
      refine VB_aload (q := 854) dL_law_852 6 rfl rfl ?_
      refine VB_iconst (q := 855) dL_law_854 rfl ?_
      refine VB_iald (q := 856) (v := (iZ 4)) dL_law_855 13 12 rfl rfl (0) (by omega) (by omega) (by decide) (hM0) rfl ?_
      refine VB_iconst (q := 857) dL_law_856 rfl ?_
      refine VB_iadd (q := 858) dL_law_857 rfl ?_
      refine VB_top (y := iZ 5) rfl ?_
      refine VB_irem (q := 859) (a := 0) (b := 5) dL_law_858 (by omega) (by decide) (by decide) rfl ?_
      refine VB_top (y := iZ 0) rfl ?_
      refine VB_iload (q := 861) dL_law_859 10 rfl rfl ?_
      refine VB_bipush (q := 863) dL_law_861 (by decide) rfl ?_
      refine VB_idiv (q := 864) (a := 0) (b := 13) dL_law_863 (by omega) (by decide) (by decide) rfl ?_
      refine VB_top (y := iZ 0) rfl ?_
      refine VB_aload (q := 866) dL_law_864 6 rfl rfl ?_
      refine VB_iconst (q := 867) dL_law_866 rfl ?_
      refine VB_iald (q := 868) (v := (iZ 4)) dL_law_867 13 12 rfl rfl (0) (by omega) (by omega) (by decide) (hM0) rfl ?_
      refine VB_iconst (q := 869) dL_law_868 rfl ?_
      refine VB_iadd (q := 870) dL_law_869 rfl ?_
      refine VB_top (y := iZ 5) rfl ?_
      refine VB_irem (q := 871) (a := 0) (b := 5) dL_law_870 (by omega) (by decide) (by decide) rfl ?_
      refine VB_top (y := iZ 0) rfl ?_
      refine VB_iload (q := 873) dL_law_871 10 rfl rfl ?_
      refine VB_sipush (q := 876) dL_law_873 (by decide) rfl ?_
      refine VB_idiv (q := 877) (a := 0) (b := 169) dL_law_876 (by omega) (by decide) (by decide) rfl ?_
      refine VB_top (y := iZ 0) rfl ?_
      refine VB_aload (q := 879) dL_law_877 6 rfl rfl ?_
      refine VB_iconst (q := 880) dL_law_879 rfl ?_
      refine VB_iald (q := 881) (v := (iZ 4)) dL_law_880 13 12 rfl rfl (0) (by omega) (by omega) (by decide) (hM0) rfl ?_
      refine VB_iconst (q := 882) dL_law_881 rfl ?_
      refine VB_iadd (q := 883) dL_law_882 rfl ?_
      refine VB_top (y := iZ 6) rfl ?_
      refine VB_irem (q := 884) (a := 0) (b := 6) dL_law_883 (by omega) (by decide) (by decide) rfl ?_
      refine VB_top (y := iZ 0) rfl ?_
      refine VB_iconst (q := 885) dL_law_884 rfl ?_
      refine VB_isub (q := 886) dL_law_885 rfl ?_
      refine VB_top (y := iZ (-1)) rfl ?_
      refine VB_callU (q := 889) dL_law_886 (u_isWrong (a := a) (c := c) (S := S) (b := b) (d := d) (F := F) hI (wr0 hI (by decide) hK) hg840) yv_L_isWrong rfl gL_law_L_isWrong xU_L rfl (Nat.le_of_ble_eq_true rfl) (by decide) ⟨by show _ ≤ 20000; omega, by show _ ≤ 130000; omega⟩ (fun x886 g886 hP886 hg886 => ?_)
      refine VB_em (x := x886) (fun e886 => VB_lo (lo' := 123) (Nat.le_add_right _ _) (VB_top (y := iZ 0) e886 ?_)) (fun e886 => VB_lo (lo' := 125) (by show 125 ≤ 123 + (if x886 = 0 then 0 else 2); rw [if_neg e886]; omega) ?_)
      · skip
        refine VB_if_eq (q := 892) (tgt := 968) dL_law_889 (by decide) (by decide) (fun _ => ?_) (fun hc => absurd hc (by decide))
        exact VB_widen (by omega) (by omega) (J968 g886 hg886)
      · skip
        refine VB_uif_eq (q := 892) (tgt := 968) dL_law_889 (by decide) ?_ ?_
        · skip
          refine VB_lo (lo' := 123) (by omega) ?_
          exact VB_widen (by omega) (by omega) (J968 g886 hg886)
        · skip
          refine VB_iload (q := 894) dL_law_892 8 rfl rfl ?_
          refine VB_bipush (q := 896) dL_law_894 (by decide) rfl ?_
          refine VB_irem (q := 897) (a := 37) (b := 16) dL_law_896 (by omega) (by decide) (by decide) rfl ?_
          refine VB_top (y := iZ 5) rfl ?_
          refine VB_if_gt (q := 900) (tgt := 943) dL_law_897 (by decide) (by decide) (fun _ => ?_) (fun hc => absurd hc (by decide))
          refine VB_iload (q := 945) dL_law_943 8 rfl rfl ?_
          refine VB_bipush (q := 947) dL_law_945 (by decide) rfl ?_
          refine VB_irem (q := 948) (a := 37) (b := 20) dL_law_947 (by omega) (by decide) (by decide) rfl ?_
          refine VB_top (y := iZ 17) rfl ?_
          refine VB_if_gt (q := 951) (tgt := 964) dL_law_948 (by decide) (by decide) (fun _ => ?_) (fun hc => absurd hc (by decide))
          refine VB_iconst (q := 965) dL_law_964 rfl ?_
          refine VB_goto (tgt := 969) dL_law_965 (by decide) ?_
          refine VB_istore (q := 971) (lv' := [(0, _), (1, _), (2, _), (3, _), (4, _), (5, _), (6, _), (7, _), (8, _), (9, _), (10, _)]) dL_law_969 (by decide) rfl rfl ?_
          refine VB_iinc (q := 974) (y := 38) (lv' := [(0, _), (1, _), (2, _), (3, _), (4, _), (5, _), (6, _), (7, _), (8, _), (9, _), (10, _)]) dL_law_971 8 rfl (by omega) (by decide) rfl rfl ?_
          refine VB_goto (tgt := 64) dL_law_974 (by decide) ?_
          refine VB_loc (lv' := [(0, _), (1, _), (2, _), (3, _), (4, _), (5, _), (6, _), (7, _), (8, _)]) [0, 1, 2, 3, 4, 5, 6, 7, 8] rfl ?_
          refine VB_lo (lo' := 123) (by omega) ?_
          exact VB_widen (by omega) (by omega) (rd38 hL h16 hx S F g886 hI (fun _ => hK) hg886)
set_option maxRecDepth 100000 in
set_option maxHeartbeats 8000000 in
theorem rd37 {s0 L : Nat} {xs : Nat → Int32} {a : Nat → Nat} {c : Nat → ClassId} {b : Nat → Nat} {d : Nat → ClassId} (hL : L ≤ 260) (h16 : 80 ≤ L) (hx : ∀ j, j < 80 → xs j = 31) : ∀ (S : St) (F : Nat → Nat → Int32) (g : Nat → Nat), Iv S F 4 → (0 < 37 → sK S 0 = 0) → (∀ j, g j < 4096) → VB 123 RL cL_law 17 (some .boolean) wsL_law roomB (vXL s0 L xs) (tyl c d) (qF 123) (4862) (29172 + 1250) (wal a c S b d F g) 64 [(0, .ref (s0)), (1, .ref (a 0)), (2, .ref (b 0)), (3, .ref (b 1)), (4, .ref (b 2)), (5, .ref (b 3)), (6, .ref (b 4)), (7, .int (iZ 1)), (8, .int (iZ 37))] [] := by
  intro S F g hI hK hg
  obtain ⟨ho, hn, hm4, hM0, hG, hC⟩ := id hI
  refine VB_iload (q := 66) dL_law_64 8 rfl rfl ?_
  refine VB_bipush (q := 68) dL_law_66 (by decide) rfl ?_
  refine VB_icmp_ge (q := 71) (tgt := 977) dL_law_68 (by decide) (by decide) (by decide) (fun hc => absurd hc (by decide)) (fun _ => ?_)
  refine VB_iload (q := 73) dL_law_71 7 rfl rfl ?_
  refine VB_if_eq (q := 76) (tgt := 977) dL_law_73 (by decide) (by decide) (fun hc => absurd hc (by decide)) (fun _ => ?_)
  refine VB_aload_n (q := 77) dL_law_76 0 rfl rfl ?_
  refine VB_iload (q := 79) dL_law_77 8 rfl rfl ?_
  refine VB_callD (q := 82) dL_law_79 (u_dice (b := s0) (L := L) (xs := xs) 37 (by omega) hL (hx 37 (by omega))) yv_L_dice rfl gL_law_L_dice xL_s rfl (Nat.le_of_ble_eq_true rfl) (by decide) ⟨by show _ ≤ 20000; omega, by show _ ≤ 130000; omega⟩ ?_
  refine VB_istore (q := 84) (lv' := [(0, _), (1, _), (2, _), (3, _), (4, _), (5, _), (6, _), (7, _), (8, _), (9, _)]) dL_law_82 (by decide) rfl rfl ?_
  refine VB_iload (q := 86) dL_law_84 9 rfl rfl ?_
  refine VB_bipush (q := 88) dL_law_86 (by decide) rfl ?_
  refine VB_idiv (q := 89) (a := 31) (b := 32) dL_law_88 (by omega) (by decide) (by decide) rfl ?_
  refine VB_top (y := iZ 0) rfl ?_
  refine VB_istore (q := 91) (lv' := [(0, _), (1, _), (2, _), (3, _), (4, _), (5, _), (6, _), (7, _), (8, _), (9, _), (10, _)]) dL_law_89 (by decide) rfl rfl ?_
  refine VB_iload (q := 93) dL_law_91 9 rfl rfl ?_
  refine VB_bipush (q := 95) dL_law_93 (by decide) rfl ?_
  refine VB_irem (q := 96) (a := 31) (b := 32) dL_law_95 (by omega) (by decide) (by decide) rfl ?_
  refine VB_top (y := iZ 31) rfl ?_
  refine VB_istore (q := 98) (lv' := [(0, _), (1, _), (2, _), (3, _), (4, _), (5, _), (6, _), (7, _), (8, _), (9, _), (10, _), (11, _)]) dL_law_96 (by decide) rfl rfl ?_
  refine VB_aload (q := 100) dL_law_98 6 rfl rfl ?_
  refine VB_iconst (q := 101) dL_law_100 rfl ?_
  refine VB_iald (q := 102) (v := (iZ 4)) dL_law_101 13 12 rfl rfl (0) (by omega) (by omega) (by decide) (hM0) rfl ?_
  refine VB_if_ne (q := 105) (tgt := 109) dL_law_102 (by decide) (by decide) (fun _ => ?_) (fun hc => absurd hc (by decide))
  refine VB_iload (q := 111) dL_law_109 10 rfl rfl ?_
  refine VB_aload (q := 113) dL_law_111 6 rfl rfl ?_
  refine VB_iconst (q := 114) dL_law_113 rfl ?_
  refine VB_iald (q := 115) (v := (iZ 4)) dL_law_114 13 12 rfl rfl (0) (by omega) (by omega) (by decide) (hM0) rfl ?_
  refine VB_irem (q := 116) (a := 0) (b := 4) dL_law_115 (by omega) (by decide) (by decide) rfl ?_
  refine VB_top (y := iZ 0) rfl ?_
  refine VB_istore (q := 118) (lv' := [(0, _), (1, _), (2, _), (3, _), (4, _), (5, _), (6, _), (7, _), (8, _), (9, _), (10, _), (11, _), (12, _)]) dL_law_116 (by decide) rfl rfl ?_
  refine VB_aload (q := 120) dL_law_118 6 rfl rfl ?_
  refine VB_iconst (q := 121) dL_law_120 rfl ?_
  refine VB_iald (q := 122) (v := (iZ 4)) dL_law_121 13 12 rfl rfl (0) (by omega) (by omega) (by decide) (hM0) rfl ?_
  refine VB_iconst (q := 123) dL_law_122 rfl ?_
  refine VB_icmp_lt (q := 126) (tgt := 141) dL_law_123 (by decide) (by decide) (by decide) (fun hc => absurd hc (by decide)) (fun _ => ?_)
  refine VB_iload (q := 128) dL_law_126 11 rfl rfl ?_
  refine VB_iconst (q := 129) dL_law_128 rfl ?_
  refine VB_icmp_ge (q := 132) (tgt := 326) dL_law_129 (by decide) (by decide) (by decide) (fun _ => ?_) (fun hc => absurd hc (by decide))
  refine VB_iload (q := 328) dL_law_326 11 rfl rfl ?_
  refine VB_bipush (q := 330) dL_law_328 (by decide) rfl ?_
  refine VB_icmp_ge (q := 333) (tgt := 451) dL_law_330 (by decide) (by decide) (by decide) (fun _ => ?_) (fun hc => absurd hc (by decide))
  refine VB_iload (q := 453) dL_law_451 11 rfl rfl ?_
  refine VB_bipush (q := 455) dL_law_453 (by decide) rfl ?_
  refine VB_icmp_ge (q := 458) (tgt := 603) dL_law_455 (by decide) (by decide) (by decide) (fun _ => ?_) (fun hc => absurd hc (by decide))
  refine VB_iload (q := 605) dL_law_603 11 rfl rfl ?_
  refine VB_bipush (q := 607) dL_law_605 (by decide) rfl ?_
  refine VB_icmp_ge (q := 610) (tgt := 633) dL_law_607 (by decide) (by decide) (by decide) (fun _ => ?_) (fun hc => absurd hc (by decide))
  refine VB_iload (q := 635) dL_law_633 11 rfl rfl ?_
  refine VB_bipush (q := 637) dL_law_635 (by decide) rfl ?_
  refine VB_icmp_ge (q := 640) (tgt := 677) dL_law_637 (by decide) (by decide) (by decide) (fun _ => ?_) (fun hc => absurd hc (by decide))
  refine VB_iload (q := 679) dL_law_677 11 rfl rfl ?_
  refine VB_bipush (q := 681) dL_law_679 (by decide) rfl ?_
  refine VB_icmp_ne (q := 684) (tgt := 783) dL_law_681 (by decide) (by decide) (by decide) (fun _ => ?_) (fun hc => absurd hc (by decide))
  refine VB_loc (lv' := [(0, _), (1, _), (2, _), (3, _), (4, _), (5, _), (6, _), (7, _), (8, _), (9, _), (10, _)]) [0, 1, 2, 3, 4, 5, 6, 7, 8, 9, 10] rfl ?_
  exact VB_widen (by omega) (by omega) (ck37 hL h16 hx S F g hI (hK (by decide)) hg)
set_option maxRecDepth 100000 in
set_option maxHeartbeats 8000000 in
theorem ck36 {s0 L : Nat} {xs : Nat → Int32} {a : Nat → Nat} {c : Nat → ClassId} {b : Nat → Nat} {d : Nat → ClassId} (hL : L ≤ 260) (h16 : 80 ≤ L) (hx : ∀ j, j < 80 → xs j = 31) : ∀ (S : St) (F : Nat → Nat → Int32) (g : Nat → Nat), Iv S F 4 → sK S 0 = 0 → (∀ j, g j < 4096) → VB 123 RL cL_law 17 (some .boolean) wsL_law roomB (vXL s0 L xs) (tyl c d) (qF 123) (4642) (27852 + 1250) (wal a c S b d F g) 783 [(0, .ref (s0)), (1, .ref (a 0)), (2, .ref (b 0)), (3, .ref (b 1)), (4, .ref (b 2)), (5, .ref (b 3)), (6, .ref (b 4)), (7, .int (iZ 1)), (8, .int (iZ 36)), (9, .int (iZ 31)), (10, .int (iZ 0))] [] := by
  intro S F g hI hK hg
  obtain ⟨ho, hn, hm4, hM0, hG, hC⟩ := id hI
  refine VB_iload (q := 785) dL_law_783 7 rfl rfl ?_
  refine VB_if_eq (q := 788) (tgt := 968) dL_law_785 (by decide) (by decide) (fun hc => absurd hc (by decide)) (fun _ => ?_)
  refine VB_aload_n (q := 789) dL_law_788 1 rfl rfl ?_
  refine VB_aload_n (q := 790) dL_law_789 2 rfl rfl ?_
  refine VB_aload_n (q := 791) dL_law_790 3 rfl rfl ?_
  refine VB_aload (q := 793) dL_law_791 6 rfl rfl ?_
  refine VB_callU (q := 796) dL_law_793 (u_areThings (a := a) (c := c) (S := S) (b := b) (d := d) (F := F) hI hg) yv_L_areThings rfl gL_law_L_areThings xU_L rfl (Nat.le_of_ble_eq_true rfl) (by decide) ⟨by show _ ≤ 20000; omega, by show _ ≤ 130000; omega⟩ (fun x793 g793 hP793 hg793 => ?_)
  refine VB_lo (lo' := 123) (Nat.le_add_right _ _) ?_
  have J968 : ∀ (gj968 : Nat → Nat), (∀ j, gj968 j < 4096) → VB 123 RL cL_law 17 (some .boolean) wsL_law roomB (vXL s0 L xs) (tyl c d) (qF 123) (4862) (29172 + 1250) (wal a c S b d F gj968) 968 [(0, .ref (s0)), (1, .ref (a 0)), (2, .ref (b 0)), (3, .ref (b 1)), (4, .ref (b 2)), (5, .ref (b 3)), (6, .ref (b 4)), (7, .int (iZ 1)), (8, .int (iZ 36)), (9, .int (iZ 31)), (10, .int (iZ 0))] [] := by
    intro gj968 hgj968
    refine VB_iconst (q := 969) dL_law_968 rfl ?_
    refine VB_istore (q := 971) (lv' := [(0, _), (1, _), (2, _), (3, _), (4, _), (5, _), (6, _), (7, _), (8, _), (9, _), (10, _)]) dL_law_969 (by decide) rfl rfl ?_
    refine VB_iinc (q := 974) (y := 37) (lv' := [(0, _), (1, _), (2, _), (3, _), (4, _), (5, _), (6, _), (7, _), (8, _), (9, _), (10, _)]) dL_law_971 8 rfl (by omega) (by decide) rfl rfl ?_
    refine VB_goto (tgt := 64) dL_law_974 (by decide) ?_
    refine VB_iload (q := 66) dL_law_64 8 rfl rfl ?_
    refine VB_bipush (q := 68) dL_law_66 (by decide) rfl ?_
    refine VB_icmp_ge (q := 71) (tgt := 977) dL_law_68 (by decide) (by decide) (by decide) (fun hc => absurd hc (by decide)) (fun _ => ?_)
    refine VB_iload (q := 73) dL_law_71 7 rfl rfl ?_
    refine VB_if_eq (q := 76) (tgt := 977) dL_law_73 (by decide) (by decide) (fun _ => ?_) (fun hc => absurd hc (by decide))
    refine VB_iload (q := 979) dL_law_977 7 rfl rfl ?_
    exact VB_ret0 dL_law_979 rfl
  refine VB_uif_eq (q := 799) (tgt := 968) dL_law_796 (by decide) ?_ ?_
  · skip
    exact VB_widen (by omega) (by omega) (J968 g793 hg793)
  · skip
    refine VB_iload (q := 801) dL_law_799 8 rfl rfl ?_
    refine VB_iconst (q := 802) dL_law_801 rfl ?_
    refine VB_irem (q := 803) (a := 36) (b := 2) dL_law_802 (by omega) (by decide) (by decide) rfl ?_
    refine VB_top (y := iZ 0) rfl ?_
    refine VB_if_gt (q := 806) (tgt := 833) dL_law_803 (by decide) (by decide) (fun hc => absurd hc (by decide)) (fun _ => ?_)
    refine VB_aload_n (q := 807) dL_law_806 1 rfl rfl ?_
    refine VB_aload_n (q := 808) dL_law_807 2 rfl rfl ?_
    refine VB_aload_n (q := 809) dL_law_808 3 rfl rfl ?_
    refine VB_aload (q := 811) dL_law_809 4 rfl rfl ?_
    refine VB_aload (q := 813) dL_law_811 6 rfl rfl ?_
    refine VB_iload (q := 815) dL_law_813 10 rfl rfl ?_
    refine VB_bipush (q := 817) dL_law_815 (by decide) rfl ?_
    refine VB_irem (q := 818) (a := 0) (b := 31) dL_law_817 (by omega) (by decide) (by decide) rfl ?_
    refine VB_top (y := iZ 0) rfl ?_
    refine VB_iload (q := 820) dL_law_818 10 rfl rfl ?_
    refine VB_bipush (q := 822) dL_law_820 (by decide) rfl ?_
    refine VB_idiv (q := 823) (a := 0) (b := 31) dL_law_822 (by omega) (by decide) (by decide) rfl ?_
    refine VB_top (y := iZ 0) rfl ?_
    refine VB_sipush (q := 826) dL_law_823 (by decide) rfl ?_
    refine VB_irem (q := 827) (a := 0) (b := 256) dL_law_826 (by omega) (by decide) (by decide) rfl ?_
    refine VB_top (y := iZ 0) rfl ?_
    refine VB_callU (q := 830) dL_law_827 (u_areOutfits (a := a) (c := c) (S := S) (b := b) (d := d) (F := F) hI hg793) yv_L_areOutfits rfl gL_law_L_areOutfits xU_L rfl (Nat.le_of_ble_eq_true rfl) (by decide) ⟨by show _ ≤ 20000; omega, by show _ ≤ 130000; omega⟩ (fun x827 g827 hP827 hg827 => ?_)
    refine VB_lo (lo' := 123) (Nat.le_add_right _ _) ?_
    refine VB_uif_eq (q := 833) (tgt := 968) dL_law_830 (by decide) ?_ ?_
    · skip
      exact VB_widen (by omega) (by omega) (J968 g827 hg827)
    · skip
      refine VB_aload_n (q := 834) dL_law_833 1 rfl rfl ?_
      refine VB_aload_n (q := 835) dL_law_834 2 rfl rfl ?_
      refine VB_aload_n (q := 836) dL_law_835 3 rfl rfl ?_
      refine VB_aload (q := 838) dL_law_836 4 rfl rfl ?_
      refine VB_aload (q := 840) dL_law_838 6 rfl rfl ?_
      refine VB_callU (q := 843) dL_law_840 (u_isMissing (a := a) (c := c) (S := S) (b := b) (d := d) (F := F) hI hg827) yv_L_isMissing rfl gL_law_L_isMissing xU_L rfl (Nat.le_of_ble_eq_true rfl) (by decide) ⟨by show _ ≤ 20000; omega, by show _ ≤ 130000; omega⟩ (fun x840 g840 hP840 hg840 => ?_)
      refine VB_lo (lo' := 123) (Nat.le_add_right _ _) ?_
      refine VB_uif_eq (q := 846) (tgt := 968) dL_law_843 (by decide) ?_ ?_
      · skip
        exact VB_widen (by omega) (by omega) (J968 g840 hg840)
      · skip
        refine VB_aload_n (q := 847) dL_law_846 1 rfl rfl ?_
        refine VB_aload_n (q := 848) dL_law_847 2 rfl rfl ?_
        refine VB_aload (q := 850) dL_law_848 6 rfl rfl ?_
        refine VB_iload (q := 852) dL_law_850 10 rfl rfl ?_
        refine VB_aload (q := 854) dL_law_852 6 rfl rfl ?_
        refine VB_iconst (q := 855) dL_law_854 rfl ?_
        refine VB_iald (q := 856) (v := (iZ 4)) dL_law_855 13 12 rfl rfl (0) (by omega) (by omega) (by decide) (hM0) rfl ?_
        refine VB_iconst (q := 857) dL_law_856 rfl ?_
        refine VB_iadd (q := 858) dL_law_857 rfl ?_
        refine VB_top (y := iZ 5) rfl ?_
        refine VB_irem (q := 859) (a := 0) (b := 5) dL_law_858 (by omega) (by decide) (by decide) rfl ?_
        refine VB_top (y := iZ 0) rfl ?_
        refine VB_iload (q := 861) dL_law_859 10 rfl rfl ?_
        refine VB_bipush (q := 863) dL_law_861 (by decide) rfl ?_
        refine VB_idiv (q := 864) (a := 0) (b := 13) dL_law_863 (by omega) (by decide) (by decide) rfl ?_
        refine VB_top (y := iZ 0) rfl ?_
        refine VB_aload (q := 866) dL_law_864 6 rfl rfl ?_
        refine VB_iconst (q := 867) dL_law_866 rfl ?_
        refine VB_iald (q := 868) (v := (iZ 4)) dL_law_867 13 12 rfl rfl (0) (by omega) (by omega) (by decide) (hM0) rfl ?_
        refine VB_iconst (q := 869) dL_law_868 rfl ?_
        refine VB_iadd (q := 870) dL_law_869 rfl ?_
        refine VB_top (y := iZ 5) rfl ?_
        refine VB_irem (q := 871) (a := 0) (b := 5) dL_law_870 (by omega) (by decide) (by decide) rfl ?_
        refine VB_top (y := iZ 0) rfl ?_
        refine VB_iload (q := 873) dL_law_871 10 rfl rfl ?_
        refine VB_sipush (q := 876) dL_law_873 (by decide) rfl ?_
        refine VB_idiv (q := 877) (a := 0) (b := 169) dL_law_876 (by omega) (by decide) (by decide) rfl ?_
        refine VB_top (y := iZ 0) rfl ?_
        refine VB_aload (q := 879) dL_law_877 6 rfl rfl ?_
        refine VB_iconst (q := 880) dL_law_879 rfl ?_
        refine VB_iald (q := 881) (v := (iZ 4)) dL_law_880 13 12 rfl rfl (0) (by omega) (by omega) (by decide) (hM0) rfl ?_
        refine VB_iconst (q := 882) dL_law_881 rfl ?_
        refine VB_iadd (q := 883) dL_law_882 rfl ?_
        refine VB_top (y := iZ 6) rfl ?_
        refine VB_irem (q := 884) (a := 0) (b := 6) dL_law_883 (by omega) (by decide) (by decide) rfl ?_
        refine VB_top (y := iZ 0) rfl ?_
        refine VB_iconst (q := 885) dL_law_884 rfl ?_
        refine VB_isub (q := 886) dL_law_885 rfl ?_
        refine VB_top (y := iZ (-1)) rfl ?_
        refine VB_callU (q := 889) dL_law_886 (u_isWrong (a := a) (c := c) (S := S) (b := b) (d := d) (F := F) hI (wr0 hI (by decide) hK) hg840) yv_L_isWrong rfl gL_law_L_isWrong xU_L rfl (Nat.le_of_ble_eq_true rfl) (by decide) ⟨by show _ ≤ 20000; omega, by show _ ≤ 130000; omega⟩ (fun x886 g886 hP886 hg886 => ?_)
        refine VB_em (x := x886) (fun e886 => VB_lo (lo' := 123) (Nat.le_add_right _ _) (VB_top (y := iZ 0) e886 ?_)) (fun e886 => VB_lo (lo' := 125) (by show 125 ≤ 123 + (if x886 = 0 then 0 else 2); rw [if_neg e886]; omega) ?_)
        · skip
          refine VB_if_eq (q := 892) (tgt := 968) dL_law_889 (by decide) (by decide) (fun _ => ?_) (fun hc => absurd hc (by decide))
          exact VB_widen (by omega) (by omega) (J968 g886 hg886)
        · skip
          refine VB_uif_eq (q := 892) (tgt := 968) dL_law_889 (by decide) ?_ ?_
          · skip
            refine VB_lo (lo' := 123) (by omega) ?_
            exact VB_widen (by omega) (by omega) (J968 g886 hg886)
          · skip
            refine VB_iload (q := 894) dL_law_892 8 rfl rfl ?_
            refine VB_bipush (q := 896) dL_law_894 (by decide) rfl ?_
            refine VB_irem (q := 897) (a := 36) (b := 16) dL_law_896 (by omega) (by decide) (by decide) rfl ?_
            refine VB_top (y := iZ 4) rfl ?_
            refine VB_if_gt (q := 900) (tgt := 943) dL_law_897 (by decide) (by decide) (fun _ => ?_) (fun hc => absurd hc (by decide))
            refine VB_iload (q := 945) dL_law_943 8 rfl rfl ?_
            refine VB_bipush (q := 947) dL_law_945 (by decide) rfl ?_
            refine VB_irem (q := 948) (a := 36) (b := 20) dL_law_947 (by omega) (by decide) (by decide) rfl ?_
            refine VB_top (y := iZ 16) rfl ?_
            refine VB_if_gt (q := 951) (tgt := 964) dL_law_948 (by decide) (by decide) (fun _ => ?_) (fun hc => absurd hc (by decide))
            refine VB_iconst (q := 965) dL_law_964 rfl ?_
            refine VB_goto (tgt := 969) dL_law_965 (by decide) ?_
            refine VB_istore (q := 971) (lv' := [(0, _), (1, _), (2, _), (3, _), (4, _), (5, _), (6, _), (7, _), (8, _), (9, _), (10, _)]) dL_law_969 (by decide) rfl rfl ?_
            refine VB_iinc (q := 974) (y := 37) (lv' := [(0, _), (1, _), (2, _), (3, _), (4, _), (5, _), (6, _), (7, _), (8, _), (9, _), (10, _)]) dL_law_971 8 rfl (by omega) (by decide) rfl rfl ?_
            refine VB_goto (tgt := 64) dL_law_974 (by decide) ?_
            refine VB_loc (lv' := [(0, _), (1, _), (2, _), (3, _), (4, _), (5, _), (6, _), (7, _), (8, _)]) [0, 1, 2, 3, 4, 5, 6, 7, 8] rfl ?_
            refine VB_lo (lo' := 123) (by omega) ?_
            exact VB_widen (by omega) (by omega) (rd37 hL h16 hx S F g886 hI (fun _ => hK) hg886)
set_option maxRecDepth 100000 in
set_option maxHeartbeats 8000000 in
theorem rd36 {s0 L : Nat} {xs : Nat → Int32} {a : Nat → Nat} {c : Nat → ClassId} {b : Nat → Nat} {d : Nat → ClassId} (hL : L ≤ 260) (h16 : 80 ≤ L) (hx : ∀ j, j < 80 → xs j = 31) : ∀ (S : St) (F : Nat → Nat → Int32) (g : Nat → Nat), Iv S F 4 → (0 < 36 → sK S 0 = 0) → (∀ j, g j < 4096) → VB 123 RL cL_law 17 (some .boolean) wsL_law roomB (vXL s0 L xs) (tyl c d) (qF 123) (4642) (27852 + 1250) (wal a c S b d F g) 64 [(0, .ref (s0)), (1, .ref (a 0)), (2, .ref (b 0)), (3, .ref (b 1)), (4, .ref (b 2)), (5, .ref (b 3)), (6, .ref (b 4)), (7, .int (iZ 1)), (8, .int (iZ 36))] [] := by
  intro S F g hI hK hg
  obtain ⟨ho, hn, hm4, hM0, hG, hC⟩ := id hI
  refine VB_iload (q := 66) dL_law_64 8 rfl rfl ?_
  refine VB_bipush (q := 68) dL_law_66 (by decide) rfl ?_
  refine VB_icmp_ge (q := 71) (tgt := 977) dL_law_68 (by decide) (by decide) (by decide) (fun hc => absurd hc (by decide)) (fun _ => ?_)
  refine VB_iload (q := 73) dL_law_71 7 rfl rfl ?_
  refine VB_if_eq (q := 76) (tgt := 977) dL_law_73 (by decide) (by decide) (fun hc => absurd hc (by decide)) (fun _ => ?_)
  refine VB_aload_n (q := 77) dL_law_76 0 rfl rfl ?_
  refine VB_iload (q := 79) dL_law_77 8 rfl rfl ?_
  refine VB_callD (q := 82) dL_law_79 (u_dice (b := s0) (L := L) (xs := xs) 36 (by omega) hL (hx 36 (by omega))) yv_L_dice rfl gL_law_L_dice xL_s rfl (Nat.le_of_ble_eq_true rfl) (by decide) ⟨by show _ ≤ 20000; omega, by show _ ≤ 130000; omega⟩ ?_
  refine VB_istore (q := 84) (lv' := [(0, _), (1, _), (2, _), (3, _), (4, _), (5, _), (6, _), (7, _), (8, _), (9, _)]) dL_law_82 (by decide) rfl rfl ?_
  refine VB_iload (q := 86) dL_law_84 9 rfl rfl ?_
  refine VB_bipush (q := 88) dL_law_86 (by decide) rfl ?_
  refine VB_idiv (q := 89) (a := 31) (b := 32) dL_law_88 (by omega) (by decide) (by decide) rfl ?_
  refine VB_top (y := iZ 0) rfl ?_
  refine VB_istore (q := 91) (lv' := [(0, _), (1, _), (2, _), (3, _), (4, _), (5, _), (6, _), (7, _), (8, _), (9, _), (10, _)]) dL_law_89 (by decide) rfl rfl ?_
  refine VB_iload (q := 93) dL_law_91 9 rfl rfl ?_
  refine VB_bipush (q := 95) dL_law_93 (by decide) rfl ?_
  refine VB_irem (q := 96) (a := 31) (b := 32) dL_law_95 (by omega) (by decide) (by decide) rfl ?_
  refine VB_top (y := iZ 31) rfl ?_
  refine VB_istore (q := 98) (lv' := [(0, _), (1, _), (2, _), (3, _), (4, _), (5, _), (6, _), (7, _), (8, _), (9, _), (10, _), (11, _)]) dL_law_96 (by decide) rfl rfl ?_
  refine VB_aload (q := 100) dL_law_98 6 rfl rfl ?_
  refine VB_iconst (q := 101) dL_law_100 rfl ?_
  refine VB_iald (q := 102) (v := (iZ 4)) dL_law_101 13 12 rfl rfl (0) (by omega) (by omega) (by decide) (hM0) rfl ?_
  refine VB_if_ne (q := 105) (tgt := 109) dL_law_102 (by decide) (by decide) (fun _ => ?_) (fun hc => absurd hc (by decide))
  refine VB_iload (q := 111) dL_law_109 10 rfl rfl ?_
  refine VB_aload (q := 113) dL_law_111 6 rfl rfl ?_
  refine VB_iconst (q := 114) dL_law_113 rfl ?_
  refine VB_iald (q := 115) (v := (iZ 4)) dL_law_114 13 12 rfl rfl (0) (by omega) (by omega) (by decide) (hM0) rfl ?_
  refine VB_irem (q := 116) (a := 0) (b := 4) dL_law_115 (by omega) (by decide) (by decide) rfl ?_
  refine VB_top (y := iZ 0) rfl ?_
  refine VB_istore (q := 118) (lv' := [(0, _), (1, _), (2, _), (3, _), (4, _), (5, _), (6, _), (7, _), (8, _), (9, _), (10, _), (11, _), (12, _)]) dL_law_116 (by decide) rfl rfl ?_
  refine VB_aload (q := 120) dL_law_118 6 rfl rfl ?_
  refine VB_iconst (q := 121) dL_law_120 rfl ?_
  refine VB_iald (q := 122) (v := (iZ 4)) dL_law_121 13 12 rfl rfl (0) (by omega) (by omega) (by decide) (hM0) rfl ?_
  refine VB_iconst (q := 123) dL_law_122 rfl ?_
  refine VB_icmp_lt (q := 126) (tgt := 141) dL_law_123 (by decide) (by decide) (by decide) (fun hc => absurd hc (by decide)) (fun _ => ?_)
  refine VB_iload (q := 128) dL_law_126 11 rfl rfl ?_
  refine VB_iconst (q := 129) dL_law_128 rfl ?_
  refine VB_icmp_ge (q := 132) (tgt := 326) dL_law_129 (by decide) (by decide) (by decide) (fun _ => ?_) (fun hc => absurd hc (by decide))
  refine VB_iload (q := 328) dL_law_326 11 rfl rfl ?_
  refine VB_bipush (q := 330) dL_law_328 (by decide) rfl ?_
  refine VB_icmp_ge (q := 333) (tgt := 451) dL_law_330 (by decide) (by decide) (by decide) (fun _ => ?_) (fun hc => absurd hc (by decide))
  refine VB_iload (q := 453) dL_law_451 11 rfl rfl ?_
  refine VB_bipush (q := 455) dL_law_453 (by decide) rfl ?_
  refine VB_icmp_ge (q := 458) (tgt := 603) dL_law_455 (by decide) (by decide) (by decide) (fun _ => ?_) (fun hc => absurd hc (by decide))
  refine VB_iload (q := 605) dL_law_603 11 rfl rfl ?_
  refine VB_bipush (q := 607) dL_law_605 (by decide) rfl ?_
  refine VB_icmp_ge (q := 610) (tgt := 633) dL_law_607 (by decide) (by decide) (by decide) (fun _ => ?_) (fun hc => absurd hc (by decide))
  refine VB_iload (q := 635) dL_law_633 11 rfl rfl ?_
  refine VB_bipush (q := 637) dL_law_635 (by decide) rfl ?_
  refine VB_icmp_ge (q := 640) (tgt := 677) dL_law_637 (by decide) (by decide) (by decide) (fun _ => ?_) (fun hc => absurd hc (by decide))
  refine VB_iload (q := 679) dL_law_677 11 rfl rfl ?_
  refine VB_bipush (q := 681) dL_law_679 (by decide) rfl ?_
  refine VB_icmp_ne (q := 684) (tgt := 783) dL_law_681 (by decide) (by decide) (by decide) (fun _ => ?_) (fun hc => absurd hc (by decide))
  refine VB_loc (lv' := [(0, _), (1, _), (2, _), (3, _), (4, _), (5, _), (6, _), (7, _), (8, _), (9, _), (10, _)]) [0, 1, 2, 3, 4, 5, 6, 7, 8, 9, 10] rfl ?_
  exact VB_widen (by omega) (by omega) (ck36 hL h16 hx S F g hI (hK (by decide)) hg)
set_option maxRecDepth 100000 in
set_option maxHeartbeats 8000000 in
theorem ck35 {s0 L : Nat} {xs : Nat → Int32} {a : Nat → Nat} {c : Nat → ClassId} {b : Nat → Nat} {d : Nat → ClassId} (hL : L ≤ 260) (h16 : 80 ≤ L) (hx : ∀ j, j < 80 → xs j = 31) : ∀ (S : St) (F : Nat → Nat → Int32) (g : Nat → Nat), Iv S F 4 → sK S 0 = 0 → (∀ j, g j < 4096) → VB 123 RL cL_law 17 (some .boolean) wsL_law roomB (vXL s0 L xs) (tyl c d) (qF 123) (4622) (27732 + 1250) (wal a c S b d F g) 783 [(0, .ref (s0)), (1, .ref (a 0)), (2, .ref (b 0)), (3, .ref (b 1)), (4, .ref (b 2)), (5, .ref (b 3)), (6, .ref (b 4)), (7, .int (iZ 1)), (8, .int (iZ 35)), (9, .int (iZ 31)), (10, .int (iZ 0))] [] := by
  intro S F g hI hK hg
  obtain ⟨ho, hn, hm4, hM0, hG, hC⟩ := id hI
  refine VB_iload (q := 785) dL_law_783 7 rfl rfl ?_
  refine VB_if_eq (q := 788) (tgt := 968) dL_law_785 (by decide) (by decide) (fun hc => absurd hc (by decide)) (fun _ => ?_)
  refine VB_aload_n (q := 789) dL_law_788 1 rfl rfl ?_
  refine VB_aload_n (q := 790) dL_law_789 2 rfl rfl ?_
  refine VB_aload_n (q := 791) dL_law_790 3 rfl rfl ?_
  refine VB_aload (q := 793) dL_law_791 6 rfl rfl ?_
  refine VB_callU (q := 796) dL_law_793 (u_areThings (a := a) (c := c) (S := S) (b := b) (d := d) (F := F) hI hg) yv_L_areThings rfl gL_law_L_areThings xU_L rfl (Nat.le_of_ble_eq_true rfl) (by decide) ⟨by show _ ≤ 20000; omega, by show _ ≤ 130000; omega⟩ (fun x793 g793 hP793 hg793 => ?_)
  refine VB_lo (lo' := 123) (Nat.le_add_right _ _) ?_
  have J968 : ∀ (gj968 : Nat → Nat), (∀ j, gj968 j < 4096) → VB 123 RL cL_law 17 (some .boolean) wsL_law roomB (vXL s0 L xs) (tyl c d) (qF 123) (4642) (27852 + 1250) (wal a c S b d F gj968) 968 [(0, .ref (s0)), (1, .ref (a 0)), (2, .ref (b 0)), (3, .ref (b 1)), (4, .ref (b 2)), (5, .ref (b 3)), (6, .ref (b 4)), (7, .int (iZ 1)), (8, .int (iZ 35)), (9, .int (iZ 31)), (10, .int (iZ 0))] [] := by
    intro gj968 hgj968
    refine VB_iconst (q := 969) dL_law_968 rfl ?_
    refine VB_istore (q := 971) (lv' := [(0, _), (1, _), (2, _), (3, _), (4, _), (5, _), (6, _), (7, _), (8, _), (9, _), (10, _)]) dL_law_969 (by decide) rfl rfl ?_
    refine VB_iinc (q := 974) (y := 36) (lv' := [(0, _), (1, _), (2, _), (3, _), (4, _), (5, _), (6, _), (7, _), (8, _), (9, _), (10, _)]) dL_law_971 8 rfl (by omega) (by decide) rfl rfl ?_
    refine VB_goto (tgt := 64) dL_law_974 (by decide) ?_
    refine VB_iload (q := 66) dL_law_64 8 rfl rfl ?_
    refine VB_bipush (q := 68) dL_law_66 (by decide) rfl ?_
    refine VB_icmp_ge (q := 71) (tgt := 977) dL_law_68 (by decide) (by decide) (by decide) (fun hc => absurd hc (by decide)) (fun _ => ?_)
    refine VB_iload (q := 73) dL_law_71 7 rfl rfl ?_
    refine VB_if_eq (q := 76) (tgt := 977) dL_law_73 (by decide) (by decide) (fun _ => ?_) (fun hc => absurd hc (by decide))
    refine VB_iload (q := 979) dL_law_977 7 rfl rfl ?_
    exact VB_ret0 dL_law_979 rfl
  refine VB_uif_eq (q := 799) (tgt := 968) dL_law_796 (by decide) ?_ ?_
  · skip
    exact VB_widen (by omega) (by omega) (J968 g793 hg793)
  · skip
    refine VB_iload (q := 801) dL_law_799 8 rfl rfl ?_
    refine VB_iconst (q := 802) dL_law_801 rfl ?_
    refine VB_irem (q := 803) (a := 35) (b := 2) dL_law_802 (by omega) (by decide) (by decide) rfl ?_
    refine VB_top (y := iZ 1) rfl ?_
    refine VB_if_gt (q := 806) (tgt := 833) dL_law_803 (by decide) (by decide) (fun _ => ?_) (fun hc => absurd hc (by decide))
    refine VB_aload_n (q := 834) dL_law_833 1 rfl rfl ?_
    refine VB_aload_n (q := 835) dL_law_834 2 rfl rfl ?_
    refine VB_aload_n (q := 836) dL_law_835 3 rfl rfl ?_
    refine VB_aload (q := 838) dL_law_836 4 rfl rfl ?_
    refine VB_aload (q := 840) dL_law_838 6 rfl rfl ?_
    refine VB_callU (q := 843) dL_law_840 (u_isMissing (a := a) (c := c) (S := S) (b := b) (d := d) (F := F) hI hg793) yv_L_isMissing rfl gL_law_L_isMissing xU_L rfl (Nat.le_of_ble_eq_true rfl) (by decide) ⟨by show _ ≤ 20000; omega, by show _ ≤ 130000; omega⟩ (fun x840 g840 hP840 hg840 => ?_)
    refine VB_lo (lo' := 123) (Nat.le_add_right _ _) ?_
    refine VB_uif_eq (q := 846) (tgt := 968) dL_law_843 (by decide) ?_ ?_
    · skip
      exact VB_widen (by omega) (by omega) (J968 g840 hg840)
    · skip
      refine VB_aload_n (q := 847) dL_law_846 1 rfl rfl ?_
      refine VB_aload_n (q := 848) dL_law_847 2 rfl rfl ?_
      refine VB_aload (q := 850) dL_law_848 6 rfl rfl ?_
      refine VB_iload (q := 852) dL_law_850 10 rfl rfl ?_
      refine VB_aload (q := 854) dL_law_852 6 rfl rfl ?_
      refine VB_iconst (q := 855) dL_law_854 rfl ?_
      refine VB_iald (q := 856) (v := (iZ 4)) dL_law_855 13 12 rfl rfl (0) (by omega) (by omega) (by decide) (hM0) rfl ?_
      refine VB_iconst (q := 857) dL_law_856 rfl ?_
      refine VB_iadd (q := 858) dL_law_857 rfl ?_
      refine VB_top (y := iZ 5) rfl ?_
      refine VB_irem (q := 859) (a := 0) (b := 5) dL_law_858 (by omega) (by decide) (by decide) rfl ?_
      refine VB_top (y := iZ 0) rfl ?_
      refine VB_iload (q := 861) dL_law_859 10 rfl rfl ?_
      refine VB_bipush (q := 863) dL_law_861 (by decide) rfl ?_
      refine VB_idiv (q := 864) (a := 0) (b := 13) dL_law_863 (by omega) (by decide) (by decide) rfl ?_
      refine VB_top (y := iZ 0) rfl ?_
      refine VB_aload (q := 866) dL_law_864 6 rfl rfl ?_
      refine VB_iconst (q := 867) dL_law_866 rfl ?_
      refine VB_iald (q := 868) (v := (iZ 4)) dL_law_867 13 12 rfl rfl (0) (by omega) (by omega) (by decide) (hM0) rfl ?_
      refine VB_iconst (q := 869) dL_law_868 rfl ?_
      refine VB_iadd (q := 870) dL_law_869 rfl ?_
      refine VB_top (y := iZ 5) rfl ?_
      refine VB_irem (q := 871) (a := 0) (b := 5) dL_law_870 (by omega) (by decide) (by decide) rfl ?_
      refine VB_top (y := iZ 0) rfl ?_
      refine VB_iload (q := 873) dL_law_871 10 rfl rfl ?_
      refine VB_sipush (q := 876) dL_law_873 (by decide) rfl ?_
      refine VB_idiv (q := 877) (a := 0) (b := 169) dL_law_876 (by omega) (by decide) (by decide) rfl ?_
      refine VB_top (y := iZ 0) rfl ?_
      refine VB_aload (q := 879) dL_law_877 6 rfl rfl ?_
      refine VB_iconst (q := 880) dL_law_879 rfl ?_
      refine VB_iald (q := 881) (v := (iZ 4)) dL_law_880 13 12 rfl rfl (0) (by omega) (by omega) (by decide) (hM0) rfl ?_
      refine VB_iconst (q := 882) dL_law_881 rfl ?_
      refine VB_iadd (q := 883) dL_law_882 rfl ?_
      refine VB_top (y := iZ 6) rfl ?_
      refine VB_irem (q := 884) (a := 0) (b := 6) dL_law_883 (by omega) (by decide) (by decide) rfl ?_
      refine VB_top (y := iZ 0) rfl ?_
      refine VB_iconst (q := 885) dL_law_884 rfl ?_
      refine VB_isub (q := 886) dL_law_885 rfl ?_
      refine VB_top (y := iZ (-1)) rfl ?_
      refine VB_callU (q := 889) dL_law_886 (u_isWrong (a := a) (c := c) (S := S) (b := b) (d := d) (F := F) hI (wr0 hI (by decide) hK) hg840) yv_L_isWrong rfl gL_law_L_isWrong xU_L rfl (Nat.le_of_ble_eq_true rfl) (by decide) ⟨by show _ ≤ 20000; omega, by show _ ≤ 130000; omega⟩ (fun x886 g886 hP886 hg886 => ?_)
      refine VB_em (x := x886) (fun e886 => VB_lo (lo' := 123) (Nat.le_add_right _ _) (VB_top (y := iZ 0) e886 ?_)) (fun e886 => VB_lo (lo' := 125) (by show 125 ≤ 123 + (if x886 = 0 then 0 else 2); rw [if_neg e886]; omega) ?_)
      · skip
        refine VB_if_eq (q := 892) (tgt := 968) dL_law_889 (by decide) (by decide) (fun _ => ?_) (fun hc => absurd hc (by decide))
        exact VB_widen (by omega) (by omega) (J968 g886 hg886)
      · skip
        refine VB_uif_eq (q := 892) (tgt := 968) dL_law_889 (by decide) ?_ ?_
        · skip
          refine VB_lo (lo' := 123) (by omega) ?_
          exact VB_widen (by omega) (by omega) (J968 g886 hg886)
        · skip
          refine VB_iload (q := 894) dL_law_892 8 rfl rfl ?_
          refine VB_bipush (q := 896) dL_law_894 (by decide) rfl ?_
          refine VB_irem (q := 897) (a := 35) (b := 16) dL_law_896 (by omega) (by decide) (by decide) rfl ?_
          refine VB_top (y := iZ 3) rfl ?_
          refine VB_if_gt (q := 900) (tgt := 943) dL_law_897 (by decide) (by decide) (fun _ => ?_) (fun hc => absurd hc (by decide))
          refine VB_iload (q := 945) dL_law_943 8 rfl rfl ?_
          refine VB_bipush (q := 947) dL_law_945 (by decide) rfl ?_
          refine VB_irem (q := 948) (a := 35) (b := 20) dL_law_947 (by omega) (by decide) (by decide) rfl ?_
          refine VB_top (y := iZ 15) rfl ?_
          refine VB_if_gt (q := 951) (tgt := 964) dL_law_948 (by decide) (by decide) (fun _ => ?_) (fun hc => absurd hc (by decide))
          refine VB_iconst (q := 965) dL_law_964 rfl ?_
          refine VB_goto (tgt := 969) dL_law_965 (by decide) ?_
          refine VB_istore (q := 971) (lv' := [(0, _), (1, _), (2, _), (3, _), (4, _), (5, _), (6, _), (7, _), (8, _), (9, _), (10, _)]) dL_law_969 (by decide) rfl rfl ?_
          refine VB_iinc (q := 974) (y := 36) (lv' := [(0, _), (1, _), (2, _), (3, _), (4, _), (5, _), (6, _), (7, _), (8, _), (9, _), (10, _)]) dL_law_971 8 rfl (by omega) (by decide) rfl rfl ?_
          refine VB_goto (tgt := 64) dL_law_974 (by decide) ?_
          refine VB_loc (lv' := [(0, _), (1, _), (2, _), (3, _), (4, _), (5, _), (6, _), (7, _), (8, _)]) [0, 1, 2, 3, 4, 5, 6, 7, 8] rfl ?_
          refine VB_lo (lo' := 123) (by omega) ?_
          exact VB_widen (by omega) (by omega) (rd36 hL h16 hx S F g886 hI (fun _ => hK) hg886)
set_option maxRecDepth 100000 in
set_option maxHeartbeats 8000000 in
theorem rd35 {s0 L : Nat} {xs : Nat → Int32} {a : Nat → Nat} {c : Nat → ClassId} {b : Nat → Nat} {d : Nat → ClassId} (hL : L ≤ 260) (h16 : 80 ≤ L) (hx : ∀ j, j < 80 → xs j = 31) : ∀ (S : St) (F : Nat → Nat → Int32) (g : Nat → Nat), Iv S F 4 → (0 < 35 → sK S 0 = 0) → (∀ j, g j < 4096) → VB 123 RL cL_law 17 (some .boolean) wsL_law roomB (vXL s0 L xs) (tyl c d) (qF 123) (4622) (27732 + 1250) (wal a c S b d F g) 64 [(0, .ref (s0)), (1, .ref (a 0)), (2, .ref (b 0)), (3, .ref (b 1)), (4, .ref (b 2)), (5, .ref (b 3)), (6, .ref (b 4)), (7, .int (iZ 1)), (8, .int (iZ 35))] [] := by
  intro S F g hI hK hg
  obtain ⟨ho, hn, hm4, hM0, hG, hC⟩ := id hI
  refine VB_iload (q := 66) dL_law_64 8 rfl rfl ?_
  refine VB_bipush (q := 68) dL_law_66 (by decide) rfl ?_
  refine VB_icmp_ge (q := 71) (tgt := 977) dL_law_68 (by decide) (by decide) (by decide) (fun hc => absurd hc (by decide)) (fun _ => ?_)
  refine VB_iload (q := 73) dL_law_71 7 rfl rfl ?_
  refine VB_if_eq (q := 76) (tgt := 977) dL_law_73 (by decide) (by decide) (fun hc => absurd hc (by decide)) (fun _ => ?_)
  refine VB_aload_n (q := 77) dL_law_76 0 rfl rfl ?_
  refine VB_iload (q := 79) dL_law_77 8 rfl rfl ?_
  refine VB_callD (q := 82) dL_law_79 (u_dice (b := s0) (L := L) (xs := xs) 35 (by omega) hL (hx 35 (by omega))) yv_L_dice rfl gL_law_L_dice xL_s rfl (Nat.le_of_ble_eq_true rfl) (by decide) ⟨by show _ ≤ 20000; omega, by show _ ≤ 130000; omega⟩ ?_
  refine VB_istore (q := 84) (lv' := [(0, _), (1, _), (2, _), (3, _), (4, _), (5, _), (6, _), (7, _), (8, _), (9, _)]) dL_law_82 (by decide) rfl rfl ?_
  refine VB_iload (q := 86) dL_law_84 9 rfl rfl ?_
  refine VB_bipush (q := 88) dL_law_86 (by decide) rfl ?_
  refine VB_idiv (q := 89) (a := 31) (b := 32) dL_law_88 (by omega) (by decide) (by decide) rfl ?_
  refine VB_top (y := iZ 0) rfl ?_
  refine VB_istore (q := 91) (lv' := [(0, _), (1, _), (2, _), (3, _), (4, _), (5, _), (6, _), (7, _), (8, _), (9, _), (10, _)]) dL_law_89 (by decide) rfl rfl ?_
  refine VB_iload (q := 93) dL_law_91 9 rfl rfl ?_
  refine VB_bipush (q := 95) dL_law_93 (by decide) rfl ?_
  refine VB_irem (q := 96) (a := 31) (b := 32) dL_law_95 (by omega) (by decide) (by decide) rfl ?_
  refine VB_top (y := iZ 31) rfl ?_
  refine VB_istore (q := 98) (lv' := [(0, _), (1, _), (2, _), (3, _), (4, _), (5, _), (6, _), (7, _), (8, _), (9, _), (10, _), (11, _)]) dL_law_96 (by decide) rfl rfl ?_
  refine VB_aload (q := 100) dL_law_98 6 rfl rfl ?_
  refine VB_iconst (q := 101) dL_law_100 rfl ?_
  refine VB_iald (q := 102) (v := (iZ 4)) dL_law_101 13 12 rfl rfl (0) (by omega) (by omega) (by decide) (hM0) rfl ?_
  refine VB_if_ne (q := 105) (tgt := 109) dL_law_102 (by decide) (by decide) (fun _ => ?_) (fun hc => absurd hc (by decide))
  refine VB_iload (q := 111) dL_law_109 10 rfl rfl ?_
  refine VB_aload (q := 113) dL_law_111 6 rfl rfl ?_
  refine VB_iconst (q := 114) dL_law_113 rfl ?_
  refine VB_iald (q := 115) (v := (iZ 4)) dL_law_114 13 12 rfl rfl (0) (by omega) (by omega) (by decide) (hM0) rfl ?_
  refine VB_irem (q := 116) (a := 0) (b := 4) dL_law_115 (by omega) (by decide) (by decide) rfl ?_
  refine VB_top (y := iZ 0) rfl ?_
  refine VB_istore (q := 118) (lv' := [(0, _), (1, _), (2, _), (3, _), (4, _), (5, _), (6, _), (7, _), (8, _), (9, _), (10, _), (11, _), (12, _)]) dL_law_116 (by decide) rfl rfl ?_
  refine VB_aload (q := 120) dL_law_118 6 rfl rfl ?_
  refine VB_iconst (q := 121) dL_law_120 rfl ?_
  refine VB_iald (q := 122) (v := (iZ 4)) dL_law_121 13 12 rfl rfl (0) (by omega) (by omega) (by decide) (hM0) rfl ?_
  refine VB_iconst (q := 123) dL_law_122 rfl ?_
  refine VB_icmp_lt (q := 126) (tgt := 141) dL_law_123 (by decide) (by decide) (by decide) (fun hc => absurd hc (by decide)) (fun _ => ?_)
  refine VB_iload (q := 128) dL_law_126 11 rfl rfl ?_
  refine VB_iconst (q := 129) dL_law_128 rfl ?_
  refine VB_icmp_ge (q := 132) (tgt := 326) dL_law_129 (by decide) (by decide) (by decide) (fun _ => ?_) (fun hc => absurd hc (by decide))
  refine VB_iload (q := 328) dL_law_326 11 rfl rfl ?_
  refine VB_bipush (q := 330) dL_law_328 (by decide) rfl ?_
  refine VB_icmp_ge (q := 333) (tgt := 451) dL_law_330 (by decide) (by decide) (by decide) (fun _ => ?_) (fun hc => absurd hc (by decide))
  refine VB_iload (q := 453) dL_law_451 11 rfl rfl ?_
  refine VB_bipush (q := 455) dL_law_453 (by decide) rfl ?_
  refine VB_icmp_ge (q := 458) (tgt := 603) dL_law_455 (by decide) (by decide) (by decide) (fun _ => ?_) (fun hc => absurd hc (by decide))
  refine VB_iload (q := 605) dL_law_603 11 rfl rfl ?_
  refine VB_bipush (q := 607) dL_law_605 (by decide) rfl ?_
  refine VB_icmp_ge (q := 610) (tgt := 633) dL_law_607 (by decide) (by decide) (by decide) (fun _ => ?_) (fun hc => absurd hc (by decide))
  refine VB_iload (q := 635) dL_law_633 11 rfl rfl ?_
  refine VB_bipush (q := 637) dL_law_635 (by decide) rfl ?_
  refine VB_icmp_ge (q := 640) (tgt := 677) dL_law_637 (by decide) (by decide) (by decide) (fun _ => ?_) (fun hc => absurd hc (by decide))
  refine VB_iload (q := 679) dL_law_677 11 rfl rfl ?_
  refine VB_bipush (q := 681) dL_law_679 (by decide) rfl ?_
  refine VB_icmp_ne (q := 684) (tgt := 783) dL_law_681 (by decide) (by decide) (by decide) (fun _ => ?_) (fun hc => absurd hc (by decide))
  refine VB_loc (lv' := [(0, _), (1, _), (2, _), (3, _), (4, _), (5, _), (6, _), (7, _), (8, _), (9, _), (10, _)]) [0, 1, 2, 3, 4, 5, 6, 7, 8, 9, 10] rfl ?_
  exact VB_widen (by omega) (by omega) (ck35 hL h16 hx S F g hI (hK (by decide)) hg)
set_option maxRecDepth 100000 in
set_option maxHeartbeats 8000000 in
theorem ck34 {s0 L : Nat} {xs : Nat → Int32} {a : Nat → Nat} {c : Nat → ClassId} {b : Nat → Nat} {d : Nat → ClassId} (hL : L ≤ 260) (h16 : 80 ≤ L) (hx : ∀ j, j < 80 → xs j = 31) : ∀ (S : St) (F : Nat → Nat → Int32) (g : Nat → Nat), Iv S F 4 → sK S 0 = 0 → (∀ j, g j < 4096) → VB 123 RL cL_law 17 (some .boolean) wsL_law roomB (vXL s0 L xs) (tyl c d) (qF 123) (4402) (26412 + 1250) (wal a c S b d F g) 783 [(0, .ref (s0)), (1, .ref (a 0)), (2, .ref (b 0)), (3, .ref (b 1)), (4, .ref (b 2)), (5, .ref (b 3)), (6, .ref (b 4)), (7, .int (iZ 1)), (8, .int (iZ 34)), (9, .int (iZ 31)), (10, .int (iZ 0))] [] := by
  intro S F g hI hK hg
  obtain ⟨ho, hn, hm4, hM0, hG, hC⟩ := id hI
  refine VB_iload (q := 785) dL_law_783 7 rfl rfl ?_
  refine VB_if_eq (q := 788) (tgt := 968) dL_law_785 (by decide) (by decide) (fun hc => absurd hc (by decide)) (fun _ => ?_)
  refine VB_aload_n (q := 789) dL_law_788 1 rfl rfl ?_
  refine VB_aload_n (q := 790) dL_law_789 2 rfl rfl ?_
  refine VB_aload_n (q := 791) dL_law_790 3 rfl rfl ?_
  refine VB_aload (q := 793) dL_law_791 6 rfl rfl ?_
  refine VB_callU (q := 796) dL_law_793 (u_areThings (a := a) (c := c) (S := S) (b := b) (d := d) (F := F) hI hg) yv_L_areThings rfl gL_law_L_areThings xU_L rfl (Nat.le_of_ble_eq_true rfl) (by decide) ⟨by show _ ≤ 20000; omega, by show _ ≤ 130000; omega⟩ (fun x793 g793 hP793 hg793 => ?_)
  refine VB_lo (lo' := 123) (Nat.le_add_right _ _) ?_
  have J968 : ∀ (gj968 : Nat → Nat), (∀ j, gj968 j < 4096) → VB 123 RL cL_law 17 (some .boolean) wsL_law roomB (vXL s0 L xs) (tyl c d) (qF 123) (4622) (27732 + 1250) (wal a c S b d F gj968) 968 [(0, .ref (s0)), (1, .ref (a 0)), (2, .ref (b 0)), (3, .ref (b 1)), (4, .ref (b 2)), (5, .ref (b 3)), (6, .ref (b 4)), (7, .int (iZ 1)), (8, .int (iZ 34)), (9, .int (iZ 31)), (10, .int (iZ 0))] [] := by
    intro gj968 hgj968
    refine VB_iconst (q := 969) dL_law_968 rfl ?_
    refine VB_istore (q := 971) (lv' := [(0, _), (1, _), (2, _), (3, _), (4, _), (5, _), (6, _), (7, _), (8, _), (9, _), (10, _)]) dL_law_969 (by decide) rfl rfl ?_
    refine VB_iinc (q := 974) (y := 35) (lv' := [(0, _), (1, _), (2, _), (3, _), (4, _), (5, _), (6, _), (7, _), (8, _), (9, _), (10, _)]) dL_law_971 8 rfl (by omega) (by decide) rfl rfl ?_
    refine VB_goto (tgt := 64) dL_law_974 (by decide) ?_
    refine VB_iload (q := 66) dL_law_64 8 rfl rfl ?_
    refine VB_bipush (q := 68) dL_law_66 (by decide) rfl ?_
    refine VB_icmp_ge (q := 71) (tgt := 977) dL_law_68 (by decide) (by decide) (by decide) (fun hc => absurd hc (by decide)) (fun _ => ?_)
    refine VB_iload (q := 73) dL_law_71 7 rfl rfl ?_
    refine VB_if_eq (q := 76) (tgt := 977) dL_law_73 (by decide) (by decide) (fun _ => ?_) (fun hc => absurd hc (by decide))
    refine VB_iload (q := 979) dL_law_977 7 rfl rfl ?_
    exact VB_ret0 dL_law_979 rfl
  refine VB_uif_eq (q := 799) (tgt := 968) dL_law_796 (by decide) ?_ ?_
  · skip
    exact VB_widen (by omega) (by omega) (J968 g793 hg793)
  · skip
    refine VB_iload (q := 801) dL_law_799 8 rfl rfl ?_
    refine VB_iconst (q := 802) dL_law_801 rfl ?_
    refine VB_irem (q := 803) (a := 34) (b := 2) dL_law_802 (by omega) (by decide) (by decide) rfl ?_
    refine VB_top (y := iZ 0) rfl ?_
    refine VB_if_gt (q := 806) (tgt := 833) dL_law_803 (by decide) (by decide) (fun hc => absurd hc (by decide)) (fun _ => ?_)
    refine VB_aload_n (q := 807) dL_law_806 1 rfl rfl ?_
    refine VB_aload_n (q := 808) dL_law_807 2 rfl rfl ?_
    refine VB_aload_n (q := 809) dL_law_808 3 rfl rfl ?_
    refine VB_aload (q := 811) dL_law_809 4 rfl rfl ?_
    refine VB_aload (q := 813) dL_law_811 6 rfl rfl ?_
    refine VB_iload (q := 815) dL_law_813 10 rfl rfl ?_
    refine VB_bipush (q := 817) dL_law_815 (by decide) rfl ?_
    refine VB_irem (q := 818) (a := 0) (b := 31) dL_law_817 (by omega) (by decide) (by decide) rfl ?_
    refine VB_top (y := iZ 0) rfl ?_
    refine VB_iload (q := 820) dL_law_818 10 rfl rfl ?_
    refine VB_bipush (q := 822) dL_law_820 (by decide) rfl ?_
    refine VB_idiv (q := 823) (a := 0) (b := 31) dL_law_822 (by omega) (by decide) (by decide) rfl ?_
    refine VB_top (y := iZ 0) rfl ?_
    refine VB_sipush (q := 826) dL_law_823 (by decide) rfl ?_
    refine VB_irem (q := 827) (a := 0) (b := 256) dL_law_826 (by omega) (by decide) (by decide) rfl ?_
    refine VB_top (y := iZ 0) rfl ?_
    refine VB_callU (q := 830) dL_law_827 (u_areOutfits (a := a) (c := c) (S := S) (b := b) (d := d) (F := F) hI hg793) yv_L_areOutfits rfl gL_law_L_areOutfits xU_L rfl (Nat.le_of_ble_eq_true rfl) (by decide) ⟨by show _ ≤ 20000; omega, by show _ ≤ 130000; omega⟩ (fun x827 g827 hP827 hg827 => ?_)
    refine VB_lo (lo' := 123) (Nat.le_add_right _ _) ?_
    refine VB_uif_eq (q := 833) (tgt := 968) dL_law_830 (by decide) ?_ ?_
    · skip
      exact VB_widen (by omega) (by omega) (J968 g827 hg827)
    · skip
      refine VB_aload_n (q := 834) dL_law_833 1 rfl rfl ?_
      refine VB_aload_n (q := 835) dL_law_834 2 rfl rfl ?_
      refine VB_aload_n (q := 836) dL_law_835 3 rfl rfl ?_
      refine VB_aload (q := 838) dL_law_836 4 rfl rfl ?_
      refine VB_aload (q := 840) dL_law_838 6 rfl rfl ?_
      refine VB_callU (q := 843) dL_law_840 (u_isMissing (a := a) (c := c) (S := S) (b := b) (d := d) (F := F) hI hg827) yv_L_isMissing rfl gL_law_L_isMissing xU_L rfl (Nat.le_of_ble_eq_true rfl) (by decide) ⟨by show _ ≤ 20000; omega, by show _ ≤ 130000; omega⟩ (fun x840 g840 hP840 hg840 => ?_)
      refine VB_lo (lo' := 123) (Nat.le_add_right _ _) ?_
      refine VB_uif_eq (q := 846) (tgt := 968) dL_law_843 (by decide) ?_ ?_
      · skip
        exact VB_widen (by omega) (by omega) (J968 g840 hg840)
      · skip
        refine VB_aload_n (q := 847) dL_law_846 1 rfl rfl ?_
        refine VB_aload_n (q := 848) dL_law_847 2 rfl rfl ?_
        refine VB_aload (q := 850) dL_law_848 6 rfl rfl ?_
        refine VB_iload (q := 852) dL_law_850 10 rfl rfl ?_
        refine VB_aload (q := 854) dL_law_852 6 rfl rfl ?_
        refine VB_iconst (q := 855) dL_law_854 rfl ?_
        refine VB_iald (q := 856) (v := (iZ 4)) dL_law_855 13 12 rfl rfl (0) (by omega) (by omega) (by decide) (hM0) rfl ?_
        refine VB_iconst (q := 857) dL_law_856 rfl ?_
        refine VB_iadd (q := 858) dL_law_857 rfl ?_
        refine VB_top (y := iZ 5) rfl ?_
        refine VB_irem (q := 859) (a := 0) (b := 5) dL_law_858 (by omega) (by decide) (by decide) rfl ?_
        refine VB_top (y := iZ 0) rfl ?_
        refine VB_iload (q := 861) dL_law_859 10 rfl rfl ?_
        refine VB_bipush (q := 863) dL_law_861 (by decide) rfl ?_
        refine VB_idiv (q := 864) (a := 0) (b := 13) dL_law_863 (by omega) (by decide) (by decide) rfl ?_
        refine VB_top (y := iZ 0) rfl ?_
        refine VB_aload (q := 866) dL_law_864 6 rfl rfl ?_
        refine VB_iconst (q := 867) dL_law_866 rfl ?_
        refine VB_iald (q := 868) (v := (iZ 4)) dL_law_867 13 12 rfl rfl (0) (by omega) (by omega) (by decide) (hM0) rfl ?_
        refine VB_iconst (q := 869) dL_law_868 rfl ?_
        refine VB_iadd (q := 870) dL_law_869 rfl ?_
        refine VB_top (y := iZ 5) rfl ?_
        refine VB_irem (q := 871) (a := 0) (b := 5) dL_law_870 (by omega) (by decide) (by decide) rfl ?_
        refine VB_top (y := iZ 0) rfl ?_
        refine VB_iload (q := 873) dL_law_871 10 rfl rfl ?_
        refine VB_sipush (q := 876) dL_law_873 (by decide) rfl ?_
        refine VB_idiv (q := 877) (a := 0) (b := 169) dL_law_876 (by omega) (by decide) (by decide) rfl ?_
        refine VB_top (y := iZ 0) rfl ?_
        refine VB_aload (q := 879) dL_law_877 6 rfl rfl ?_
        refine VB_iconst (q := 880) dL_law_879 rfl ?_
        refine VB_iald (q := 881) (v := (iZ 4)) dL_law_880 13 12 rfl rfl (0) (by omega) (by omega) (by decide) (hM0) rfl ?_
        refine VB_iconst (q := 882) dL_law_881 rfl ?_
        refine VB_iadd (q := 883) dL_law_882 rfl ?_
        refine VB_top (y := iZ 6) rfl ?_
        refine VB_irem (q := 884) (a := 0) (b := 6) dL_law_883 (by omega) (by decide) (by decide) rfl ?_
        refine VB_top (y := iZ 0) rfl ?_
        refine VB_iconst (q := 885) dL_law_884 rfl ?_
        refine VB_isub (q := 886) dL_law_885 rfl ?_
        refine VB_top (y := iZ (-1)) rfl ?_
        refine VB_callU (q := 889) dL_law_886 (u_isWrong (a := a) (c := c) (S := S) (b := b) (d := d) (F := F) hI (wr0 hI (by decide) hK) hg840) yv_L_isWrong rfl gL_law_L_isWrong xU_L rfl (Nat.le_of_ble_eq_true rfl) (by decide) ⟨by show _ ≤ 20000; omega, by show _ ≤ 130000; omega⟩ (fun x886 g886 hP886 hg886 => ?_)
        refine VB_em (x := x886) (fun e886 => VB_lo (lo' := 123) (Nat.le_add_right _ _) (VB_top (y := iZ 0) e886 ?_)) (fun e886 => VB_lo (lo' := 125) (by show 125 ≤ 123 + (if x886 = 0 then 0 else 2); rw [if_neg e886]; omega) ?_)
        · skip
          refine VB_if_eq (q := 892) (tgt := 968) dL_law_889 (by decide) (by decide) (fun _ => ?_) (fun hc => absurd hc (by decide))
          exact VB_widen (by omega) (by omega) (J968 g886 hg886)
        · skip
          refine VB_uif_eq (q := 892) (tgt := 968) dL_law_889 (by decide) ?_ ?_
          · skip
            refine VB_lo (lo' := 123) (by omega) ?_
            exact VB_widen (by omega) (by omega) (J968 g886 hg886)
          · skip
            refine VB_iload (q := 894) dL_law_892 8 rfl rfl ?_
            refine VB_bipush (q := 896) dL_law_894 (by decide) rfl ?_
            refine VB_irem (q := 897) (a := 34) (b := 16) dL_law_896 (by omega) (by decide) (by decide) rfl ?_
            refine VB_top (y := iZ 2) rfl ?_
            refine VB_if_gt (q := 900) (tgt := 943) dL_law_897 (by decide) (by decide) (fun _ => ?_) (fun hc => absurd hc (by decide))
            refine VB_iload (q := 945) dL_law_943 8 rfl rfl ?_
            refine VB_bipush (q := 947) dL_law_945 (by decide) rfl ?_
            refine VB_irem (q := 948) (a := 34) (b := 20) dL_law_947 (by omega) (by decide) (by decide) rfl ?_
            refine VB_top (y := iZ 14) rfl ?_
            refine VB_if_gt (q := 951) (tgt := 964) dL_law_948 (by decide) (by decide) (fun _ => ?_) (fun hc => absurd hc (by decide))
            refine VB_iconst (q := 965) dL_law_964 rfl ?_
            refine VB_goto (tgt := 969) dL_law_965 (by decide) ?_
            refine VB_istore (q := 971) (lv' := [(0, _), (1, _), (2, _), (3, _), (4, _), (5, _), (6, _), (7, _), (8, _), (9, _), (10, _)]) dL_law_969 (by decide) rfl rfl ?_
            refine VB_iinc (q := 974) (y := 35) (lv' := [(0, _), (1, _), (2, _), (3, _), (4, _), (5, _), (6, _), (7, _), (8, _), (9, _), (10, _)]) dL_law_971 8 rfl (by omega) (by decide) rfl rfl ?_
            refine VB_goto (tgt := 64) dL_law_974 (by decide) ?_
            refine VB_loc (lv' := [(0, _), (1, _), (2, _), (3, _), (4, _), (5, _), (6, _), (7, _), (8, _)]) [0, 1, 2, 3, 4, 5, 6, 7, 8] rfl ?_
            refine VB_lo (lo' := 123) (by omega) ?_
            exact VB_widen (by omega) (by omega) (rd35 hL h16 hx S F g886 hI (fun _ => hK) hg886)
set_option maxRecDepth 100000 in
set_option maxHeartbeats 8000000 in
theorem rd34 {s0 L : Nat} {xs : Nat → Int32} {a : Nat → Nat} {c : Nat → ClassId} {b : Nat → Nat} {d : Nat → ClassId} (hL : L ≤ 260) (h16 : 80 ≤ L) (hx : ∀ j, j < 80 → xs j = 31) : ∀ (S : St) (F : Nat → Nat → Int32) (g : Nat → Nat), Iv S F 4 → (0 < 34 → sK S 0 = 0) → (∀ j, g j < 4096) → VB 123 RL cL_law 17 (some .boolean) wsL_law roomB (vXL s0 L xs) (tyl c d) (qF 123) (4402) (26412 + 1250) (wal a c S b d F g) 64 [(0, .ref (s0)), (1, .ref (a 0)), (2, .ref (b 0)), (3, .ref (b 1)), (4, .ref (b 2)), (5, .ref (b 3)), (6, .ref (b 4)), (7, .int (iZ 1)), (8, .int (iZ 34))] [] := by
  intro S F g hI hK hg
  obtain ⟨ho, hn, hm4, hM0, hG, hC⟩ := id hI
  refine VB_iload (q := 66) dL_law_64 8 rfl rfl ?_
  refine VB_bipush (q := 68) dL_law_66 (by decide) rfl ?_
  refine VB_icmp_ge (q := 71) (tgt := 977) dL_law_68 (by decide) (by decide) (by decide) (fun hc => absurd hc (by decide)) (fun _ => ?_)
  refine VB_iload (q := 73) dL_law_71 7 rfl rfl ?_
  refine VB_if_eq (q := 76) (tgt := 977) dL_law_73 (by decide) (by decide) (fun hc => absurd hc (by decide)) (fun _ => ?_)
  refine VB_aload_n (q := 77) dL_law_76 0 rfl rfl ?_
  refine VB_iload (q := 79) dL_law_77 8 rfl rfl ?_
  refine VB_callD (q := 82) dL_law_79 (u_dice (b := s0) (L := L) (xs := xs) 34 (by omega) hL (hx 34 (by omega))) yv_L_dice rfl gL_law_L_dice xL_s rfl (Nat.le_of_ble_eq_true rfl) (by decide) ⟨by show _ ≤ 20000; omega, by show _ ≤ 130000; omega⟩ ?_
  refine VB_istore (q := 84) (lv' := [(0, _), (1, _), (2, _), (3, _), (4, _), (5, _), (6, _), (7, _), (8, _), (9, _)]) dL_law_82 (by decide) rfl rfl ?_
  refine VB_iload (q := 86) dL_law_84 9 rfl rfl ?_
  refine VB_bipush (q := 88) dL_law_86 (by decide) rfl ?_
  refine VB_idiv (q := 89) (a := 31) (b := 32) dL_law_88 (by omega) (by decide) (by decide) rfl ?_
  refine VB_top (y := iZ 0) rfl ?_
  refine VB_istore (q := 91) (lv' := [(0, _), (1, _), (2, _), (3, _), (4, _), (5, _), (6, _), (7, _), (8, _), (9, _), (10, _)]) dL_law_89 (by decide) rfl rfl ?_
  refine VB_iload (q := 93) dL_law_91 9 rfl rfl ?_
  refine VB_bipush (q := 95) dL_law_93 (by decide) rfl ?_
  refine VB_irem (q := 96) (a := 31) (b := 32) dL_law_95 (by omega) (by decide) (by decide) rfl ?_
  refine VB_top (y := iZ 31) rfl ?_
  refine VB_istore (q := 98) (lv' := [(0, _), (1, _), (2, _), (3, _), (4, _), (5, _), (6, _), (7, _), (8, _), (9, _), (10, _), (11, _)]) dL_law_96 (by decide) rfl rfl ?_
  refine VB_aload (q := 100) dL_law_98 6 rfl rfl ?_
  refine VB_iconst (q := 101) dL_law_100 rfl ?_
  refine VB_iald (q := 102) (v := (iZ 4)) dL_law_101 13 12 rfl rfl (0) (by omega) (by omega) (by decide) (hM0) rfl ?_
  refine VB_if_ne (q := 105) (tgt := 109) dL_law_102 (by decide) (by decide) (fun _ => ?_) (fun hc => absurd hc (by decide))
  refine VB_iload (q := 111) dL_law_109 10 rfl rfl ?_
  refine VB_aload (q := 113) dL_law_111 6 rfl rfl ?_
  refine VB_iconst (q := 114) dL_law_113 rfl ?_
  refine VB_iald (q := 115) (v := (iZ 4)) dL_law_114 13 12 rfl rfl (0) (by omega) (by omega) (by decide) (hM0) rfl ?_
  refine VB_irem (q := 116) (a := 0) (b := 4) dL_law_115 (by omega) (by decide) (by decide) rfl ?_
  refine VB_top (y := iZ 0) rfl ?_
  refine VB_istore (q := 118) (lv' := [(0, _), (1, _), (2, _), (3, _), (4, _), (5, _), (6, _), (7, _), (8, _), (9, _), (10, _), (11, _), (12, _)]) dL_law_116 (by decide) rfl rfl ?_
  refine VB_aload (q := 120) dL_law_118 6 rfl rfl ?_
  refine VB_iconst (q := 121) dL_law_120 rfl ?_
  refine VB_iald (q := 122) (v := (iZ 4)) dL_law_121 13 12 rfl rfl (0) (by omega) (by omega) (by decide) (hM0) rfl ?_
  refine VB_iconst (q := 123) dL_law_122 rfl ?_
  refine VB_icmp_lt (q := 126) (tgt := 141) dL_law_123 (by decide) (by decide) (by decide) (fun hc => absurd hc (by decide)) (fun _ => ?_)
  refine VB_iload (q := 128) dL_law_126 11 rfl rfl ?_
  refine VB_iconst (q := 129) dL_law_128 rfl ?_
  refine VB_icmp_ge (q := 132) (tgt := 326) dL_law_129 (by decide) (by decide) (by decide) (fun _ => ?_) (fun hc => absurd hc (by decide))
  refine VB_iload (q := 328) dL_law_326 11 rfl rfl ?_
  refine VB_bipush (q := 330) dL_law_328 (by decide) rfl ?_
  refine VB_icmp_ge (q := 333) (tgt := 451) dL_law_330 (by decide) (by decide) (by decide) (fun _ => ?_) (fun hc => absurd hc (by decide))
  refine VB_iload (q := 453) dL_law_451 11 rfl rfl ?_
  refine VB_bipush (q := 455) dL_law_453 (by decide) rfl ?_
  refine VB_icmp_ge (q := 458) (tgt := 603) dL_law_455 (by decide) (by decide) (by decide) (fun _ => ?_) (fun hc => absurd hc (by decide))
  refine VB_iload (q := 605) dL_law_603 11 rfl rfl ?_
  refine VB_bipush (q := 607) dL_law_605 (by decide) rfl ?_
  refine VB_icmp_ge (q := 610) (tgt := 633) dL_law_607 (by decide) (by decide) (by decide) (fun _ => ?_) (fun hc => absurd hc (by decide))
  refine VB_iload (q := 635) dL_law_633 11 rfl rfl ?_
  refine VB_bipush (q := 637) dL_law_635 (by decide) rfl ?_
  refine VB_icmp_ge (q := 640) (tgt := 677) dL_law_637 (by decide) (by decide) (by decide) (fun _ => ?_) (fun hc => absurd hc (by decide))
  refine VB_iload (q := 679) dL_law_677 11 rfl rfl ?_
  refine VB_bipush (q := 681) dL_law_679 (by decide) rfl ?_
  refine VB_icmp_ne (q := 684) (tgt := 783) dL_law_681 (by decide) (by decide) (by decide) (fun _ => ?_) (fun hc => absurd hc (by decide))
  refine VB_loc (lv' := [(0, _), (1, _), (2, _), (3, _), (4, _), (5, _), (6, _), (7, _), (8, _), (9, _), (10, _)]) [0, 1, 2, 3, 4, 5, 6, 7, 8, 9, 10] rfl ?_
  exact VB_widen (by omega) (by omega) (ck34 hL h16 hx S F g hI (hK (by decide)) hg)
set_option maxRecDepth 100000 in
set_option maxHeartbeats 8000000 in
theorem ck33 {s0 L : Nat} {xs : Nat → Int32} {a : Nat → Nat} {c : Nat → ClassId} {b : Nat → Nat} {d : Nat → ClassId} (hL : L ≤ 260) (h16 : 80 ≤ L) (hx : ∀ j, j < 80 → xs j = 31) : ∀ (S : St) (F : Nat → Nat → Int32) (g : Nat → Nat), Iv S F 4 → sK S 0 = 0 → (∀ j, g j < 4096) → VB 123 RL cL_law 17 (some .boolean) wsL_law roomB (vXL s0 L xs) (tyl c d) (qF 123) (4382) (26292 + 1250) (wal a c S b d F g) 783 [(0, .ref (s0)), (1, .ref (a 0)), (2, .ref (b 0)), (3, .ref (b 1)), (4, .ref (b 2)), (5, .ref (b 3)), (6, .ref (b 4)), (7, .int (iZ 1)), (8, .int (iZ 33)), (9, .int (iZ 31)), (10, .int (iZ 0))] [] := by
  intro S F g hI hK hg
  obtain ⟨ho, hn, hm4, hM0, hG, hC⟩ := id hI
  refine VB_iload (q := 785) dL_law_783 7 rfl rfl ?_
  refine VB_if_eq (q := 788) (tgt := 968) dL_law_785 (by decide) (by decide) (fun hc => absurd hc (by decide)) (fun _ => ?_)
  refine VB_aload_n (q := 789) dL_law_788 1 rfl rfl ?_
  refine VB_aload_n (q := 790) dL_law_789 2 rfl rfl ?_
  refine VB_aload_n (q := 791) dL_law_790 3 rfl rfl ?_
  refine VB_aload (q := 793) dL_law_791 6 rfl rfl ?_
  refine VB_callU (q := 796) dL_law_793 (u_areThings (a := a) (c := c) (S := S) (b := b) (d := d) (F := F) hI hg) yv_L_areThings rfl gL_law_L_areThings xU_L rfl (Nat.le_of_ble_eq_true rfl) (by decide) ⟨by show _ ≤ 20000; omega, by show _ ≤ 130000; omega⟩ (fun x793 g793 hP793 hg793 => ?_)
  refine VB_lo (lo' := 123) (Nat.le_add_right _ _) ?_
  have J968 : ∀ (gj968 : Nat → Nat), (∀ j, gj968 j < 4096) → VB 123 RL cL_law 17 (some .boolean) wsL_law roomB (vXL s0 L xs) (tyl c d) (qF 123) (4402) (26412 + 1250) (wal a c S b d F gj968) 968 [(0, .ref (s0)), (1, .ref (a 0)), (2, .ref (b 0)), (3, .ref (b 1)), (4, .ref (b 2)), (5, .ref (b 3)), (6, .ref (b 4)), (7, .int (iZ 1)), (8, .int (iZ 33)), (9, .int (iZ 31)), (10, .int (iZ 0))] [] := by
    intro gj968 hgj968
    refine VB_iconst (q := 969) dL_law_968 rfl ?_
    refine VB_istore (q := 971) (lv' := [(0, _), (1, _), (2, _), (3, _), (4, _), (5, _), (6, _), (7, _), (8, _), (9, _), (10, _)]) dL_law_969 (by decide) rfl rfl ?_
    refine VB_iinc (q := 974) (y := 34) (lv' := [(0, _), (1, _), (2, _), (3, _), (4, _), (5, _), (6, _), (7, _), (8, _), (9, _), (10, _)]) dL_law_971 8 rfl (by omega) (by decide) rfl rfl ?_
    refine VB_goto (tgt := 64) dL_law_974 (by decide) ?_
    refine VB_iload (q := 66) dL_law_64 8 rfl rfl ?_
    refine VB_bipush (q := 68) dL_law_66 (by decide) rfl ?_
    refine VB_icmp_ge (q := 71) (tgt := 977) dL_law_68 (by decide) (by decide) (by decide) (fun hc => absurd hc (by decide)) (fun _ => ?_)
    refine VB_iload (q := 73) dL_law_71 7 rfl rfl ?_
    refine VB_if_eq (q := 76) (tgt := 977) dL_law_73 (by decide) (by decide) (fun _ => ?_) (fun hc => absurd hc (by decide))
    refine VB_iload (q := 979) dL_law_977 7 rfl rfl ?_
    exact VB_ret0 dL_law_979 rfl
  refine VB_uif_eq (q := 799) (tgt := 968) dL_law_796 (by decide) ?_ ?_
  · skip
    exact VB_widen (by omega) (by omega) (J968 g793 hg793)
  · skip
    refine VB_iload (q := 801) dL_law_799 8 rfl rfl ?_
    refine VB_iconst (q := 802) dL_law_801 rfl ?_
    refine VB_irem (q := 803) (a := 33) (b := 2) dL_law_802 (by omega) (by decide) (by decide) rfl ?_
    refine VB_top (y := iZ 1) rfl ?_
    refine VB_if_gt (q := 806) (tgt := 833) dL_law_803 (by decide) (by decide) (fun _ => ?_) (fun hc => absurd hc (by decide))
    refine VB_aload_n (q := 834) dL_law_833 1 rfl rfl ?_
    refine VB_aload_n (q := 835) dL_law_834 2 rfl rfl ?_
    refine VB_aload_n (q := 836) dL_law_835 3 rfl rfl ?_
    refine VB_aload (q := 838) dL_law_836 4 rfl rfl ?_
    refine VB_aload (q := 840) dL_law_838 6 rfl rfl ?_
    refine VB_callU (q := 843) dL_law_840 (u_isMissing (a := a) (c := c) (S := S) (b := b) (d := d) (F := F) hI hg793) yv_L_isMissing rfl gL_law_L_isMissing xU_L rfl (Nat.le_of_ble_eq_true rfl) (by decide) ⟨by show _ ≤ 20000; omega, by show _ ≤ 130000; omega⟩ (fun x840 g840 hP840 hg840 => ?_)
    refine VB_lo (lo' := 123) (Nat.le_add_right _ _) ?_
    refine VB_uif_eq (q := 846) (tgt := 968) dL_law_843 (by decide) ?_ ?_
    · skip
      exact VB_widen (by omega) (by omega) (J968 g840 hg840)
    · skip
      refine VB_aload_n (q := 847) dL_law_846 1 rfl rfl ?_
      refine VB_aload_n (q := 848) dL_law_847 2 rfl rfl ?_
      refine VB_aload (q := 850) dL_law_848 6 rfl rfl ?_
      refine VB_iload (q := 852) dL_law_850 10 rfl rfl ?_
      refine VB_aload (q := 854) dL_law_852 6 rfl rfl ?_
      refine VB_iconst (q := 855) dL_law_854 rfl ?_
      refine VB_iald (q := 856) (v := (iZ 4)) dL_law_855 13 12 rfl rfl (0) (by omega) (by omega) (by decide) (hM0) rfl ?_
      refine VB_iconst (q := 857) dL_law_856 rfl ?_
      refine VB_iadd (q := 858) dL_law_857 rfl ?_
      refine VB_top (y := iZ 5) rfl ?_
      refine VB_irem (q := 859) (a := 0) (b := 5) dL_law_858 (by omega) (by decide) (by decide) rfl ?_
      refine VB_top (y := iZ 0) rfl ?_
      refine VB_iload (q := 861) dL_law_859 10 rfl rfl ?_
      refine VB_bipush (q := 863) dL_law_861 (by decide) rfl ?_
      refine VB_idiv (q := 864) (a := 0) (b := 13) dL_law_863 (by omega) (by decide) (by decide) rfl ?_
      refine VB_top (y := iZ 0) rfl ?_
      refine VB_aload (q := 866) dL_law_864 6 rfl rfl ?_
      refine VB_iconst (q := 867) dL_law_866 rfl ?_
      refine VB_iald (q := 868) (v := (iZ 4)) dL_law_867 13 12 rfl rfl (0) (by omega) (by omega) (by decide) (hM0) rfl ?_
      refine VB_iconst (q := 869) dL_law_868 rfl ?_
      refine VB_iadd (q := 870) dL_law_869 rfl ?_
      refine VB_top (y := iZ 5) rfl ?_
      refine VB_irem (q := 871) (a := 0) (b := 5) dL_law_870 (by omega) (by decide) (by decide) rfl ?_
      refine VB_top (y := iZ 0) rfl ?_
      refine VB_iload (q := 873) dL_law_871 10 rfl rfl ?_
      refine VB_sipush (q := 876) dL_law_873 (by decide) rfl ?_
      refine VB_idiv (q := 877) (a := 0) (b := 169) dL_law_876 (by omega) (by decide) (by decide) rfl ?_
      refine VB_top (y := iZ 0) rfl ?_
      refine VB_aload (q := 879) dL_law_877 6 rfl rfl ?_
      refine VB_iconst (q := 880) dL_law_879 rfl ?_
      refine VB_iald (q := 881) (v := (iZ 4)) dL_law_880 13 12 rfl rfl (0) (by omega) (by omega) (by decide) (hM0) rfl ?_
      refine VB_iconst (q := 882) dL_law_881 rfl ?_
      refine VB_iadd (q := 883) dL_law_882 rfl ?_
      refine VB_top (y := iZ 6) rfl ?_
      refine VB_irem (q := 884) (a := 0) (b := 6) dL_law_883 (by omega) (by decide) (by decide) rfl ?_
      refine VB_top (y := iZ 0) rfl ?_
      refine VB_iconst (q := 885) dL_law_884 rfl ?_
      refine VB_isub (q := 886) dL_law_885 rfl ?_
      refine VB_top (y := iZ (-1)) rfl ?_
      refine VB_callU (q := 889) dL_law_886 (u_isWrong (a := a) (c := c) (S := S) (b := b) (d := d) (F := F) hI (wr0 hI (by decide) hK) hg840) yv_L_isWrong rfl gL_law_L_isWrong xU_L rfl (Nat.le_of_ble_eq_true rfl) (by decide) ⟨by show _ ≤ 20000; omega, by show _ ≤ 130000; omega⟩ (fun x886 g886 hP886 hg886 => ?_)
      refine VB_em (x := x886) (fun e886 => VB_lo (lo' := 123) (Nat.le_add_right _ _) (VB_top (y := iZ 0) e886 ?_)) (fun e886 => VB_lo (lo' := 125) (by show 125 ≤ 123 + (if x886 = 0 then 0 else 2); rw [if_neg e886]; omega) ?_)
      · skip
        refine VB_if_eq (q := 892) (tgt := 968) dL_law_889 (by decide) (by decide) (fun _ => ?_) (fun hc => absurd hc (by decide))
        exact VB_widen (by omega) (by omega) (J968 g886 hg886)
      · skip
        refine VB_uif_eq (q := 892) (tgt := 968) dL_law_889 (by decide) ?_ ?_
        · skip
          refine VB_lo (lo' := 123) (by omega) ?_
          exact VB_widen (by omega) (by omega) (J968 g886 hg886)
        · skip
          refine VB_iload (q := 894) dL_law_892 8 rfl rfl ?_
          refine VB_bipush (q := 896) dL_law_894 (by decide) rfl ?_
          refine VB_irem (q := 897) (a := 33) (b := 16) dL_law_896 (by omega) (by decide) (by decide) rfl ?_
          refine VB_top (y := iZ 1) rfl ?_
          refine VB_if_gt (q := 900) (tgt := 943) dL_law_897 (by decide) (by decide) (fun _ => ?_) (fun hc => absurd hc (by decide))
          refine VB_iload (q := 945) dL_law_943 8 rfl rfl ?_
          refine VB_bipush (q := 947) dL_law_945 (by decide) rfl ?_
          refine VB_irem (q := 948) (a := 33) (b := 20) dL_law_947 (by omega) (by decide) (by decide) rfl ?_
          refine VB_top (y := iZ 13) rfl ?_
          refine VB_if_gt (q := 951) (tgt := 964) dL_law_948 (by decide) (by decide) (fun _ => ?_) (fun hc => absurd hc (by decide))
          refine VB_iconst (q := 965) dL_law_964 rfl ?_
          refine VB_goto (tgt := 969) dL_law_965 (by decide) ?_
          refine VB_istore (q := 971) (lv' := [(0, _), (1, _), (2, _), (3, _), (4, _), (5, _), (6, _), (7, _), (8, _), (9, _), (10, _)]) dL_law_969 (by decide) rfl rfl ?_
          refine VB_iinc (q := 974) (y := 34) (lv' := [(0, _), (1, _), (2, _), (3, _), (4, _), (5, _), (6, _), (7, _), (8, _), (9, _), (10, _)]) dL_law_971 8 rfl (by omega) (by decide) rfl rfl ?_
          refine VB_goto (tgt := 64) dL_law_974 (by decide) ?_
          refine VB_loc (lv' := [(0, _), (1, _), (2, _), (3, _), (4, _), (5, _), (6, _), (7, _), (8, _)]) [0, 1, 2, 3, 4, 5, 6, 7, 8] rfl ?_
          refine VB_lo (lo' := 123) (by omega) ?_
          exact VB_widen (by omega) (by omega) (rd34 hL h16 hx S F g886 hI (fun _ => hK) hg886)
set_option maxRecDepth 100000 in
set_option maxHeartbeats 8000000 in
theorem rd33 {s0 L : Nat} {xs : Nat → Int32} {a : Nat → Nat} {c : Nat → ClassId} {b : Nat → Nat} {d : Nat → ClassId} (hL : L ≤ 260) (h16 : 80 ≤ L) (hx : ∀ j, j < 80 → xs j = 31) : ∀ (S : St) (F : Nat → Nat → Int32) (g : Nat → Nat), Iv S F 4 → (0 < 33 → sK S 0 = 0) → (∀ j, g j < 4096) → VB 123 RL cL_law 17 (some .boolean) wsL_law roomB (vXL s0 L xs) (tyl c d) (qF 123) (4382) (26292 + 1250) (wal a c S b d F g) 64 [(0, .ref (s0)), (1, .ref (a 0)), (2, .ref (b 0)), (3, .ref (b 1)), (4, .ref (b 2)), (5, .ref (b 3)), (6, .ref (b 4)), (7, .int (iZ 1)), (8, .int (iZ 33))] [] := by
  intro S F g hI hK hg
  obtain ⟨ho, hn, hm4, hM0, hG, hC⟩ := id hI
  refine VB_iload (q := 66) dL_law_64 8 rfl rfl ?_
  refine VB_bipush (q := 68) dL_law_66 (by decide) rfl ?_
  refine VB_icmp_ge (q := 71) (tgt := 977) dL_law_68 (by decide) (by decide) (by decide) (fun hc => absurd hc (by decide)) (fun _ => ?_)
  refine VB_iload (q := 73) dL_law_71 7 rfl rfl ?_
  refine VB_if_eq (q := 76) (tgt := 977) dL_law_73 (by decide) (by decide) (fun hc => absurd hc (by decide)) (fun _ => ?_)
  refine VB_aload_n (q := 77) dL_law_76 0 rfl rfl ?_
  refine VB_iload (q := 79) dL_law_77 8 rfl rfl ?_
  refine VB_callD (q := 82) dL_law_79 (u_dice (b := s0) (L := L) (xs := xs) 33 (by omega) hL (hx 33 (by omega))) yv_L_dice rfl gL_law_L_dice xL_s rfl (Nat.le_of_ble_eq_true rfl) (by decide) ⟨by show _ ≤ 20000; omega, by show _ ≤ 130000; omega⟩ ?_
  refine VB_istore (q := 84) (lv' := [(0, _), (1, _), (2, _), (3, _), (4, _), (5, _), (6, _), (7, _), (8, _), (9, _)]) dL_law_82 (by decide) rfl rfl ?_
  refine VB_iload (q := 86) dL_law_84 9 rfl rfl ?_
  refine VB_bipush (q := 88) dL_law_86 (by decide) rfl ?_
  refine VB_idiv (q := 89) (a := 31) (b := 32) dL_law_88 (by omega) (by decide) (by decide) rfl ?_
  refine VB_top (y := iZ 0) rfl ?_
  refine VB_istore (q := 91) (lv' := [(0, _), (1, _), (2, _), (3, _), (4, _), (5, _), (6, _), (7, _), (8, _), (9, _), (10, _)]) dL_law_89 (by decide) rfl rfl ?_
  refine VB_iload (q := 93) dL_law_91 9 rfl rfl ?_
  refine VB_bipush (q := 95) dL_law_93 (by decide) rfl ?_
  refine VB_irem (q := 96) (a := 31) (b := 32) dL_law_95 (by omega) (by decide) (by decide) rfl ?_
  refine VB_top (y := iZ 31) rfl ?_
  refine VB_istore (q := 98) (lv' := [(0, _), (1, _), (2, _), (3, _), (4, _), (5, _), (6, _), (7, _), (8, _), (9, _), (10, _), (11, _)]) dL_law_96 (by decide) rfl rfl ?_
  refine VB_aload (q := 100) dL_law_98 6 rfl rfl ?_
  refine VB_iconst (q := 101) dL_law_100 rfl ?_
  refine VB_iald (q := 102) (v := (iZ 4)) dL_law_101 13 12 rfl rfl (0) (by omega) (by omega) (by decide) (hM0) rfl ?_
  refine VB_if_ne (q := 105) (tgt := 109) dL_law_102 (by decide) (by decide) (fun _ => ?_) (fun hc => absurd hc (by decide))
  refine VB_iload (q := 111) dL_law_109 10 rfl rfl ?_
  refine VB_aload (q := 113) dL_law_111 6 rfl rfl ?_
  refine VB_iconst (q := 114) dL_law_113 rfl ?_
  refine VB_iald (q := 115) (v := (iZ 4)) dL_law_114 13 12 rfl rfl (0) (by omega) (by omega) (by decide) (hM0) rfl ?_
  refine VB_irem (q := 116) (a := 0) (b := 4) dL_law_115 (by omega) (by decide) (by decide) rfl ?_
  refine VB_top (y := iZ 0) rfl ?_
  refine VB_istore (q := 118) (lv' := [(0, _), (1, _), (2, _), (3, _), (4, _), (5, _), (6, _), (7, _), (8, _), (9, _), (10, _), (11, _), (12, _)]) dL_law_116 (by decide) rfl rfl ?_
  refine VB_aload (q := 120) dL_law_118 6 rfl rfl ?_
  refine VB_iconst (q := 121) dL_law_120 rfl ?_
  refine VB_iald (q := 122) (v := (iZ 4)) dL_law_121 13 12 rfl rfl (0) (by omega) (by omega) (by decide) (hM0) rfl ?_
  refine VB_iconst (q := 123) dL_law_122 rfl ?_
  refine VB_icmp_lt (q := 126) (tgt := 141) dL_law_123 (by decide) (by decide) (by decide) (fun hc => absurd hc (by decide)) (fun _ => ?_)
  refine VB_iload (q := 128) dL_law_126 11 rfl rfl ?_
  refine VB_iconst (q := 129) dL_law_128 rfl ?_
  refine VB_icmp_ge (q := 132) (tgt := 326) dL_law_129 (by decide) (by decide) (by decide) (fun _ => ?_) (fun hc => absurd hc (by decide))
  refine VB_iload (q := 328) dL_law_326 11 rfl rfl ?_
  refine VB_bipush (q := 330) dL_law_328 (by decide) rfl ?_
  refine VB_icmp_ge (q := 333) (tgt := 451) dL_law_330 (by decide) (by decide) (by decide) (fun _ => ?_) (fun hc => absurd hc (by decide))
  refine VB_iload (q := 453) dL_law_451 11 rfl rfl ?_
  refine VB_bipush (q := 455) dL_law_453 (by decide) rfl ?_
  refine VB_icmp_ge (q := 458) (tgt := 603) dL_law_455 (by decide) (by decide) (by decide) (fun _ => ?_) (fun hc => absurd hc (by decide))
  refine VB_iload (q := 605) dL_law_603 11 rfl rfl ?_
  refine VB_bipush (q := 607) dL_law_605 (by decide) rfl ?_
  refine VB_icmp_ge (q := 610) (tgt := 633) dL_law_607 (by decide) (by decide) (by decide) (fun _ => ?_) (fun hc => absurd hc (by decide))
  refine VB_iload (q := 635) dL_law_633 11 rfl rfl ?_
  refine VB_bipush (q := 637) dL_law_635 (by decide) rfl ?_
  refine VB_icmp_ge (q := 640) (tgt := 677) dL_law_637 (by decide) (by decide) (by decide) (fun _ => ?_) (fun hc => absurd hc (by decide))
  refine VB_iload (q := 679) dL_law_677 11 rfl rfl ?_
  refine VB_bipush (q := 681) dL_law_679 (by decide) rfl ?_
  refine VB_icmp_ne (q := 684) (tgt := 783) dL_law_681 (by decide) (by decide) (by decide) (fun _ => ?_) (fun hc => absurd hc (by decide))
  refine VB_loc (lv' := [(0, _), (1, _), (2, _), (3, _), (4, _), (5, _), (6, _), (7, _), (8, _), (9, _), (10, _)]) [0, 1, 2, 3, 4, 5, 6, 7, 8, 9, 10] rfl ?_
  exact VB_widen (by omega) (by omega) (ck33 hL h16 hx S F g hI (hK (by decide)) hg)
set_option maxRecDepth 100000 in
set_option maxHeartbeats 8000000 in
theorem ck32 {s0 L : Nat} {xs : Nat → Int32} {a : Nat → Nat} {c : Nat → ClassId} {b : Nat → Nat} {d : Nat → ClassId} (hL : L ≤ 260) (h16 : 80 ≤ L) (hx : ∀ j, j < 80 → xs j = 31) : ∀ (S : St) (F : Nat → Nat → Int32) (g : Nat → Nat), Iv S F 4 → sK S 0 = 0 → (∀ j, g j < 4096) → VB 123 RL cL_law 17 (some .boolean) wsL_law roomB (vXL s0 L xs) (tyl c d) (qF 123) (4146) (24876 + 1250) (wal a c S b d F g) 783 [(0, .ref (s0)), (1, .ref (a 0)), (2, .ref (b 0)), (3, .ref (b 1)), (4, .ref (b 2)), (5, .ref (b 3)), (6, .ref (b 4)), (7, .int (iZ 1)), (8, .int (iZ 32)), (9, .int (iZ 31)), (10, .int (iZ 0))] [] := by
  intro S F g hI hK hg
  obtain ⟨ho, hn, hm4, hM0, hG, hC⟩ := id hI
  refine VB_iload (q := 785) dL_law_783 7 rfl rfl ?_
  refine VB_if_eq (q := 788) (tgt := 968) dL_law_785 (by decide) (by decide) (fun hc => absurd hc (by decide)) (fun _ => ?_)
  refine VB_aload_n (q := 789) dL_law_788 1 rfl rfl ?_
  refine VB_aload_n (q := 790) dL_law_789 2 rfl rfl ?_
  refine VB_aload_n (q := 791) dL_law_790 3 rfl rfl ?_
  refine VB_aload (q := 793) dL_law_791 6 rfl rfl ?_
  refine VB_callU (q := 796) dL_law_793 (u_areThings (a := a) (c := c) (S := S) (b := b) (d := d) (F := F) hI hg) yv_L_areThings rfl gL_law_L_areThings xU_L rfl (Nat.le_of_ble_eq_true rfl) (by decide) ⟨by show _ ≤ 20000; omega, by show _ ≤ 130000; omega⟩ (fun x793 g793 hP793 hg793 => ?_)
  refine VB_lo (lo' := 123) (Nat.le_add_right _ _) ?_
  have J968 : ∀ (gj968 : Nat → Nat), (∀ j, gj968 j < 4096) → VB 123 RL cL_law 17 (some .boolean) wsL_law roomB (vXL s0 L xs) (tyl c d) (qF 123) (4382) (26292 + 1250) (wal a c S b d F gj968) 968 [(0, .ref (s0)), (1, .ref (a 0)), (2, .ref (b 0)), (3, .ref (b 1)), (4, .ref (b 2)), (5, .ref (b 3)), (6, .ref (b 4)), (7, .int (iZ 1)), (8, .int (iZ 32)), (9, .int (iZ 31)), (10, .int (iZ 0))] [] := by
    intro gj968 hgj968
    refine VB_iconst (q := 969) dL_law_968 rfl ?_
    refine VB_istore (q := 971) (lv' := [(0, _), (1, _), (2, _), (3, _), (4, _), (5, _), (6, _), (7, _), (8, _), (9, _), (10, _)]) dL_law_969 (by decide) rfl rfl ?_
    refine VB_iinc (q := 974) (y := 33) (lv' := [(0, _), (1, _), (2, _), (3, _), (4, _), (5, _), (6, _), (7, _), (8, _), (9, _), (10, _)]) dL_law_971 8 rfl (by omega) (by decide) rfl rfl ?_
    refine VB_goto (tgt := 64) dL_law_974 (by decide) ?_
    refine VB_iload (q := 66) dL_law_64 8 rfl rfl ?_
    refine VB_bipush (q := 68) dL_law_66 (by decide) rfl ?_
    refine VB_icmp_ge (q := 71) (tgt := 977) dL_law_68 (by decide) (by decide) (by decide) (fun hc => absurd hc (by decide)) (fun _ => ?_)
    refine VB_iload (q := 73) dL_law_71 7 rfl rfl ?_
    refine VB_if_eq (q := 76) (tgt := 977) dL_law_73 (by decide) (by decide) (fun _ => ?_) (fun hc => absurd hc (by decide))
    refine VB_iload (q := 979) dL_law_977 7 rfl rfl ?_
    exact VB_ret0 dL_law_979 rfl
  refine VB_uif_eq (q := 799) (tgt := 968) dL_law_796 (by decide) ?_ ?_
  · skip
    exact VB_widen (by omega) (by omega) (J968 g793 hg793)
  · skip
    refine VB_iload (q := 801) dL_law_799 8 rfl rfl ?_
    refine VB_iconst (q := 802) dL_law_801 rfl ?_
    refine VB_irem (q := 803) (a := 32) (b := 2) dL_law_802 (by omega) (by decide) (by decide) rfl ?_
    refine VB_top (y := iZ 0) rfl ?_
    refine VB_if_gt (q := 806) (tgt := 833) dL_law_803 (by decide) (by decide) (fun hc => absurd hc (by decide)) (fun _ => ?_)
    refine VB_aload_n (q := 807) dL_law_806 1 rfl rfl ?_
    refine VB_aload_n (q := 808) dL_law_807 2 rfl rfl ?_
    refine VB_aload_n (q := 809) dL_law_808 3 rfl rfl ?_
    refine VB_aload (q := 811) dL_law_809 4 rfl rfl ?_
    refine VB_aload (q := 813) dL_law_811 6 rfl rfl ?_
    refine VB_iload (q := 815) dL_law_813 10 rfl rfl ?_
    refine VB_bipush (q := 817) dL_law_815 (by decide) rfl ?_
    refine VB_irem (q := 818) (a := 0) (b := 31) dL_law_817 (by omega) (by decide) (by decide) rfl ?_
    refine VB_top (y := iZ 0) rfl ?_
    refine VB_iload (q := 820) dL_law_818 10 rfl rfl ?_
    refine VB_bipush (q := 822) dL_law_820 (by decide) rfl ?_
    refine VB_idiv (q := 823) (a := 0) (b := 31) dL_law_822 (by omega) (by decide) (by decide) rfl ?_
    refine VB_top (y := iZ 0) rfl ?_
    refine VB_sipush (q := 826) dL_law_823 (by decide) rfl ?_
    refine VB_irem (q := 827) (a := 0) (b := 256) dL_law_826 (by omega) (by decide) (by decide) rfl ?_
    refine VB_top (y := iZ 0) rfl ?_
    refine VB_callU (q := 830) dL_law_827 (u_areOutfits (a := a) (c := c) (S := S) (b := b) (d := d) (F := F) hI hg793) yv_L_areOutfits rfl gL_law_L_areOutfits xU_L rfl (Nat.le_of_ble_eq_true rfl) (by decide) ⟨by show _ ≤ 20000; omega, by show _ ≤ 130000; omega⟩ (fun x827 g827 hP827 hg827 => ?_)
    refine VB_lo (lo' := 123) (Nat.le_add_right _ _) ?_
    refine VB_uif_eq (q := 833) (tgt := 968) dL_law_830 (by decide) ?_ ?_
    · skip
      exact VB_widen (by omega) (by omega) (J968 g827 hg827)
    · skip
      refine VB_aload_n (q := 834) dL_law_833 1 rfl rfl ?_
      refine VB_aload_n (q := 835) dL_law_834 2 rfl rfl ?_
      refine VB_aload_n (q := 836) dL_law_835 3 rfl rfl ?_
      refine VB_aload (q := 838) dL_law_836 4 rfl rfl ?_
      refine VB_aload (q := 840) dL_law_838 6 rfl rfl ?_
      refine VB_callU (q := 843) dL_law_840 (u_isMissing (a := a) (c := c) (S := S) (b := b) (d := d) (F := F) hI hg827) yv_L_isMissing rfl gL_law_L_isMissing xU_L rfl (Nat.le_of_ble_eq_true rfl) (by decide) ⟨by show _ ≤ 20000; omega, by show _ ≤ 130000; omega⟩ (fun x840 g840 hP840 hg840 => ?_)
      refine VB_lo (lo' := 123) (Nat.le_add_right _ _) ?_
      refine VB_uif_eq (q := 846) (tgt := 968) dL_law_843 (by decide) ?_ ?_
      · skip
        exact VB_widen (by omega) (by omega) (J968 g840 hg840)
      · skip
        refine VB_aload_n (q := 847) dL_law_846 1 rfl rfl ?_
        refine VB_aload_n (q := 848) dL_law_847 2 rfl rfl ?_
        refine VB_aload (q := 850) dL_law_848 6 rfl rfl ?_
        refine VB_iload (q := 852) dL_law_850 10 rfl rfl ?_
        refine VB_aload (q := 854) dL_law_852 6 rfl rfl ?_
        refine VB_iconst (q := 855) dL_law_854 rfl ?_
        refine VB_iald (q := 856) (v := (iZ 4)) dL_law_855 13 12 rfl rfl (0) (by omega) (by omega) (by decide) (hM0) rfl ?_
        refine VB_iconst (q := 857) dL_law_856 rfl ?_
        refine VB_iadd (q := 858) dL_law_857 rfl ?_
        refine VB_top (y := iZ 5) rfl ?_
        refine VB_irem (q := 859) (a := 0) (b := 5) dL_law_858 (by omega) (by decide) (by decide) rfl ?_
        refine VB_top (y := iZ 0) rfl ?_
        refine VB_iload (q := 861) dL_law_859 10 rfl rfl ?_
        refine VB_bipush (q := 863) dL_law_861 (by decide) rfl ?_
        refine VB_idiv (q := 864) (a := 0) (b := 13) dL_law_863 (by omega) (by decide) (by decide) rfl ?_
        refine VB_top (y := iZ 0) rfl ?_
        refine VB_aload (q := 866) dL_law_864 6 rfl rfl ?_
        refine VB_iconst (q := 867) dL_law_866 rfl ?_
        refine VB_iald (q := 868) (v := (iZ 4)) dL_law_867 13 12 rfl rfl (0) (by omega) (by omega) (by decide) (hM0) rfl ?_
        refine VB_iconst (q := 869) dL_law_868 rfl ?_
        refine VB_iadd (q := 870) dL_law_869 rfl ?_
        refine VB_top (y := iZ 5) rfl ?_
        refine VB_irem (q := 871) (a := 0) (b := 5) dL_law_870 (by omega) (by decide) (by decide) rfl ?_
        refine VB_top (y := iZ 0) rfl ?_
        refine VB_iload (q := 873) dL_law_871 10 rfl rfl ?_
        refine VB_sipush (q := 876) dL_law_873 (by decide) rfl ?_
        refine VB_idiv (q := 877) (a := 0) (b := 169) dL_law_876 (by omega) (by decide) (by decide) rfl ?_
        refine VB_top (y := iZ 0) rfl ?_
        refine VB_aload (q := 879) dL_law_877 6 rfl rfl ?_
        refine VB_iconst (q := 880) dL_law_879 rfl ?_
        refine VB_iald (q := 881) (v := (iZ 4)) dL_law_880 13 12 rfl rfl (0) (by omega) (by omega) (by decide) (hM0) rfl ?_
        refine VB_iconst (q := 882) dL_law_881 rfl ?_
        refine VB_iadd (q := 883) dL_law_882 rfl ?_
        refine VB_top (y := iZ 6) rfl ?_
        refine VB_irem (q := 884) (a := 0) (b := 6) dL_law_883 (by omega) (by decide) (by decide) rfl ?_
        refine VB_top (y := iZ 0) rfl ?_
        refine VB_iconst (q := 885) dL_law_884 rfl ?_
        refine VB_isub (q := 886) dL_law_885 rfl ?_
        refine VB_top (y := iZ (-1)) rfl ?_
        refine VB_callU (q := 889) dL_law_886 (u_isWrong (a := a) (c := c) (S := S) (b := b) (d := d) (F := F) hI (wr0 hI (by decide) hK) hg840) yv_L_isWrong rfl gL_law_L_isWrong xU_L rfl (Nat.le_of_ble_eq_true rfl) (by decide) ⟨by show _ ≤ 20000; omega, by show _ ≤ 130000; omega⟩ (fun x886 g886 hP886 hg886 => ?_)
        refine VB_em (x := x886) (fun e886 => VB_lo (lo' := 123) (Nat.le_add_right _ _) (VB_top (y := iZ 0) e886 ?_)) (fun e886 => VB_lo (lo' := 125) (by show 125 ≤ 123 + (if x886 = 0 then 0 else 2); rw [if_neg e886]; omega) ?_)
        · skip
          refine VB_if_eq (q := 892) (tgt := 968) dL_law_889 (by decide) (by decide) (fun _ => ?_) (fun hc => absurd hc (by decide))
          exact VB_widen (by omega) (by omega) (J968 g886 hg886)
        · skip
          refine VB_uif_eq (q := 892) (tgt := 968) dL_law_889 (by decide) ?_ ?_
          · skip
            refine VB_lo (lo' := 123) (by omega) ?_
            exact VB_widen (by omega) (by omega) (J968 g886 hg886)
          · skip
            refine VB_iload (q := 894) dL_law_892 8 rfl rfl ?_
            refine VB_bipush (q := 896) dL_law_894 (by decide) rfl ?_
            refine VB_irem (q := 897) (a := 32) (b := 16) dL_law_896 (by omega) (by decide) (by decide) rfl ?_
            refine VB_top (y := iZ 0) rfl ?_
            refine VB_if_gt (q := 900) (tgt := 943) dL_law_897 (by decide) (by decide) (fun hc => absurd hc (by decide)) (fun _ => ?_)
            refine VB_aload_n (q := 901) dL_law_900 1 rfl rfl ?_
            refine VB_aload_n (q := 902) dL_law_901 2 rfl rfl ?_
            refine VB_aload_n (q := 903) dL_law_902 3 rfl rfl ?_
            refine VB_aload (q := 905) dL_law_903 6 rfl rfl ?_
            refine VB_iload (q := 907) dL_law_905 10 rfl rfl ?_
            refine VB_bipush (q := 909) dL_law_907 (by decide) rfl ?_
            refine VB_idiv (q := 910) (a := 0) (b := 13) dL_law_909 (by omega) (by decide) (by decide) rfl ?_
            refine VB_top (y := iZ 0) rfl ?_
            refine VB_iconst (q := 911) dL_law_910 rfl ?_
            refine VB_iload (q := 913) dL_law_911 10 rfl rfl ?_
            refine VB_bipush (q := 915) dL_law_913 (by decide) rfl ?_
            refine VB_irem (q := 916) (a := 0) (b := 20) dL_law_915 (by omega) (by decide) (by decide) rfl ?_
            refine VB_top (y := iZ 0) rfl ?_
            refine VB_iadd (q := 917) dL_law_916 rfl ?_
            refine VB_top (y := iZ 1) rfl ?_
            refine VB_iload (q := 919) dL_law_917 10 rfl rfl ?_
            refine VB_bipush (q := 921) dL_law_919 (by decide) rfl ?_
            refine VB_idiv (q := 922) (a := 0) (b := 20) dL_law_921 (by omega) (by decide) (by decide) rfl ?_
            refine VB_top (y := iZ 0) rfl ?_
            refine VB_iload (q := 924) dL_law_922 10 rfl rfl ?_
            refine VB_iconst (q := 925) dL_law_924 rfl ?_
            refine VB_irem (q := 926) (a := 0) (b := 3) dL_law_925 (by omega) (by decide) (by decide) rfl ?_
            refine VB_top (y := iZ 0) rfl ?_
            refine VB_if_ne (q := 929) (tgt := 934) dL_law_926 (by decide) (by decide) (fun hc => absurd hc (by decide)) (fun _ => ?_)
            refine VB_bipush (q := 931) dL_law_929 (by decide) rfl ?_
            refine VB_goto (tgt := 936) dL_law_931 (by decide) ?_
            refine VB_irem (q := 937) (a := 0) (b := 21) dL_law_936 (by omega) (by decide) (by decide) rfl ?_
            refine VB_top (y := iZ 0) rfl ?_
            refine VB_callU (q := 940) dL_law_937 (u_isBag (a := a) (c := c) (S := S) (b := b) (d := d) (F := F) hI hg886) yv_L_isBag rfl gL_law_L_isBag xU_L rfl (Nat.le_of_ble_eq_true rfl) (by decide) ⟨by show _ ≤ 20000; omega, by show _ ≤ 130000; omega⟩ (fun x937 g937 hP937 hg937 => ?_)
            refine VB_lo (lo' := 125) (Nat.le_add_right _ _) ?_
            refine VB_uif_eq (q := 943) (tgt := 968) dL_law_940 (by decide) ?_ ?_
            · skip
              refine VB_lo (lo' := 123) (by omega) ?_
              exact VB_widen (by omega) (by omega) (J968 g937 hg937)
            · skip
              refine VB_iload (q := 945) dL_law_943 8 rfl rfl ?_
              refine VB_bipush (q := 947) dL_law_945 (by decide) rfl ?_
              refine VB_irem (q := 948) (a := 32) (b := 20) dL_law_947 (by omega) (by decide) (by decide) rfl ?_
              refine VB_top (y := iZ 12) rfl ?_
              refine VB_if_gt (q := 951) (tgt := 964) dL_law_948 (by decide) (by decide) (fun _ => ?_) (fun hc => absurd hc (by decide))
              refine VB_iconst (q := 965) dL_law_964 rfl ?_
              refine VB_goto (tgt := 969) dL_law_965 (by decide) ?_
              refine VB_istore (q := 971) (lv' := [(0, _), (1, _), (2, _), (3, _), (4, _), (5, _), (6, _), (7, _), (8, _), (9, _), (10, _)]) dL_law_969 (by decide) rfl rfl ?_
              refine VB_iinc (q := 974) (y := 33) (lv' := [(0, _), (1, _), (2, _), (3, _), (4, _), (5, _), (6, _), (7, _), (8, _), (9, _), (10, _)]) dL_law_971 8 rfl (by omega) (by decide) rfl rfl ?_
              refine VB_goto (tgt := 64) dL_law_974 (by decide) ?_
              refine VB_loc (lv' := [(0, _), (1, _), (2, _), (3, _), (4, _), (5, _), (6, _), (7, _), (8, _)]) [0, 1, 2, 3, 4, 5, 6, 7, 8] rfl ?_
              refine VB_lo (lo' := 123) (by omega) ?_
              exact VB_widen (by omega) (by omega) (rd33 hL h16 hx S F g937 hI (fun _ => hK) hg937)
set_option maxRecDepth 100000 in
set_option maxHeartbeats 8000000 in
theorem rd32 {s0 L : Nat} {xs : Nat → Int32} {a : Nat → Nat} {c : Nat → ClassId} {b : Nat → Nat} {d : Nat → ClassId} (hL : L ≤ 260) (h16 : 80 ≤ L) (hx : ∀ j, j < 80 → xs j = 31) : ∀ (S : St) (F : Nat → Nat → Int32) (g : Nat → Nat), Iv S F 4 → (0 < 32 → sK S 0 = 0) → (∀ j, g j < 4096) → VB 123 RL cL_law 17 (some .boolean) wsL_law roomB (vXL s0 L xs) (tyl c d) (qF 123) (4146) (24876 + 1250) (wal a c S b d F g) 64 [(0, .ref (s0)), (1, .ref (a 0)), (2, .ref (b 0)), (3, .ref (b 1)), (4, .ref (b 2)), (5, .ref (b 3)), (6, .ref (b 4)), (7, .int (iZ 1)), (8, .int (iZ 32))] [] := by
  intro S F g hI hK hg
  obtain ⟨ho, hn, hm4, hM0, hG, hC⟩ := id hI
  refine VB_iload (q := 66) dL_law_64 8 rfl rfl ?_
  refine VB_bipush (q := 68) dL_law_66 (by decide) rfl ?_
  refine VB_icmp_ge (q := 71) (tgt := 977) dL_law_68 (by decide) (by decide) (by decide) (fun hc => absurd hc (by decide)) (fun _ => ?_)
  refine VB_iload (q := 73) dL_law_71 7 rfl rfl ?_
  refine VB_if_eq (q := 76) (tgt := 977) dL_law_73 (by decide) (by decide) (fun hc => absurd hc (by decide)) (fun _ => ?_)
  refine VB_aload_n (q := 77) dL_law_76 0 rfl rfl ?_
  refine VB_iload (q := 79) dL_law_77 8 rfl rfl ?_
  refine VB_callD (q := 82) dL_law_79 (u_dice (b := s0) (L := L) (xs := xs) 32 (by omega) hL (hx 32 (by omega))) yv_L_dice rfl gL_law_L_dice xL_s rfl (Nat.le_of_ble_eq_true rfl) (by decide) ⟨by show _ ≤ 20000; omega, by show _ ≤ 130000; omega⟩ ?_
  refine VB_istore (q := 84) (lv' := [(0, _), (1, _), (2, _), (3, _), (4, _), (5, _), (6, _), (7, _), (8, _), (9, _)]) dL_law_82 (by decide) rfl rfl ?_
  refine VB_iload (q := 86) dL_law_84 9 rfl rfl ?_
  refine VB_bipush (q := 88) dL_law_86 (by decide) rfl ?_
  refine VB_idiv (q := 89) (a := 31) (b := 32) dL_law_88 (by omega) (by decide) (by decide) rfl ?_
  refine VB_top (y := iZ 0) rfl ?_
  refine VB_istore (q := 91) (lv' := [(0, _), (1, _), (2, _), (3, _), (4, _), (5, _), (6, _), (7, _), (8, _), (9, _), (10, _)]) dL_law_89 (by decide) rfl rfl ?_
  refine VB_iload (q := 93) dL_law_91 9 rfl rfl ?_
  refine VB_bipush (q := 95) dL_law_93 (by decide) rfl ?_
  refine VB_irem (q := 96) (a := 31) (b := 32) dL_law_95 (by omega) (by decide) (by decide) rfl ?_
  refine VB_top (y := iZ 31) rfl ?_
  refine VB_istore (q := 98) (lv' := [(0, _), (1, _), (2, _), (3, _), (4, _), (5, _), (6, _), (7, _), (8, _), (9, _), (10, _), (11, _)]) dL_law_96 (by decide) rfl rfl ?_
  refine VB_aload (q := 100) dL_law_98 6 rfl rfl ?_
  refine VB_iconst (q := 101) dL_law_100 rfl ?_
  refine VB_iald (q := 102) (v := (iZ 4)) dL_law_101 13 12 rfl rfl (0) (by omega) (by omega) (by decide) (hM0) rfl ?_
  refine VB_if_ne (q := 105) (tgt := 109) dL_law_102 (by decide) (by decide) (fun _ => ?_) (fun hc => absurd hc (by decide))
  refine VB_iload (q := 111) dL_law_109 10 rfl rfl ?_
  refine VB_aload (q := 113) dL_law_111 6 rfl rfl ?_
  refine VB_iconst (q := 114) dL_law_113 rfl ?_
  refine VB_iald (q := 115) (v := (iZ 4)) dL_law_114 13 12 rfl rfl (0) (by omega) (by omega) (by decide) (hM0) rfl ?_
  refine VB_irem (q := 116) (a := 0) (b := 4) dL_law_115 (by omega) (by decide) (by decide) rfl ?_
  refine VB_top (y := iZ 0) rfl ?_
  refine VB_istore (q := 118) (lv' := [(0, _), (1, _), (2, _), (3, _), (4, _), (5, _), (6, _), (7, _), (8, _), (9, _), (10, _), (11, _), (12, _)]) dL_law_116 (by decide) rfl rfl ?_
  refine VB_aload (q := 120) dL_law_118 6 rfl rfl ?_
  refine VB_iconst (q := 121) dL_law_120 rfl ?_
  refine VB_iald (q := 122) (v := (iZ 4)) dL_law_121 13 12 rfl rfl (0) (by omega) (by omega) (by decide) (hM0) rfl ?_
  refine VB_iconst (q := 123) dL_law_122 rfl ?_
  refine VB_icmp_lt (q := 126) (tgt := 141) dL_law_123 (by decide) (by decide) (by decide) (fun hc => absurd hc (by decide)) (fun _ => ?_)
  refine VB_iload (q := 128) dL_law_126 11 rfl rfl ?_
  refine VB_iconst (q := 129) dL_law_128 rfl ?_
  refine VB_icmp_ge (q := 132) (tgt := 326) dL_law_129 (by decide) (by decide) (by decide) (fun _ => ?_) (fun hc => absurd hc (by decide))
  refine VB_iload (q := 328) dL_law_326 11 rfl rfl ?_
  refine VB_bipush (q := 330) dL_law_328 (by decide) rfl ?_
  refine VB_icmp_ge (q := 333) (tgt := 451) dL_law_330 (by decide) (by decide) (by decide) (fun _ => ?_) (fun hc => absurd hc (by decide))
  refine VB_iload (q := 453) dL_law_451 11 rfl rfl ?_
  refine VB_bipush (q := 455) dL_law_453 (by decide) rfl ?_
  refine VB_icmp_ge (q := 458) (tgt := 603) dL_law_455 (by decide) (by decide) (by decide) (fun _ => ?_) (fun hc => absurd hc (by decide))
  refine VB_iload (q := 605) dL_law_603 11 rfl rfl ?_
  refine VB_bipush (q := 607) dL_law_605 (by decide) rfl ?_
  refine VB_icmp_ge (q := 610) (tgt := 633) dL_law_607 (by decide) (by decide) (by decide) (fun _ => ?_) (fun hc => absurd hc (by decide))
  refine VB_iload (q := 635) dL_law_633 11 rfl rfl ?_
  refine VB_bipush (q := 637) dL_law_635 (by decide) rfl ?_
  refine VB_icmp_ge (q := 640) (tgt := 677) dL_law_637 (by decide) (by decide) (by decide) (fun _ => ?_) (fun hc => absurd hc (by decide))
  refine VB_iload (q := 679) dL_law_677 11 rfl rfl ?_
  refine VB_bipush (q := 681) dL_law_679 (by decide) rfl ?_
  refine VB_icmp_ne (q := 684) (tgt := 783) dL_law_681 (by decide) (by decide) (by decide) (fun _ => ?_) (fun hc => absurd hc (by decide))
  refine VB_loc (lv' := [(0, _), (1, _), (2, _), (3, _), (4, _), (5, _), (6, _), (7, _), (8, _), (9, _), (10, _)]) [0, 1, 2, 3, 4, 5, 6, 7, 8, 9, 10] rfl ?_
  exact VB_widen (by omega) (by omega) (ck32 hL h16 hx S F g hI (hK (by decide)) hg)
set_option maxRecDepth 100000 in
set_option maxHeartbeats 8000000 in
theorem ck31 {s0 L : Nat} {xs : Nat → Int32} {a : Nat → Nat} {c : Nat → ClassId} {b : Nat → Nat} {d : Nat → ClassId} (hL : L ≤ 260) (h16 : 80 ≤ L) (hx : ∀ j, j < 80 → xs j = 31) : ∀ (S : St) (F : Nat → Nat → Int32) (g : Nat → Nat), Iv S F 4 → sK S 0 = 0 → (∀ j, g j < 4096) → VB 123 RL cL_law 17 (some .boolean) wsL_law roomB (vXL s0 L xs) (tyl c d) (qF 123) (4126) (24756 + 1250) (wal a c S b d F g) 783 [(0, .ref (s0)), (1, .ref (a 0)), (2, .ref (b 0)), (3, .ref (b 1)), (4, .ref (b 2)), (5, .ref (b 3)), (6, .ref (b 4)), (7, .int (iZ 1)), (8, .int (iZ 31)), (9, .int (iZ 31)), (10, .int (iZ 0))] [] := by
  intro S F g hI hK hg
  obtain ⟨ho, hn, hm4, hM0, hG, hC⟩ := id hI
  refine VB_iload (q := 785) dL_law_783 7 rfl rfl ?_
  refine VB_if_eq (q := 788) (tgt := 968) dL_law_785 (by decide) (by decide) (fun hc => absurd hc (by decide)) (fun _ => ?_)
  refine VB_aload_n (q := 789) dL_law_788 1 rfl rfl ?_
  refine VB_aload_n (q := 790) dL_law_789 2 rfl rfl ?_
  refine VB_aload_n (q := 791) dL_law_790 3 rfl rfl ?_
  refine VB_aload (q := 793) dL_law_791 6 rfl rfl ?_
  refine VB_callU (q := 796) dL_law_793 (u_areThings (a := a) (c := c) (S := S) (b := b) (d := d) (F := F) hI hg) yv_L_areThings rfl gL_law_L_areThings xU_L rfl (Nat.le_of_ble_eq_true rfl) (by decide) ⟨by show _ ≤ 20000; omega, by show _ ≤ 130000; omega⟩ (fun x793 g793 hP793 hg793 => ?_)
  refine VB_lo (lo' := 123) (Nat.le_add_right _ _) ?_
  have J968 : ∀ (gj968 : Nat → Nat), (∀ j, gj968 j < 4096) → VB 123 RL cL_law 17 (some .boolean) wsL_law roomB (vXL s0 L xs) (tyl c d) (qF 123) (4146) (24876 + 1250) (wal a c S b d F gj968) 968 [(0, .ref (s0)), (1, .ref (a 0)), (2, .ref (b 0)), (3, .ref (b 1)), (4, .ref (b 2)), (5, .ref (b 3)), (6, .ref (b 4)), (7, .int (iZ 1)), (8, .int (iZ 31)), (9, .int (iZ 31)), (10, .int (iZ 0))] [] := by
    intro gj968 hgj968
    refine VB_iconst (q := 969) dL_law_968 rfl ?_
    refine VB_istore (q := 971) (lv' := [(0, _), (1, _), (2, _), (3, _), (4, _), (5, _), (6, _), (7, _), (8, _), (9, _), (10, _)]) dL_law_969 (by decide) rfl rfl ?_
    refine VB_iinc (q := 974) (y := 32) (lv' := [(0, _), (1, _), (2, _), (3, _), (4, _), (5, _), (6, _), (7, _), (8, _), (9, _), (10, _)]) dL_law_971 8 rfl (by omega) (by decide) rfl rfl ?_
    refine VB_goto (tgt := 64) dL_law_974 (by decide) ?_
    refine VB_iload (q := 66) dL_law_64 8 rfl rfl ?_
    refine VB_bipush (q := 68) dL_law_66 (by decide) rfl ?_
    refine VB_icmp_ge (q := 71) (tgt := 977) dL_law_68 (by decide) (by decide) (by decide) (fun hc => absurd hc (by decide)) (fun _ => ?_)
    refine VB_iload (q := 73) dL_law_71 7 rfl rfl ?_
    refine VB_if_eq (q := 76) (tgt := 977) dL_law_73 (by decide) (by decide) (fun _ => ?_) (fun hc => absurd hc (by decide))
    refine VB_iload (q := 979) dL_law_977 7 rfl rfl ?_
    exact VB_ret0 dL_law_979 rfl
  refine VB_uif_eq (q := 799) (tgt := 968) dL_law_796 (by decide) ?_ ?_
  · skip
    exact VB_widen (by omega) (by omega) (J968 g793 hg793)
  · skip
    refine VB_iload (q := 801) dL_law_799 8 rfl rfl ?_
    refine VB_iconst (q := 802) dL_law_801 rfl ?_
    refine VB_irem (q := 803) (a := 31) (b := 2) dL_law_802 (by omega) (by decide) (by decide) rfl ?_
    refine VB_top (y := iZ 1) rfl ?_
    refine VB_if_gt (q := 806) (tgt := 833) dL_law_803 (by decide) (by decide) (fun _ => ?_) (fun hc => absurd hc (by decide))
    refine VB_aload_n (q := 834) dL_law_833 1 rfl rfl ?_
    refine VB_aload_n (q := 835) dL_law_834 2 rfl rfl ?_
    refine VB_aload_n (q := 836) dL_law_835 3 rfl rfl ?_
    refine VB_aload (q := 838) dL_law_836 4 rfl rfl ?_
    refine VB_aload (q := 840) dL_law_838 6 rfl rfl ?_
    refine VB_callU (q := 843) dL_law_840 (u_isMissing (a := a) (c := c) (S := S) (b := b) (d := d) (F := F) hI hg793) yv_L_isMissing rfl gL_law_L_isMissing xU_L rfl (Nat.le_of_ble_eq_true rfl) (by decide) ⟨by show _ ≤ 20000; omega, by show _ ≤ 130000; omega⟩ (fun x840 g840 hP840 hg840 => ?_)
    refine VB_lo (lo' := 123) (Nat.le_add_right _ _) ?_
    refine VB_uif_eq (q := 846) (tgt := 968) dL_law_843 (by decide) ?_ ?_
    · skip
      exact VB_widen (by omega) (by omega) (J968 g840 hg840)
    · skip
      refine VB_aload_n (q := 847) dL_law_846 1 rfl rfl ?_
      refine VB_aload_n (q := 848) dL_law_847 2 rfl rfl ?_
      refine VB_aload (q := 850) dL_law_848 6 rfl rfl ?_
      refine VB_iload (q := 852) dL_law_850 10 rfl rfl ?_
      refine VB_aload (q := 854) dL_law_852 6 rfl rfl ?_
      refine VB_iconst (q := 855) dL_law_854 rfl ?_
      refine VB_iald (q := 856) (v := (iZ 4)) dL_law_855 13 12 rfl rfl (0) (by omega) (by omega) (by decide) (hM0) rfl ?_
      refine VB_iconst (q := 857) dL_law_856 rfl ?_
      refine VB_iadd (q := 858) dL_law_857 rfl ?_
      refine VB_top (y := iZ 5) rfl ?_
      refine VB_irem (q := 859) (a := 0) (b := 5) dL_law_858 (by omega) (by decide) (by decide) rfl ?_
      refine VB_top (y := iZ 0) rfl ?_
      refine VB_iload (q := 861) dL_law_859 10 rfl rfl ?_
      refine VB_bipush (q := 863) dL_law_861 (by decide) rfl ?_
      refine VB_idiv (q := 864) (a := 0) (b := 13) dL_law_863 (by omega) (by decide) (by decide) rfl ?_
      refine VB_top (y := iZ 0) rfl ?_
      refine VB_aload (q := 866) dL_law_864 6 rfl rfl ?_
      refine VB_iconst (q := 867) dL_law_866 rfl ?_
      refine VB_iald (q := 868) (v := (iZ 4)) dL_law_867 13 12 rfl rfl (0) (by omega) (by omega) (by decide) (hM0) rfl ?_
      refine VB_iconst (q := 869) dL_law_868 rfl ?_
      refine VB_iadd (q := 870) dL_law_869 rfl ?_
      refine VB_top (y := iZ 5) rfl ?_
      refine VB_irem (q := 871) (a := 0) (b := 5) dL_law_870 (by omega) (by decide) (by decide) rfl ?_
      refine VB_top (y := iZ 0) rfl ?_
      refine VB_iload (q := 873) dL_law_871 10 rfl rfl ?_
      refine VB_sipush (q := 876) dL_law_873 (by decide) rfl ?_
      refine VB_idiv (q := 877) (a := 0) (b := 169) dL_law_876 (by omega) (by decide) (by decide) rfl ?_
      refine VB_top (y := iZ 0) rfl ?_
      refine VB_aload (q := 879) dL_law_877 6 rfl rfl ?_
      refine VB_iconst (q := 880) dL_law_879 rfl ?_
      refine VB_iald (q := 881) (v := (iZ 4)) dL_law_880 13 12 rfl rfl (0) (by omega) (by omega) (by decide) (hM0) rfl ?_
      refine VB_iconst (q := 882) dL_law_881 rfl ?_
      refine VB_iadd (q := 883) dL_law_882 rfl ?_
      refine VB_top (y := iZ 6) rfl ?_
      refine VB_irem (q := 884) (a := 0) (b := 6) dL_law_883 (by omega) (by decide) (by decide) rfl ?_
      refine VB_top (y := iZ 0) rfl ?_
      refine VB_iconst (q := 885) dL_law_884 rfl ?_
      refine VB_isub (q := 886) dL_law_885 rfl ?_
      refine VB_top (y := iZ (-1)) rfl ?_
      refine VB_callU (q := 889) dL_law_886 (u_isWrong (a := a) (c := c) (S := S) (b := b) (d := d) (F := F) hI (wr0 hI (by decide) hK) hg840) yv_L_isWrong rfl gL_law_L_isWrong xU_L rfl (Nat.le_of_ble_eq_true rfl) (by decide) ⟨by show _ ≤ 20000; omega, by show _ ≤ 130000; omega⟩ (fun x886 g886 hP886 hg886 => ?_)
      refine VB_em (x := x886) (fun e886 => VB_lo (lo' := 123) (Nat.le_add_right _ _) (VB_top (y := iZ 0) e886 ?_)) (fun e886 => VB_lo (lo' := 125) (by show 125 ≤ 123 + (if x886 = 0 then 0 else 2); rw [if_neg e886]; omega) ?_)
      · skip
        refine VB_if_eq (q := 892) (tgt := 968) dL_law_889 (by decide) (by decide) (fun _ => ?_) (fun hc => absurd hc (by decide))
        exact VB_widen (by omega) (by omega) (J968 g886 hg886)
      · skip
        refine VB_uif_eq (q := 892) (tgt := 968) dL_law_889 (by decide) ?_ ?_
        · skip
          refine VB_lo (lo' := 123) (by omega) ?_
          exact VB_widen (by omega) (by omega) (J968 g886 hg886)
        · skip
          refine VB_iload (q := 894) dL_law_892 8 rfl rfl ?_
          refine VB_bipush (q := 896) dL_law_894 (by decide) rfl ?_
          refine VB_irem (q := 897) (a := 31) (b := 16) dL_law_896 (by omega) (by decide) (by decide) rfl ?_
          refine VB_top (y := iZ 15) rfl ?_
          refine VB_if_gt (q := 900) (tgt := 943) dL_law_897 (by decide) (by decide) (fun _ => ?_) (fun hc => absurd hc (by decide))
          refine VB_iload (q := 945) dL_law_943 8 rfl rfl ?_
          refine VB_bipush (q := 947) dL_law_945 (by decide) rfl ?_
          refine VB_irem (q := 948) (a := 31) (b := 20) dL_law_947 (by omega) (by decide) (by decide) rfl ?_
          refine VB_top (y := iZ 11) rfl ?_
          refine VB_if_gt (q := 951) (tgt := 964) dL_law_948 (by decide) (by decide) (fun _ => ?_) (fun hc => absurd hc (by decide))
          refine VB_iconst (q := 965) dL_law_964 rfl ?_
          refine VB_goto (tgt := 969) dL_law_965 (by decide) ?_
          refine VB_istore (q := 971) (lv' := [(0, _), (1, _), (2, _), (3, _), (4, _), (5, _), (6, _), (7, _), (8, _), (9, _), (10, _)]) dL_law_969 (by decide) rfl rfl ?_
          refine VB_iinc (q := 974) (y := 32) (lv' := [(0, _), (1, _), (2, _), (3, _), (4, _), (5, _), (6, _), (7, _), (8, _), (9, _), (10, _)]) dL_law_971 8 rfl (by omega) (by decide) rfl rfl ?_
          refine VB_goto (tgt := 64) dL_law_974 (by decide) ?_
          refine VB_loc (lv' := [(0, _), (1, _), (2, _), (3, _), (4, _), (5, _), (6, _), (7, _), (8, _)]) [0, 1, 2, 3, 4, 5, 6, 7, 8] rfl ?_
          refine VB_lo (lo' := 123) (by omega) ?_
          exact VB_widen (by omega) (by omega) (rd32 hL h16 hx S F g886 hI (fun _ => hK) hg886)
set_option maxRecDepth 100000 in
set_option maxHeartbeats 8000000 in
theorem rd31 {s0 L : Nat} {xs : Nat → Int32} {a : Nat → Nat} {c : Nat → ClassId} {b : Nat → Nat} {d : Nat → ClassId} (hL : L ≤ 260) (h16 : 80 ≤ L) (hx : ∀ j, j < 80 → xs j = 31) : ∀ (S : St) (F : Nat → Nat → Int32) (g : Nat → Nat), Iv S F 4 → (0 < 31 → sK S 0 = 0) → (∀ j, g j < 4096) → VB 123 RL cL_law 17 (some .boolean) wsL_law roomB (vXL s0 L xs) (tyl c d) (qF 123) (4126) (24756 + 1250) (wal a c S b d F g) 64 [(0, .ref (s0)), (1, .ref (a 0)), (2, .ref (b 0)), (3, .ref (b 1)), (4, .ref (b 2)), (5, .ref (b 3)), (6, .ref (b 4)), (7, .int (iZ 1)), (8, .int (iZ 31))] [] := by
  intro S F g hI hK hg
  obtain ⟨ho, hn, hm4, hM0, hG, hC⟩ := id hI
  refine VB_iload (q := 66) dL_law_64 8 rfl rfl ?_
  refine VB_bipush (q := 68) dL_law_66 (by decide) rfl ?_
  refine VB_icmp_ge (q := 71) (tgt := 977) dL_law_68 (by decide) (by decide) (by decide) (fun hc => absurd hc (by decide)) (fun _ => ?_)
  refine VB_iload (q := 73) dL_law_71 7 rfl rfl ?_
  refine VB_if_eq (q := 76) (tgt := 977) dL_law_73 (by decide) (by decide) (fun hc => absurd hc (by decide)) (fun _ => ?_)
  refine VB_aload_n (q := 77) dL_law_76 0 rfl rfl ?_
  refine VB_iload (q := 79) dL_law_77 8 rfl rfl ?_
  refine VB_callD (q := 82) dL_law_79 (u_dice (b := s0) (L := L) (xs := xs) 31 (by omega) hL (hx 31 (by omega))) yv_L_dice rfl gL_law_L_dice xL_s rfl (Nat.le_of_ble_eq_true rfl) (by decide) ⟨by show _ ≤ 20000; omega, by show _ ≤ 130000; omega⟩ ?_
  refine VB_istore (q := 84) (lv' := [(0, _), (1, _), (2, _), (3, _), (4, _), (5, _), (6, _), (7, _), (8, _), (9, _)]) dL_law_82 (by decide) rfl rfl ?_
  refine VB_iload (q := 86) dL_law_84 9 rfl rfl ?_
  refine VB_bipush (q := 88) dL_law_86 (by decide) rfl ?_
  refine VB_idiv (q := 89) (a := 31) (b := 32) dL_law_88 (by omega) (by decide) (by decide) rfl ?_
  refine VB_top (y := iZ 0) rfl ?_
  refine VB_istore (q := 91) (lv' := [(0, _), (1, _), (2, _), (3, _), (4, _), (5, _), (6, _), (7, _), (8, _), (9, _), (10, _)]) dL_law_89 (by decide) rfl rfl ?_
  refine VB_iload (q := 93) dL_law_91 9 rfl rfl ?_
  refine VB_bipush (q := 95) dL_law_93 (by decide) rfl ?_
  refine VB_irem (q := 96) (a := 31) (b := 32) dL_law_95 (by omega) (by decide) (by decide) rfl ?_
  refine VB_top (y := iZ 31) rfl ?_
  refine VB_istore (q := 98) (lv' := [(0, _), (1, _), (2, _), (3, _), (4, _), (5, _), (6, _), (7, _), (8, _), (9, _), (10, _), (11, _)]) dL_law_96 (by decide) rfl rfl ?_
  refine VB_aload (q := 100) dL_law_98 6 rfl rfl ?_
  refine VB_iconst (q := 101) dL_law_100 rfl ?_
  refine VB_iald (q := 102) (v := (iZ 4)) dL_law_101 13 12 rfl rfl (0) (by omega) (by omega) (by decide) (hM0) rfl ?_
  refine VB_if_ne (q := 105) (tgt := 109) dL_law_102 (by decide) (by decide) (fun _ => ?_) (fun hc => absurd hc (by decide))
  refine VB_iload (q := 111) dL_law_109 10 rfl rfl ?_
  refine VB_aload (q := 113) dL_law_111 6 rfl rfl ?_
  refine VB_iconst (q := 114) dL_law_113 rfl ?_
  refine VB_iald (q := 115) (v := (iZ 4)) dL_law_114 13 12 rfl rfl (0) (by omega) (by omega) (by decide) (hM0) rfl ?_
  refine VB_irem (q := 116) (a := 0) (b := 4) dL_law_115 (by omega) (by decide) (by decide) rfl ?_
  refine VB_top (y := iZ 0) rfl ?_
  refine VB_istore (q := 118) (lv' := [(0, _), (1, _), (2, _), (3, _), (4, _), (5, _), (6, _), (7, _), (8, _), (9, _), (10, _), (11, _), (12, _)]) dL_law_116 (by decide) rfl rfl ?_
  refine VB_aload (q := 120) dL_law_118 6 rfl rfl ?_
  refine VB_iconst (q := 121) dL_law_120 rfl ?_
  refine VB_iald (q := 122) (v := (iZ 4)) dL_law_121 13 12 rfl rfl (0) (by omega) (by omega) (by decide) (hM0) rfl ?_
  refine VB_iconst (q := 123) dL_law_122 rfl ?_
  refine VB_icmp_lt (q := 126) (tgt := 141) dL_law_123 (by decide) (by decide) (by decide) (fun hc => absurd hc (by decide)) (fun _ => ?_)
  refine VB_iload (q := 128) dL_law_126 11 rfl rfl ?_
  refine VB_iconst (q := 129) dL_law_128 rfl ?_
  refine VB_icmp_ge (q := 132) (tgt := 326) dL_law_129 (by decide) (by decide) (by decide) (fun _ => ?_) (fun hc => absurd hc (by decide))
  refine VB_iload (q := 328) dL_law_326 11 rfl rfl ?_
  refine VB_bipush (q := 330) dL_law_328 (by decide) rfl ?_
  refine VB_icmp_ge (q := 333) (tgt := 451) dL_law_330 (by decide) (by decide) (by decide) (fun _ => ?_) (fun hc => absurd hc (by decide))
  refine VB_iload (q := 453) dL_law_451 11 rfl rfl ?_
  refine VB_bipush (q := 455) dL_law_453 (by decide) rfl ?_
  refine VB_icmp_ge (q := 458) (tgt := 603) dL_law_455 (by decide) (by decide) (by decide) (fun _ => ?_) (fun hc => absurd hc (by decide))
  refine VB_iload (q := 605) dL_law_603 11 rfl rfl ?_
  refine VB_bipush (q := 607) dL_law_605 (by decide) rfl ?_
  refine VB_icmp_ge (q := 610) (tgt := 633) dL_law_607 (by decide) (by decide) (by decide) (fun _ => ?_) (fun hc => absurd hc (by decide))
  refine VB_iload (q := 635) dL_law_633 11 rfl rfl ?_
  refine VB_bipush (q := 637) dL_law_635 (by decide) rfl ?_
  refine VB_icmp_ge (q := 640) (tgt := 677) dL_law_637 (by decide) (by decide) (by decide) (fun _ => ?_) (fun hc => absurd hc (by decide))
  refine VB_iload (q := 679) dL_law_677 11 rfl rfl ?_
  refine VB_bipush (q := 681) dL_law_679 (by decide) rfl ?_
  refine VB_icmp_ne (q := 684) (tgt := 783) dL_law_681 (by decide) (by decide) (by decide) (fun _ => ?_) (fun hc => absurd hc (by decide))
  refine VB_loc (lv' := [(0, _), (1, _), (2, _), (3, _), (4, _), (5, _), (6, _), (7, _), (8, _), (9, _), (10, _)]) [0, 1, 2, 3, 4, 5, 6, 7, 8, 9, 10] rfl ?_
  exact VB_widen (by omega) (by omega) (ck31 hL h16 hx S F g hI (hK (by decide)) hg)
set_option maxRecDepth 100000 in
set_option maxHeartbeats 8000000 in
theorem ck30 {s0 L : Nat} {xs : Nat → Int32} {a : Nat → Nat} {c : Nat → ClassId} {b : Nat → Nat} {d : Nat → ClassId} (hL : L ≤ 260) (h16 : 80 ≤ L) (hx : ∀ j, j < 80 → xs j = 31) : ∀ (S : St) (F : Nat → Nat → Int32) (g : Nat → Nat), Iv S F 4 → sK S 0 = 0 → (∀ j, g j < 4096) → VB 123 RL cL_law 17 (some .boolean) wsL_law roomB (vXL s0 L xs) (tyl c d) (qF 123) (3906) (23436 + 1250) (wal a c S b d F g) 783 [(0, .ref (s0)), (1, .ref (a 0)), (2, .ref (b 0)), (3, .ref (b 1)), (4, .ref (b 2)), (5, .ref (b 3)), (6, .ref (b 4)), (7, .int (iZ 1)), (8, .int (iZ 30)), (9, .int (iZ 31)), (10, .int (iZ 0))] [] := by
  intro S F g hI hK hg
  obtain ⟨ho, hn, hm4, hM0, hG, hC⟩ := id hI
  refine VB_iload (q := 785) dL_law_783 7 rfl rfl ?_
  refine VB_if_eq (q := 788) (tgt := 968) dL_law_785 (by decide) (by decide) (fun hc => absurd hc (by decide)) (fun _ => ?_)
  refine VB_aload_n (q := 789) dL_law_788 1 rfl rfl ?_
  refine VB_aload_n (q := 790) dL_law_789 2 rfl rfl ?_
  refine VB_aload_n (q := 791) dL_law_790 3 rfl rfl ?_
  refine VB_aload (q := 793) dL_law_791 6 rfl rfl ?_
  refine VB_callU (q := 796) dL_law_793 (u_areThings (a := a) (c := c) (S := S) (b := b) (d := d) (F := F) hI hg) yv_L_areThings rfl gL_law_L_areThings xU_L rfl (Nat.le_of_ble_eq_true rfl) (by decide) ⟨by show _ ≤ 20000; omega, by show _ ≤ 130000; omega⟩ (fun x793 g793 hP793 hg793 => ?_)
  refine VB_lo (lo' := 123) (Nat.le_add_right _ _) ?_
  have J968 : ∀ (gj968 : Nat → Nat), (∀ j, gj968 j < 4096) → VB 123 RL cL_law 17 (some .boolean) wsL_law roomB (vXL s0 L xs) (tyl c d) (qF 123) (4126) (24756 + 1250) (wal a c S b d F gj968) 968 [(0, .ref (s0)), (1, .ref (a 0)), (2, .ref (b 0)), (3, .ref (b 1)), (4, .ref (b 2)), (5, .ref (b 3)), (6, .ref (b 4)), (7, .int (iZ 1)), (8, .int (iZ 30)), (9, .int (iZ 31)), (10, .int (iZ 0))] [] := by
    intro gj968 hgj968
    refine VB_iconst (q := 969) dL_law_968 rfl ?_
    refine VB_istore (q := 971) (lv' := [(0, _), (1, _), (2, _), (3, _), (4, _), (5, _), (6, _), (7, _), (8, _), (9, _), (10, _)]) dL_law_969 (by decide) rfl rfl ?_
    refine VB_iinc (q := 974) (y := 31) (lv' := [(0, _), (1, _), (2, _), (3, _), (4, _), (5, _), (6, _), (7, _), (8, _), (9, _), (10, _)]) dL_law_971 8 rfl (by omega) (by decide) rfl rfl ?_
    refine VB_goto (tgt := 64) dL_law_974 (by decide) ?_
    refine VB_iload (q := 66) dL_law_64 8 rfl rfl ?_
    refine VB_bipush (q := 68) dL_law_66 (by decide) rfl ?_
    refine VB_icmp_ge (q := 71) (tgt := 977) dL_law_68 (by decide) (by decide) (by decide) (fun hc => absurd hc (by decide)) (fun _ => ?_)
    refine VB_iload (q := 73) dL_law_71 7 rfl rfl ?_
    refine VB_if_eq (q := 76) (tgt := 977) dL_law_73 (by decide) (by decide) (fun _ => ?_) (fun hc => absurd hc (by decide))
    refine VB_iload (q := 979) dL_law_977 7 rfl rfl ?_
    exact VB_ret0 dL_law_979 rfl
  refine VB_uif_eq (q := 799) (tgt := 968) dL_law_796 (by decide) ?_ ?_
  · skip
    exact VB_widen (by omega) (by omega) (J968 g793 hg793)
  · skip
    refine VB_iload (q := 801) dL_law_799 8 rfl rfl ?_
    refine VB_iconst (q := 802) dL_law_801 rfl ?_
    refine VB_irem (q := 803) (a := 30) (b := 2) dL_law_802 (by omega) (by decide) (by decide) rfl ?_
    refine VB_top (y := iZ 0) rfl ?_
    refine VB_if_gt (q := 806) (tgt := 833) dL_law_803 (by decide) (by decide) (fun hc => absurd hc (by decide)) (fun _ => ?_)
    refine VB_aload_n (q := 807) dL_law_806 1 rfl rfl ?_
    refine VB_aload_n (q := 808) dL_law_807 2 rfl rfl ?_
    refine VB_aload_n (q := 809) dL_law_808 3 rfl rfl ?_
    refine VB_aload (q := 811) dL_law_809 4 rfl rfl ?_
    refine VB_aload (q := 813) dL_law_811 6 rfl rfl ?_
    refine VB_iload (q := 815) dL_law_813 10 rfl rfl ?_
    refine VB_bipush (q := 817) dL_law_815 (by decide) rfl ?_
    refine VB_irem (q := 818) (a := 0) (b := 31) dL_law_817 (by omega) (by decide) (by decide) rfl ?_
    refine VB_top (y := iZ 0) rfl ?_
    refine VB_iload (q := 820) dL_law_818 10 rfl rfl ?_
    refine VB_bipush (q := 822) dL_law_820 (by decide) rfl ?_
    refine VB_idiv (q := 823) (a := 0) (b := 31) dL_law_822 (by omega) (by decide) (by decide) rfl ?_
    refine VB_top (y := iZ 0) rfl ?_
    refine VB_sipush (q := 826) dL_law_823 (by decide) rfl ?_
    refine VB_irem (q := 827) (a := 0) (b := 256) dL_law_826 (by omega) (by decide) (by decide) rfl ?_
    refine VB_top (y := iZ 0) rfl ?_
    refine VB_callU (q := 830) dL_law_827 (u_areOutfits (a := a) (c := c) (S := S) (b := b) (d := d) (F := F) hI hg793) yv_L_areOutfits rfl gL_law_L_areOutfits xU_L rfl (Nat.le_of_ble_eq_true rfl) (by decide) ⟨by show _ ≤ 20000; omega, by show _ ≤ 130000; omega⟩ (fun x827 g827 hP827 hg827 => ?_)
    refine VB_lo (lo' := 123) (Nat.le_add_right _ _) ?_
    refine VB_uif_eq (q := 833) (tgt := 968) dL_law_830 (by decide) ?_ ?_
    · skip
      exact VB_widen (by omega) (by omega) (J968 g827 hg827)
    · skip
      refine VB_aload_n (q := 834) dL_law_833 1 rfl rfl ?_
      refine VB_aload_n (q := 835) dL_law_834 2 rfl rfl ?_
      refine VB_aload_n (q := 836) dL_law_835 3 rfl rfl ?_
      refine VB_aload (q := 838) dL_law_836 4 rfl rfl ?_
      refine VB_aload (q := 840) dL_law_838 6 rfl rfl ?_
      refine VB_callU (q := 843) dL_law_840 (u_isMissing (a := a) (c := c) (S := S) (b := b) (d := d) (F := F) hI hg827) yv_L_isMissing rfl gL_law_L_isMissing xU_L rfl (Nat.le_of_ble_eq_true rfl) (by decide) ⟨by show _ ≤ 20000; omega, by show _ ≤ 130000; omega⟩ (fun x840 g840 hP840 hg840 => ?_)
      refine VB_lo (lo' := 123) (Nat.le_add_right _ _) ?_
      refine VB_uif_eq (q := 846) (tgt := 968) dL_law_843 (by decide) ?_ ?_
      · skip
        exact VB_widen (by omega) (by omega) (J968 g840 hg840)
      · skip
        refine VB_aload_n (q := 847) dL_law_846 1 rfl rfl ?_
        refine VB_aload_n (q := 848) dL_law_847 2 rfl rfl ?_
        refine VB_aload (q := 850) dL_law_848 6 rfl rfl ?_
        refine VB_iload (q := 852) dL_law_850 10 rfl rfl ?_
        refine VB_aload (q := 854) dL_law_852 6 rfl rfl ?_
        refine VB_iconst (q := 855) dL_law_854 rfl ?_
        refine VB_iald (q := 856) (v := (iZ 4)) dL_law_855 13 12 rfl rfl (0) (by omega) (by omega) (by decide) (hM0) rfl ?_
        refine VB_iconst (q := 857) dL_law_856 rfl ?_
        refine VB_iadd (q := 858) dL_law_857 rfl ?_
        refine VB_top (y := iZ 5) rfl ?_
        refine VB_irem (q := 859) (a := 0) (b := 5) dL_law_858 (by omega) (by decide) (by decide) rfl ?_
        refine VB_top (y := iZ 0) rfl ?_
        refine VB_iload (q := 861) dL_law_859 10 rfl rfl ?_
        refine VB_bipush (q := 863) dL_law_861 (by decide) rfl ?_
        refine VB_idiv (q := 864) (a := 0) (b := 13) dL_law_863 (by omega) (by decide) (by decide) rfl ?_
        refine VB_top (y := iZ 0) rfl ?_
        refine VB_aload (q := 866) dL_law_864 6 rfl rfl ?_
        refine VB_iconst (q := 867) dL_law_866 rfl ?_
        refine VB_iald (q := 868) (v := (iZ 4)) dL_law_867 13 12 rfl rfl (0) (by omega) (by omega) (by decide) (hM0) rfl ?_
        refine VB_iconst (q := 869) dL_law_868 rfl ?_
        refine VB_iadd (q := 870) dL_law_869 rfl ?_
        refine VB_top (y := iZ 5) rfl ?_
        refine VB_irem (q := 871) (a := 0) (b := 5) dL_law_870 (by omega) (by decide) (by decide) rfl ?_
        refine VB_top (y := iZ 0) rfl ?_
        refine VB_iload (q := 873) dL_law_871 10 rfl rfl ?_
        refine VB_sipush (q := 876) dL_law_873 (by decide) rfl ?_
        refine VB_idiv (q := 877) (a := 0) (b := 169) dL_law_876 (by omega) (by decide) (by decide) rfl ?_
        refine VB_top (y := iZ 0) rfl ?_
        refine VB_aload (q := 879) dL_law_877 6 rfl rfl ?_
        refine VB_iconst (q := 880) dL_law_879 rfl ?_
        refine VB_iald (q := 881) (v := (iZ 4)) dL_law_880 13 12 rfl rfl (0) (by omega) (by omega) (by decide) (hM0) rfl ?_
        refine VB_iconst (q := 882) dL_law_881 rfl ?_
        refine VB_iadd (q := 883) dL_law_882 rfl ?_
        refine VB_top (y := iZ 6) rfl ?_
        refine VB_irem (q := 884) (a := 0) (b := 6) dL_law_883 (by omega) (by decide) (by decide) rfl ?_
        refine VB_top (y := iZ 0) rfl ?_
        refine VB_iconst (q := 885) dL_law_884 rfl ?_
        refine VB_isub (q := 886) dL_law_885 rfl ?_
        refine VB_top (y := iZ (-1)) rfl ?_
        refine VB_callU (q := 889) dL_law_886 (u_isWrong (a := a) (c := c) (S := S) (b := b) (d := d) (F := F) hI (wr0 hI (by decide) hK) hg840) yv_L_isWrong rfl gL_law_L_isWrong xU_L rfl (Nat.le_of_ble_eq_true rfl) (by decide) ⟨by show _ ≤ 20000; omega, by show _ ≤ 130000; omega⟩ (fun x886 g886 hP886 hg886 => ?_)
        refine VB_em (x := x886) (fun e886 => VB_lo (lo' := 123) (Nat.le_add_right _ _) (VB_top (y := iZ 0) e886 ?_)) (fun e886 => VB_lo (lo' := 125) (by show 125 ≤ 123 + (if x886 = 0 then 0 else 2); rw [if_neg e886]; omega) ?_)
        · skip
          refine VB_if_eq (q := 892) (tgt := 968) dL_law_889 (by decide) (by decide) (fun _ => ?_) (fun hc => absurd hc (by decide))
          exact VB_widen (by omega) (by omega) (J968 g886 hg886)
        · skip
          refine VB_uif_eq (q := 892) (tgt := 968) dL_law_889 (by decide) ?_ ?_
          · skip
            refine VB_lo (lo' := 123) (by omega) ?_
            exact VB_widen (by omega) (by omega) (J968 g886 hg886)
          · skip
            refine VB_iload (q := 894) dL_law_892 8 rfl rfl ?_
            refine VB_bipush (q := 896) dL_law_894 (by decide) rfl ?_
            refine VB_irem (q := 897) (a := 30) (b := 16) dL_law_896 (by omega) (by decide) (by decide) rfl ?_
            refine VB_top (y := iZ 14) rfl ?_
            refine VB_if_gt (q := 900) (tgt := 943) dL_law_897 (by decide) (by decide) (fun _ => ?_) (fun hc => absurd hc (by decide))
            refine VB_iload (q := 945) dL_law_943 8 rfl rfl ?_
            refine VB_bipush (q := 947) dL_law_945 (by decide) rfl ?_
            refine VB_irem (q := 948) (a := 30) (b := 20) dL_law_947 (by omega) (by decide) (by decide) rfl ?_
            refine VB_top (y := iZ 10) rfl ?_
            refine VB_if_gt (q := 951) (tgt := 964) dL_law_948 (by decide) (by decide) (fun _ => ?_) (fun hc => absurd hc (by decide))
            refine VB_iconst (q := 965) dL_law_964 rfl ?_
            refine VB_goto (tgt := 969) dL_law_965 (by decide) ?_
            refine VB_istore (q := 971) (lv' := [(0, _), (1, _), (2, _), (3, _), (4, _), (5, _), (6, _), (7, _), (8, _), (9, _), (10, _)]) dL_law_969 (by decide) rfl rfl ?_
            refine VB_iinc (q := 974) (y := 31) (lv' := [(0, _), (1, _), (2, _), (3, _), (4, _), (5, _), (6, _), (7, _), (8, _), (9, _), (10, _)]) dL_law_971 8 rfl (by omega) (by decide) rfl rfl ?_
            refine VB_goto (tgt := 64) dL_law_974 (by decide) ?_
            refine VB_loc (lv' := [(0, _), (1, _), (2, _), (3, _), (4, _), (5, _), (6, _), (7, _), (8, _)]) [0, 1, 2, 3, 4, 5, 6, 7, 8] rfl ?_
            refine VB_lo (lo' := 123) (by omega) ?_
            exact VB_widen (by omega) (by omega) (rd31 hL h16 hx S F g886 hI (fun _ => hK) hg886)
set_option maxRecDepth 100000 in
set_option maxHeartbeats 8000000 in
theorem rd30 {s0 L : Nat} {xs : Nat → Int32} {a : Nat → Nat} {c : Nat → ClassId} {b : Nat → Nat} {d : Nat → ClassId} (hL : L ≤ 260) (h16 : 80 ≤ L) (hx : ∀ j, j < 80 → xs j = 31) : ∀ (S : St) (F : Nat → Nat → Int32) (g : Nat → Nat), Iv S F 4 → (0 < 30 → sK S 0 = 0) → (∀ j, g j < 4096) → VB 123 RL cL_law 17 (some .boolean) wsL_law roomB (vXL s0 L xs) (tyl c d) (qF 123) (3906) (23436 + 1250) (wal a c S b d F g) 64 [(0, .ref (s0)), (1, .ref (a 0)), (2, .ref (b 0)), (3, .ref (b 1)), (4, .ref (b 2)), (5, .ref (b 3)), (6, .ref (b 4)), (7, .int (iZ 1)), (8, .int (iZ 30))] [] := by
  intro S F g hI hK hg
  obtain ⟨ho, hn, hm4, hM0, hG, hC⟩ := id hI
  refine VB_iload (q := 66) dL_law_64 8 rfl rfl ?_
  refine VB_bipush (q := 68) dL_law_66 (by decide) rfl ?_
  refine VB_icmp_ge (q := 71) (tgt := 977) dL_law_68 (by decide) (by decide) (by decide) (fun hc => absurd hc (by decide)) (fun _ => ?_)
  refine VB_iload (q := 73) dL_law_71 7 rfl rfl ?_
  refine VB_if_eq (q := 76) (tgt := 977) dL_law_73 (by decide) (by decide) (fun hc => absurd hc (by decide)) (fun _ => ?_)
  refine VB_aload_n (q := 77) dL_law_76 0 rfl rfl ?_
  refine VB_iload (q := 79) dL_law_77 8 rfl rfl ?_
  refine VB_callD (q := 82) dL_law_79 (u_dice (b := s0) (L := L) (xs := xs) 30 (by omega) hL (hx 30 (by omega))) yv_L_dice rfl gL_law_L_dice xL_s rfl (Nat.le_of_ble_eq_true rfl) (by decide) ⟨by show _ ≤ 20000; omega, by show _ ≤ 130000; omega⟩ ?_
  refine VB_istore (q := 84) (lv' := [(0, _), (1, _), (2, _), (3, _), (4, _), (5, _), (6, _), (7, _), (8, _), (9, _)]) dL_law_82 (by decide) rfl rfl ?_
  refine VB_iload (q := 86) dL_law_84 9 rfl rfl ?_
  refine VB_bipush (q := 88) dL_law_86 (by decide) rfl ?_
  refine VB_idiv (q := 89) (a := 31) (b := 32) dL_law_88 (by omega) (by decide) (by decide) rfl ?_
  refine VB_top (y := iZ 0) rfl ?_
  refine VB_istore (q := 91) (lv' := [(0, _), (1, _), (2, _), (3, _), (4, _), (5, _), (6, _), (7, _), (8, _), (9, _), (10, _)]) dL_law_89 (by decide) rfl rfl ?_
  refine VB_iload (q := 93) dL_law_91 9 rfl rfl ?_
  refine VB_bipush (q := 95) dL_law_93 (by decide) rfl ?_
  refine VB_irem (q := 96) (a := 31) (b := 32) dL_law_95 (by omega) (by decide) (by decide) rfl ?_
  refine VB_top (y := iZ 31) rfl ?_
  refine VB_istore (q := 98) (lv' := [(0, _), (1, _), (2, _), (3, _), (4, _), (5, _), (6, _), (7, _), (8, _), (9, _), (10, _), (11, _)]) dL_law_96 (by decide) rfl rfl ?_
  refine VB_aload (q := 100) dL_law_98 6 rfl rfl ?_
  refine VB_iconst (q := 101) dL_law_100 rfl ?_
  refine VB_iald (q := 102) (v := (iZ 4)) dL_law_101 13 12 rfl rfl (0) (by omega) (by omega) (by decide) (hM0) rfl ?_
  refine VB_if_ne (q := 105) (tgt := 109) dL_law_102 (by decide) (by decide) (fun _ => ?_) (fun hc => absurd hc (by decide))
  refine VB_iload (q := 111) dL_law_109 10 rfl rfl ?_
  refine VB_aload (q := 113) dL_law_111 6 rfl rfl ?_
  refine VB_iconst (q := 114) dL_law_113 rfl ?_
  refine VB_iald (q := 115) (v := (iZ 4)) dL_law_114 13 12 rfl rfl (0) (by omega) (by omega) (by decide) (hM0) rfl ?_
  refine VB_irem (q := 116) (a := 0) (b := 4) dL_law_115 (by omega) (by decide) (by decide) rfl ?_
  refine VB_top (y := iZ 0) rfl ?_
  refine VB_istore (q := 118) (lv' := [(0, _), (1, _), (2, _), (3, _), (4, _), (5, _), (6, _), (7, _), (8, _), (9, _), (10, _), (11, _), (12, _)]) dL_law_116 (by decide) rfl rfl ?_
  refine VB_aload (q := 120) dL_law_118 6 rfl rfl ?_
  refine VB_iconst (q := 121) dL_law_120 rfl ?_
  refine VB_iald (q := 122) (v := (iZ 4)) dL_law_121 13 12 rfl rfl (0) (by omega) (by omega) (by decide) (hM0) rfl ?_
  refine VB_iconst (q := 123) dL_law_122 rfl ?_
  refine VB_icmp_lt (q := 126) (tgt := 141) dL_law_123 (by decide) (by decide) (by decide) (fun hc => absurd hc (by decide)) (fun _ => ?_)
  refine VB_iload (q := 128) dL_law_126 11 rfl rfl ?_
  refine VB_iconst (q := 129) dL_law_128 rfl ?_
  refine VB_icmp_ge (q := 132) (tgt := 326) dL_law_129 (by decide) (by decide) (by decide) (fun _ => ?_) (fun hc => absurd hc (by decide))
  refine VB_iload (q := 328) dL_law_326 11 rfl rfl ?_
  refine VB_bipush (q := 330) dL_law_328 (by decide) rfl ?_
  refine VB_icmp_ge (q := 333) (tgt := 451) dL_law_330 (by decide) (by decide) (by decide) (fun _ => ?_) (fun hc => absurd hc (by decide))
  refine VB_iload (q := 453) dL_law_451 11 rfl rfl ?_
  refine VB_bipush (q := 455) dL_law_453 (by decide) rfl ?_
  refine VB_icmp_ge (q := 458) (tgt := 603) dL_law_455 (by decide) (by decide) (by decide) (fun _ => ?_) (fun hc => absurd hc (by decide))
  refine VB_iload (q := 605) dL_law_603 11 rfl rfl ?_
  refine VB_bipush (q := 607) dL_law_605 (by decide) rfl ?_
  refine VB_icmp_ge (q := 610) (tgt := 633) dL_law_607 (by decide) (by decide) (by decide) (fun _ => ?_) (fun hc => absurd hc (by decide))
  refine VB_iload (q := 635) dL_law_633 11 rfl rfl ?_
  refine VB_bipush (q := 637) dL_law_635 (by decide) rfl ?_
  refine VB_icmp_ge (q := 640) (tgt := 677) dL_law_637 (by decide) (by decide) (by decide) (fun _ => ?_) (fun hc => absurd hc (by decide))
  refine VB_iload (q := 679) dL_law_677 11 rfl rfl ?_
  refine VB_bipush (q := 681) dL_law_679 (by decide) rfl ?_
  refine VB_icmp_ne (q := 684) (tgt := 783) dL_law_681 (by decide) (by decide) (by decide) (fun _ => ?_) (fun hc => absurd hc (by decide))
  refine VB_loc (lv' := [(0, _), (1, _), (2, _), (3, _), (4, _), (5, _), (6, _), (7, _), (8, _), (9, _), (10, _)]) [0, 1, 2, 3, 4, 5, 6, 7, 8, 9, 10] rfl ?_
  exact VB_widen (by omega) (by omega) (ck30 hL h16 hx S F g hI (hK (by decide)) hg)
set_option maxRecDepth 100000 in
set_option maxHeartbeats 8000000 in
theorem ck29 {s0 L : Nat} {xs : Nat → Int32} {a : Nat → Nat} {c : Nat → ClassId} {b : Nat → Nat} {d : Nat → ClassId} (hL : L ≤ 260) (h16 : 80 ≤ L) (hx : ∀ j, j < 80 → xs j = 31) : ∀ (S : St) (F : Nat → Nat → Int32) (g : Nat → Nat), Iv S F 4 → sK S 0 = 0 → (∀ j, g j < 4096) → VB 123 RL cL_law 17 (some .boolean) wsL_law roomB (vXL s0 L xs) (tyl c d) (qF 123) (3886) (23316 + 1250) (wal a c S b d F g) 783 [(0, .ref (s0)), (1, .ref (a 0)), (2, .ref (b 0)), (3, .ref (b 1)), (4, .ref (b 2)), (5, .ref (b 3)), (6, .ref (b 4)), (7, .int (iZ 1)), (8, .int (iZ 29)), (9, .int (iZ 31)), (10, .int (iZ 0))] [] := by
  intro S F g hI hK hg
  obtain ⟨ho, hn, hm4, hM0, hG, hC⟩ := id hI
  refine VB_iload (q := 785) dL_law_783 7 rfl rfl ?_
  refine VB_if_eq (q := 788) (tgt := 968) dL_law_785 (by decide) (by decide) (fun hc => absurd hc (by decide)) (fun _ => ?_)
  refine VB_aload_n (q := 789) dL_law_788 1 rfl rfl ?_
  refine VB_aload_n (q := 790) dL_law_789 2 rfl rfl ?_
  refine VB_aload_n (q := 791) dL_law_790 3 rfl rfl ?_
  refine VB_aload (q := 793) dL_law_791 6 rfl rfl ?_
  refine VB_callU (q := 796) dL_law_793 (u_areThings (a := a) (c := c) (S := S) (b := b) (d := d) (F := F) hI hg) yv_L_areThings rfl gL_law_L_areThings xU_L rfl (Nat.le_of_ble_eq_true rfl) (by decide) ⟨by show _ ≤ 20000; omega, by show _ ≤ 130000; omega⟩ (fun x793 g793 hP793 hg793 => ?_)
  refine VB_lo (lo' := 123) (Nat.le_add_right _ _) ?_
  have J968 : ∀ (gj968 : Nat → Nat), (∀ j, gj968 j < 4096) → VB 123 RL cL_law 17 (some .boolean) wsL_law roomB (vXL s0 L xs) (tyl c d) (qF 123) (3906) (23436 + 1250) (wal a c S b d F gj968) 968 [(0, .ref (s0)), (1, .ref (a 0)), (2, .ref (b 0)), (3, .ref (b 1)), (4, .ref (b 2)), (5, .ref (b 3)), (6, .ref (b 4)), (7, .int (iZ 1)), (8, .int (iZ 29)), (9, .int (iZ 31)), (10, .int (iZ 0))] [] := by
    intro gj968 hgj968
    refine VB_iconst (q := 969) dL_law_968 rfl ?_
    refine VB_istore (q := 971) (lv' := [(0, _), (1, _), (2, _), (3, _), (4, _), (5, _), (6, _), (7, _), (8, _), (9, _), (10, _)]) dL_law_969 (by decide) rfl rfl ?_
    refine VB_iinc (q := 974) (y := 30) (lv' := [(0, _), (1, _), (2, _), (3, _), (4, _), (5, _), (6, _), (7, _), (8, _), (9, _), (10, _)]) dL_law_971 8 rfl (by omega) (by decide) rfl rfl ?_
    refine VB_goto (tgt := 64) dL_law_974 (by decide) ?_
    refine VB_iload (q := 66) dL_law_64 8 rfl rfl ?_
    refine VB_bipush (q := 68) dL_law_66 (by decide) rfl ?_
    refine VB_icmp_ge (q := 71) (tgt := 977) dL_law_68 (by decide) (by decide) (by decide) (fun hc => absurd hc (by decide)) (fun _ => ?_)
    refine VB_iload (q := 73) dL_law_71 7 rfl rfl ?_
    refine VB_if_eq (q := 76) (tgt := 977) dL_law_73 (by decide) (by decide) (fun _ => ?_) (fun hc => absurd hc (by decide))
    refine VB_iload (q := 979) dL_law_977 7 rfl rfl ?_
    exact VB_ret0 dL_law_979 rfl
  refine VB_uif_eq (q := 799) (tgt := 968) dL_law_796 (by decide) ?_ ?_
  · skip
    exact VB_widen (by omega) (by omega) (J968 g793 hg793)
  · skip
    refine VB_iload (q := 801) dL_law_799 8 rfl rfl ?_
    refine VB_iconst (q := 802) dL_law_801 rfl ?_
    refine VB_irem (q := 803) (a := 29) (b := 2) dL_law_802 (by omega) (by decide) (by decide) rfl ?_
    refine VB_top (y := iZ 1) rfl ?_
    refine VB_if_gt (q := 806) (tgt := 833) dL_law_803 (by decide) (by decide) (fun _ => ?_) (fun hc => absurd hc (by decide))
    refine VB_aload_n (q := 834) dL_law_833 1 rfl rfl ?_
    refine VB_aload_n (q := 835) dL_law_834 2 rfl rfl ?_
    refine VB_aload_n (q := 836) dL_law_835 3 rfl rfl ?_
    refine VB_aload (q := 838) dL_law_836 4 rfl rfl ?_
    refine VB_aload (q := 840) dL_law_838 6 rfl rfl ?_
    refine VB_callU (q := 843) dL_law_840 (u_isMissing (a := a) (c := c) (S := S) (b := b) (d := d) (F := F) hI hg793) yv_L_isMissing rfl gL_law_L_isMissing xU_L rfl (Nat.le_of_ble_eq_true rfl) (by decide) ⟨by show _ ≤ 20000; omega, by show _ ≤ 130000; omega⟩ (fun x840 g840 hP840 hg840 => ?_)
    refine VB_lo (lo' := 123) (Nat.le_add_right _ _) ?_
    refine VB_uif_eq (q := 846) (tgt := 968) dL_law_843 (by decide) ?_ ?_
    · skip
      exact VB_widen (by omega) (by omega) (J968 g840 hg840)
    · skip
      refine VB_aload_n (q := 847) dL_law_846 1 rfl rfl ?_
      refine VB_aload_n (q := 848) dL_law_847 2 rfl rfl ?_
      refine VB_aload (q := 850) dL_law_848 6 rfl rfl ?_
      refine VB_iload (q := 852) dL_law_850 10 rfl rfl ?_
      refine VB_aload (q := 854) dL_law_852 6 rfl rfl ?_
      refine VB_iconst (q := 855) dL_law_854 rfl ?_
      refine VB_iald (q := 856) (v := (iZ 4)) dL_law_855 13 12 rfl rfl (0) (by omega) (by omega) (by decide) (hM0) rfl ?_
      refine VB_iconst (q := 857) dL_law_856 rfl ?_
      refine VB_iadd (q := 858) dL_law_857 rfl ?_
      refine VB_top (y := iZ 5) rfl ?_
      refine VB_irem (q := 859) (a := 0) (b := 5) dL_law_858 (by omega) (by decide) (by decide) rfl ?_
      refine VB_top (y := iZ 0) rfl ?_
      refine VB_iload (q := 861) dL_law_859 10 rfl rfl ?_
      refine VB_bipush (q := 863) dL_law_861 (by decide) rfl ?_
      refine VB_idiv (q := 864) (a := 0) (b := 13) dL_law_863 (by omega) (by decide) (by decide) rfl ?_
      refine VB_top (y := iZ 0) rfl ?_
      refine VB_aload (q := 866) dL_law_864 6 rfl rfl ?_
      refine VB_iconst (q := 867) dL_law_866 rfl ?_
      refine VB_iald (q := 868) (v := (iZ 4)) dL_law_867 13 12 rfl rfl (0) (by omega) (by omega) (by decide) (hM0) rfl ?_
      refine VB_iconst (q := 869) dL_law_868 rfl ?_
      refine VB_iadd (q := 870) dL_law_869 rfl ?_
      refine VB_top (y := iZ 5) rfl ?_
      refine VB_irem (q := 871) (a := 0) (b := 5) dL_law_870 (by omega) (by decide) (by decide) rfl ?_
      refine VB_top (y := iZ 0) rfl ?_
      refine VB_iload (q := 873) dL_law_871 10 rfl rfl ?_
      refine VB_sipush (q := 876) dL_law_873 (by decide) rfl ?_
      refine VB_idiv (q := 877) (a := 0) (b := 169) dL_law_876 (by omega) (by decide) (by decide) rfl ?_
      refine VB_top (y := iZ 0) rfl ?_
      refine VB_aload (q := 879) dL_law_877 6 rfl rfl ?_
      refine VB_iconst (q := 880) dL_law_879 rfl ?_
      refine VB_iald (q := 881) (v := (iZ 4)) dL_law_880 13 12 rfl rfl (0) (by omega) (by omega) (by decide) (hM0) rfl ?_
      refine VB_iconst (q := 882) dL_law_881 rfl ?_
      refine VB_iadd (q := 883) dL_law_882 rfl ?_
      refine VB_top (y := iZ 6) rfl ?_
      refine VB_irem (q := 884) (a := 0) (b := 6) dL_law_883 (by omega) (by decide) (by decide) rfl ?_
      refine VB_top (y := iZ 0) rfl ?_
      refine VB_iconst (q := 885) dL_law_884 rfl ?_
      refine VB_isub (q := 886) dL_law_885 rfl ?_
      refine VB_top (y := iZ (-1)) rfl ?_
      refine VB_callU (q := 889) dL_law_886 (u_isWrong (a := a) (c := c) (S := S) (b := b) (d := d) (F := F) hI (wr0 hI (by decide) hK) hg840) yv_L_isWrong rfl gL_law_L_isWrong xU_L rfl (Nat.le_of_ble_eq_true rfl) (by decide) ⟨by show _ ≤ 20000; omega, by show _ ≤ 130000; omega⟩ (fun x886 g886 hP886 hg886 => ?_)
      refine VB_em (x := x886) (fun e886 => VB_lo (lo' := 123) (Nat.le_add_right _ _) (VB_top (y := iZ 0) e886 ?_)) (fun e886 => VB_lo (lo' := 125) (by show 125 ≤ 123 + (if x886 = 0 then 0 else 2); rw [if_neg e886]; omega) ?_)
      · skip
        refine VB_if_eq (q := 892) (tgt := 968) dL_law_889 (by decide) (by decide) (fun _ => ?_) (fun hc => absurd hc (by decide))
        exact VB_widen (by omega) (by omega) (J968 g886 hg886)
      · skip
        refine VB_uif_eq (q := 892) (tgt := 968) dL_law_889 (by decide) ?_ ?_
        · skip
          refine VB_lo (lo' := 123) (by omega) ?_
          exact VB_widen (by omega) (by omega) (J968 g886 hg886)
        · skip
          refine VB_iload (q := 894) dL_law_892 8 rfl rfl ?_
          refine VB_bipush (q := 896) dL_law_894 (by decide) rfl ?_
          refine VB_irem (q := 897) (a := 29) (b := 16) dL_law_896 (by omega) (by decide) (by decide) rfl ?_
          refine VB_top (y := iZ 13) rfl ?_
          refine VB_if_gt (q := 900) (tgt := 943) dL_law_897 (by decide) (by decide) (fun _ => ?_) (fun hc => absurd hc (by decide))
          refine VB_iload (q := 945) dL_law_943 8 rfl rfl ?_
          refine VB_bipush (q := 947) dL_law_945 (by decide) rfl ?_
          refine VB_irem (q := 948) (a := 29) (b := 20) dL_law_947 (by omega) (by decide) (by decide) rfl ?_
          refine VB_top (y := iZ 9) rfl ?_
          refine VB_if_gt (q := 951) (tgt := 964) dL_law_948 (by decide) (by decide) (fun _ => ?_) (fun hc => absurd hc (by decide))
          refine VB_iconst (q := 965) dL_law_964 rfl ?_
          refine VB_goto (tgt := 969) dL_law_965 (by decide) ?_
          refine VB_istore (q := 971) (lv' := [(0, _), (1, _), (2, _), (3, _), (4, _), (5, _), (6, _), (7, _), (8, _), (9, _), (10, _)]) dL_law_969 (by decide) rfl rfl ?_
          refine VB_iinc (q := 974) (y := 30) (lv' := [(0, _), (1, _), (2, _), (3, _), (4, _), (5, _), (6, _), (7, _), (8, _), (9, _), (10, _)]) dL_law_971 8 rfl (by omega) (by decide) rfl rfl ?_
          refine VB_goto (tgt := 64) dL_law_974 (by decide) ?_
          refine VB_loc (lv' := [(0, _), (1, _), (2, _), (3, _), (4, _), (5, _), (6, _), (7, _), (8, _)]) [0, 1, 2, 3, 4, 5, 6, 7, 8] rfl ?_
          refine VB_lo (lo' := 123) (by omega) ?_
          exact VB_widen (by omega) (by omega) (rd30 hL h16 hx S F g886 hI (fun _ => hK) hg886)
set_option maxRecDepth 100000 in
set_option maxHeartbeats 8000000 in
theorem rd29 {s0 L : Nat} {xs : Nat → Int32} {a : Nat → Nat} {c : Nat → ClassId} {b : Nat → Nat} {d : Nat → ClassId} (hL : L ≤ 260) (h16 : 80 ≤ L) (hx : ∀ j, j < 80 → xs j = 31) : ∀ (S : St) (F : Nat → Nat → Int32) (g : Nat → Nat), Iv S F 4 → (0 < 29 → sK S 0 = 0) → (∀ j, g j < 4096) → VB 123 RL cL_law 17 (some .boolean) wsL_law roomB (vXL s0 L xs) (tyl c d) (qF 123) (3886) (23316 + 1250) (wal a c S b d F g) 64 [(0, .ref (s0)), (1, .ref (a 0)), (2, .ref (b 0)), (3, .ref (b 1)), (4, .ref (b 2)), (5, .ref (b 3)), (6, .ref (b 4)), (7, .int (iZ 1)), (8, .int (iZ 29))] [] := by
  intro S F g hI hK hg
  obtain ⟨ho, hn, hm4, hM0, hG, hC⟩ := id hI
  refine VB_iload (q := 66) dL_law_64 8 rfl rfl ?_
  refine VB_bipush (q := 68) dL_law_66 (by decide) rfl ?_
  refine VB_icmp_ge (q := 71) (tgt := 977) dL_law_68 (by decide) (by decide) (by decide) (fun hc => absurd hc (by decide)) (fun _ => ?_)
  refine VB_iload (q := 73) dL_law_71 7 rfl rfl ?_
  refine VB_if_eq (q := 76) (tgt := 977) dL_law_73 (by decide) (by decide) (fun hc => absurd hc (by decide)) (fun _ => ?_)
  refine VB_aload_n (q := 77) dL_law_76 0 rfl rfl ?_
  refine VB_iload (q := 79) dL_law_77 8 rfl rfl ?_
  refine VB_callD (q := 82) dL_law_79 (u_dice (b := s0) (L := L) (xs := xs) 29 (by omega) hL (hx 29 (by omega))) yv_L_dice rfl gL_law_L_dice xL_s rfl (Nat.le_of_ble_eq_true rfl) (by decide) ⟨by show _ ≤ 20000; omega, by show _ ≤ 130000; omega⟩ ?_
  refine VB_istore (q := 84) (lv' := [(0, _), (1, _), (2, _), (3, _), (4, _), (5, _), (6, _), (7, _), (8, _), (9, _)]) dL_law_82 (by decide) rfl rfl ?_
  refine VB_iload (q := 86) dL_law_84 9 rfl rfl ?_
  refine VB_bipush (q := 88) dL_law_86 (by decide) rfl ?_
  refine VB_idiv (q := 89) (a := 31) (b := 32) dL_law_88 (by omega) (by decide) (by decide) rfl ?_
  refine VB_top (y := iZ 0) rfl ?_
  refine VB_istore (q := 91) (lv' := [(0, _), (1, _), (2, _), (3, _), (4, _), (5, _), (6, _), (7, _), (8, _), (9, _), (10, _)]) dL_law_89 (by decide) rfl rfl ?_
  refine VB_iload (q := 93) dL_law_91 9 rfl rfl ?_
  refine VB_bipush (q := 95) dL_law_93 (by decide) rfl ?_
  refine VB_irem (q := 96) (a := 31) (b := 32) dL_law_95 (by omega) (by decide) (by decide) rfl ?_
  refine VB_top (y := iZ 31) rfl ?_
  refine VB_istore (q := 98) (lv' := [(0, _), (1, _), (2, _), (3, _), (4, _), (5, _), (6, _), (7, _), (8, _), (9, _), (10, _), (11, _)]) dL_law_96 (by decide) rfl rfl ?_
  refine VB_aload (q := 100) dL_law_98 6 rfl rfl ?_
  refine VB_iconst (q := 101) dL_law_100 rfl ?_
  refine VB_iald (q := 102) (v := (iZ 4)) dL_law_101 13 12 rfl rfl (0) (by omega) (by omega) (by decide) (hM0) rfl ?_
  refine VB_if_ne (q := 105) (tgt := 109) dL_law_102 (by decide) (by decide) (fun _ => ?_) (fun hc => absurd hc (by decide))
  refine VB_iload (q := 111) dL_law_109 10 rfl rfl ?_
  refine VB_aload (q := 113) dL_law_111 6 rfl rfl ?_
  refine VB_iconst (q := 114) dL_law_113 rfl ?_
  refine VB_iald (q := 115) (v := (iZ 4)) dL_law_114 13 12 rfl rfl (0) (by omega) (by omega) (by decide) (hM0) rfl ?_
  refine VB_irem (q := 116) (a := 0) (b := 4) dL_law_115 (by omega) (by decide) (by decide) rfl ?_
  refine VB_top (y := iZ 0) rfl ?_
  refine VB_istore (q := 118) (lv' := [(0, _), (1, _), (2, _), (3, _), (4, _), (5, _), (6, _), (7, _), (8, _), (9, _), (10, _), (11, _), (12, _)]) dL_law_116 (by decide) rfl rfl ?_
  refine VB_aload (q := 120) dL_law_118 6 rfl rfl ?_
  refine VB_iconst (q := 121) dL_law_120 rfl ?_
  refine VB_iald (q := 122) (v := (iZ 4)) dL_law_121 13 12 rfl rfl (0) (by omega) (by omega) (by decide) (hM0) rfl ?_
  refine VB_iconst (q := 123) dL_law_122 rfl ?_
  refine VB_icmp_lt (q := 126) (tgt := 141) dL_law_123 (by decide) (by decide) (by decide) (fun hc => absurd hc (by decide)) (fun _ => ?_)
  refine VB_iload (q := 128) dL_law_126 11 rfl rfl ?_
  refine VB_iconst (q := 129) dL_law_128 rfl ?_
  refine VB_icmp_ge (q := 132) (tgt := 326) dL_law_129 (by decide) (by decide) (by decide) (fun _ => ?_) (fun hc => absurd hc (by decide))
  refine VB_iload (q := 328) dL_law_326 11 rfl rfl ?_
  refine VB_bipush (q := 330) dL_law_328 (by decide) rfl ?_
  refine VB_icmp_ge (q := 333) (tgt := 451) dL_law_330 (by decide) (by decide) (by decide) (fun _ => ?_) (fun hc => absurd hc (by decide))
  refine VB_iload (q := 453) dL_law_451 11 rfl rfl ?_
  refine VB_bipush (q := 455) dL_law_453 (by decide) rfl ?_
  refine VB_icmp_ge (q := 458) (tgt := 603) dL_law_455 (by decide) (by decide) (by decide) (fun _ => ?_) (fun hc => absurd hc (by decide))
  refine VB_iload (q := 605) dL_law_603 11 rfl rfl ?_
  refine VB_bipush (q := 607) dL_law_605 (by decide) rfl ?_
  refine VB_icmp_ge (q := 610) (tgt := 633) dL_law_607 (by decide) (by decide) (by decide) (fun _ => ?_) (fun hc => absurd hc (by decide))
  refine VB_iload (q := 635) dL_law_633 11 rfl rfl ?_
  refine VB_bipush (q := 637) dL_law_635 (by decide) rfl ?_
  refine VB_icmp_ge (q := 640) (tgt := 677) dL_law_637 (by decide) (by decide) (by decide) (fun _ => ?_) (fun hc => absurd hc (by decide))
  refine VB_iload (q := 679) dL_law_677 11 rfl rfl ?_
  refine VB_bipush (q := 681) dL_law_679 (by decide) rfl ?_
  refine VB_icmp_ne (q := 684) (tgt := 783) dL_law_681 (by decide) (by decide) (by decide) (fun _ => ?_) (fun hc => absurd hc (by decide))
  refine VB_loc (lv' := [(0, _), (1, _), (2, _), (3, _), (4, _), (5, _), (6, _), (7, _), (8, _), (9, _), (10, _)]) [0, 1, 2, 3, 4, 5, 6, 7, 8, 9, 10] rfl ?_
  exact VB_widen (by omega) (by omega) (ck29 hL h16 hx S F g hI (hK (by decide)) hg)
set_option maxRecDepth 100000 in
set_option maxHeartbeats 8000000 in
theorem ck28 {s0 L : Nat} {xs : Nat → Int32} {a : Nat → Nat} {c : Nat → ClassId} {b : Nat → Nat} {d : Nat → ClassId} (hL : L ≤ 260) (h16 : 80 ≤ L) (hx : ∀ j, j < 80 → xs j = 31) : ∀ (S : St) (F : Nat → Nat → Int32) (g : Nat → Nat), Iv S F 4 → sK S 0 = 0 → (∀ j, g j < 4096) → VB 123 RL cL_law 17 (some .boolean) wsL_law roomB (vXL s0 L xs) (tyl c d) (qF 123) (3666) (21996 + 1250) (wal a c S b d F g) 783 [(0, .ref (s0)), (1, .ref (a 0)), (2, .ref (b 0)), (3, .ref (b 1)), (4, .ref (b 2)), (5, .ref (b 3)), (6, .ref (b 4)), (7, .int (iZ 1)), (8, .int (iZ 28)), (9, .int (iZ 31)), (10, .int (iZ 0))] [] := by
  intro S F g hI hK hg
  obtain ⟨ho, hn, hm4, hM0, hG, hC⟩ := id hI
  refine VB_iload (q := 785) dL_law_783 7 rfl rfl ?_
  refine VB_if_eq (q := 788) (tgt := 968) dL_law_785 (by decide) (by decide) (fun hc => absurd hc (by decide)) (fun _ => ?_)
  refine VB_aload_n (q := 789) dL_law_788 1 rfl rfl ?_
  refine VB_aload_n (q := 790) dL_law_789 2 rfl rfl ?_
  refine VB_aload_n (q := 791) dL_law_790 3 rfl rfl ?_
  refine VB_aload (q := 793) dL_law_791 6 rfl rfl ?_
  refine VB_callU (q := 796) dL_law_793 (u_areThings (a := a) (c := c) (S := S) (b := b) (d := d) (F := F) hI hg) yv_L_areThings rfl gL_law_L_areThings xU_L rfl (Nat.le_of_ble_eq_true rfl) (by decide) ⟨by show _ ≤ 20000; omega, by show _ ≤ 130000; omega⟩ (fun x793 g793 hP793 hg793 => ?_)
  refine VB_lo (lo' := 123) (Nat.le_add_right _ _) ?_
  have J968 : ∀ (gj968 : Nat → Nat), (∀ j, gj968 j < 4096) → VB 123 RL cL_law 17 (some .boolean) wsL_law roomB (vXL s0 L xs) (tyl c d) (qF 123) (3886) (23316 + 1250) (wal a c S b d F gj968) 968 [(0, .ref (s0)), (1, .ref (a 0)), (2, .ref (b 0)), (3, .ref (b 1)), (4, .ref (b 2)), (5, .ref (b 3)), (6, .ref (b 4)), (7, .int (iZ 1)), (8, .int (iZ 28)), (9, .int (iZ 31)), (10, .int (iZ 0))] [] := by
    intro gj968 hgj968
    refine VB_iconst (q := 969) dL_law_968 rfl ?_
    refine VB_istore (q := 971) (lv' := [(0, _), (1, _), (2, _), (3, _), (4, _), (5, _), (6, _), (7, _), (8, _), (9, _), (10, _)]) dL_law_969 (by decide) rfl rfl ?_
    refine VB_iinc (q := 974) (y := 29) (lv' := [(0, _), (1, _), (2, _), (3, _), (4, _), (5, _), (6, _), (7, _), (8, _), (9, _), (10, _)]) dL_law_971 8 rfl (by omega) (by decide) rfl rfl ?_
    refine VB_goto (tgt := 64) dL_law_974 (by decide) ?_
    refine VB_iload (q := 66) dL_law_64 8 rfl rfl ?_
    refine VB_bipush (q := 68) dL_law_66 (by decide) rfl ?_
    refine VB_icmp_ge (q := 71) (tgt := 977) dL_law_68 (by decide) (by decide) (by decide) (fun hc => absurd hc (by decide)) (fun _ => ?_)
    refine VB_iload (q := 73) dL_law_71 7 rfl rfl ?_
    refine VB_if_eq (q := 76) (tgt := 977) dL_law_73 (by decide) (by decide) (fun _ => ?_) (fun hc => absurd hc (by decide))
    refine VB_iload (q := 979) dL_law_977 7 rfl rfl ?_
    exact VB_ret0 dL_law_979 rfl
  refine VB_uif_eq (q := 799) (tgt := 968) dL_law_796 (by decide) ?_ ?_
  · skip
    exact VB_widen (by omega) (by omega) (J968 g793 hg793)
  · skip
    refine VB_iload (q := 801) dL_law_799 8 rfl rfl ?_
    refine VB_iconst (q := 802) dL_law_801 rfl ?_
    refine VB_irem (q := 803) (a := 28) (b := 2) dL_law_802 (by omega) (by decide) (by decide) rfl ?_
    refine VB_top (y := iZ 0) rfl ?_
    refine VB_if_gt (q := 806) (tgt := 833) dL_law_803 (by decide) (by decide) (fun hc => absurd hc (by decide)) (fun _ => ?_)
    refine VB_aload_n (q := 807) dL_law_806 1 rfl rfl ?_
    refine VB_aload_n (q := 808) dL_law_807 2 rfl rfl ?_
    refine VB_aload_n (q := 809) dL_law_808 3 rfl rfl ?_
    refine VB_aload (q := 811) dL_law_809 4 rfl rfl ?_
    refine VB_aload (q := 813) dL_law_811 6 rfl rfl ?_
    refine VB_iload (q := 815) dL_law_813 10 rfl rfl ?_
    refine VB_bipush (q := 817) dL_law_815 (by decide) rfl ?_
    refine VB_irem (q := 818) (a := 0) (b := 31) dL_law_817 (by omega) (by decide) (by decide) rfl ?_
    refine VB_top (y := iZ 0) rfl ?_
    refine VB_iload (q := 820) dL_law_818 10 rfl rfl ?_
    refine VB_bipush (q := 822) dL_law_820 (by decide) rfl ?_
    refine VB_idiv (q := 823) (a := 0) (b := 31) dL_law_822 (by omega) (by decide) (by decide) rfl ?_
    refine VB_top (y := iZ 0) rfl ?_
    refine VB_sipush (q := 826) dL_law_823 (by decide) rfl ?_
    refine VB_irem (q := 827) (a := 0) (b := 256) dL_law_826 (by omega) (by decide) (by decide) rfl ?_
    refine VB_top (y := iZ 0) rfl ?_
    refine VB_callU (q := 830) dL_law_827 (u_areOutfits (a := a) (c := c) (S := S) (b := b) (d := d) (F := F) hI hg793) yv_L_areOutfits rfl gL_law_L_areOutfits xU_L rfl (Nat.le_of_ble_eq_true rfl) (by decide) ⟨by show _ ≤ 20000; omega, by show _ ≤ 130000; omega⟩ (fun x827 g827 hP827 hg827 => ?_)
    refine VB_lo (lo' := 123) (Nat.le_add_right _ _) ?_
    refine VB_uif_eq (q := 833) (tgt := 968) dL_law_830 (by decide) ?_ ?_
    · skip
      exact VB_widen (by omega) (by omega) (J968 g827 hg827)
    · skip
      refine VB_aload_n (q := 834) dL_law_833 1 rfl rfl ?_
      refine VB_aload_n (q := 835) dL_law_834 2 rfl rfl ?_
      refine VB_aload_n (q := 836) dL_law_835 3 rfl rfl ?_
      refine VB_aload (q := 838) dL_law_836 4 rfl rfl ?_
      refine VB_aload (q := 840) dL_law_838 6 rfl rfl ?_
      refine VB_callU (q := 843) dL_law_840 (u_isMissing (a := a) (c := c) (S := S) (b := b) (d := d) (F := F) hI hg827) yv_L_isMissing rfl gL_law_L_isMissing xU_L rfl (Nat.le_of_ble_eq_true rfl) (by decide) ⟨by show _ ≤ 20000; omega, by show _ ≤ 130000; omega⟩ (fun x840 g840 hP840 hg840 => ?_)
      refine VB_lo (lo' := 123) (Nat.le_add_right _ _) ?_
      refine VB_uif_eq (q := 846) (tgt := 968) dL_law_843 (by decide) ?_ ?_
      · skip
        exact VB_widen (by omega) (by omega) (J968 g840 hg840)
      · skip
        refine VB_aload_n (q := 847) dL_law_846 1 rfl rfl ?_
        refine VB_aload_n (q := 848) dL_law_847 2 rfl rfl ?_
        refine VB_aload (q := 850) dL_law_848 6 rfl rfl ?_
        refine VB_iload (q := 852) dL_law_850 10 rfl rfl ?_
        refine VB_aload (q := 854) dL_law_852 6 rfl rfl ?_
        refine VB_iconst (q := 855) dL_law_854 rfl ?_
        refine VB_iald (q := 856) (v := (iZ 4)) dL_law_855 13 12 rfl rfl (0) (by omega) (by omega) (by decide) (hM0) rfl ?_
        refine VB_iconst (q := 857) dL_law_856 rfl ?_
        refine VB_iadd (q := 858) dL_law_857 rfl ?_
        refine VB_top (y := iZ 5) rfl ?_
        refine VB_irem (q := 859) (a := 0) (b := 5) dL_law_858 (by omega) (by decide) (by decide) rfl ?_
        refine VB_top (y := iZ 0) rfl ?_
        refine VB_iload (q := 861) dL_law_859 10 rfl rfl ?_
        refine VB_bipush (q := 863) dL_law_861 (by decide) rfl ?_
        refine VB_idiv (q := 864) (a := 0) (b := 13) dL_law_863 (by omega) (by decide) (by decide) rfl ?_
        refine VB_top (y := iZ 0) rfl ?_
        refine VB_aload (q := 866) dL_law_864 6 rfl rfl ?_
        refine VB_iconst (q := 867) dL_law_866 rfl ?_
        refine VB_iald (q := 868) (v := (iZ 4)) dL_law_867 13 12 rfl rfl (0) (by omega) (by omega) (by decide) (hM0) rfl ?_
        refine VB_iconst (q := 869) dL_law_868 rfl ?_
        refine VB_iadd (q := 870) dL_law_869 rfl ?_
        refine VB_top (y := iZ 5) rfl ?_
        refine VB_irem (q := 871) (a := 0) (b := 5) dL_law_870 (by omega) (by decide) (by decide) rfl ?_
        refine VB_top (y := iZ 0) rfl ?_
        refine VB_iload (q := 873) dL_law_871 10 rfl rfl ?_
        refine VB_sipush (q := 876) dL_law_873 (by decide) rfl ?_
        refine VB_idiv (q := 877) (a := 0) (b := 169) dL_law_876 (by omega) (by decide) (by decide) rfl ?_
        refine VB_top (y := iZ 0) rfl ?_
        refine VB_aload (q := 879) dL_law_877 6 rfl rfl ?_
        refine VB_iconst (q := 880) dL_law_879 rfl ?_
        refine VB_iald (q := 881) (v := (iZ 4)) dL_law_880 13 12 rfl rfl (0) (by omega) (by omega) (by decide) (hM0) rfl ?_
        refine VB_iconst (q := 882) dL_law_881 rfl ?_
        refine VB_iadd (q := 883) dL_law_882 rfl ?_
        refine VB_top (y := iZ 6) rfl ?_
        refine VB_irem (q := 884) (a := 0) (b := 6) dL_law_883 (by omega) (by decide) (by decide) rfl ?_
        refine VB_top (y := iZ 0) rfl ?_
        refine VB_iconst (q := 885) dL_law_884 rfl ?_
        refine VB_isub (q := 886) dL_law_885 rfl ?_
        refine VB_top (y := iZ (-1)) rfl ?_
        refine VB_callU (q := 889) dL_law_886 (u_isWrong (a := a) (c := c) (S := S) (b := b) (d := d) (F := F) hI (wr0 hI (by decide) hK) hg840) yv_L_isWrong rfl gL_law_L_isWrong xU_L rfl (Nat.le_of_ble_eq_true rfl) (by decide) ⟨by show _ ≤ 20000; omega, by show _ ≤ 130000; omega⟩ (fun x886 g886 hP886 hg886 => ?_)
        refine VB_em (x := x886) (fun e886 => VB_lo (lo' := 123) (Nat.le_add_right _ _) (VB_top (y := iZ 0) e886 ?_)) (fun e886 => VB_lo (lo' := 125) (by show 125 ≤ 123 + (if x886 = 0 then 0 else 2); rw [if_neg e886]; omega) ?_)
        · skip
          refine VB_if_eq (q := 892) (tgt := 968) dL_law_889 (by decide) (by decide) (fun _ => ?_) (fun hc => absurd hc (by decide))
          exact VB_widen (by omega) (by omega) (J968 g886 hg886)
        · skip
          refine VB_uif_eq (q := 892) (tgt := 968) dL_law_889 (by decide) ?_ ?_
          · skip
            refine VB_lo (lo' := 123) (by omega) ?_
            exact VB_widen (by omega) (by omega) (J968 g886 hg886)
          · skip
            refine VB_iload (q := 894) dL_law_892 8 rfl rfl ?_
            refine VB_bipush (q := 896) dL_law_894 (by decide) rfl ?_
            refine VB_irem (q := 897) (a := 28) (b := 16) dL_law_896 (by omega) (by decide) (by decide) rfl ?_
            refine VB_top (y := iZ 12) rfl ?_
            refine VB_if_gt (q := 900) (tgt := 943) dL_law_897 (by decide) (by decide) (fun _ => ?_) (fun hc => absurd hc (by decide))
            refine VB_iload (q := 945) dL_law_943 8 rfl rfl ?_
            refine VB_bipush (q := 947) dL_law_945 (by decide) rfl ?_
            refine VB_irem (q := 948) (a := 28) (b := 20) dL_law_947 (by omega) (by decide) (by decide) rfl ?_
            refine VB_top (y := iZ 8) rfl ?_
            refine VB_if_gt (q := 951) (tgt := 964) dL_law_948 (by decide) (by decide) (fun _ => ?_) (fun hc => absurd hc (by decide))
            refine VB_iconst (q := 965) dL_law_964 rfl ?_
            refine VB_goto (tgt := 969) dL_law_965 (by decide) ?_
            refine VB_istore (q := 971) (lv' := [(0, _), (1, _), (2, _), (3, _), (4, _), (5, _), (6, _), (7, _), (8, _), (9, _), (10, _)]) dL_law_969 (by decide) rfl rfl ?_
            refine VB_iinc (q := 974) (y := 29) (lv' := [(0, _), (1, _), (2, _), (3, _), (4, _), (5, _), (6, _), (7, _), (8, _), (9, _), (10, _)]) dL_law_971 8 rfl (by omega) (by decide) rfl rfl ?_
            refine VB_goto (tgt := 64) dL_law_974 (by decide) ?_
            refine VB_loc (lv' := [(0, _), (1, _), (2, _), (3, _), (4, _), (5, _), (6, _), (7, _), (8, _)]) [0, 1, 2, 3, 4, 5, 6, 7, 8] rfl ?_
            refine VB_lo (lo' := 123) (by omega) ?_
            exact VB_widen (by omega) (by omega) (rd29 hL h16 hx S F g886 hI (fun _ => hK) hg886)
set_option maxRecDepth 100000 in
set_option maxHeartbeats 8000000 in
theorem rd28 {s0 L : Nat} {xs : Nat → Int32} {a : Nat → Nat} {c : Nat → ClassId} {b : Nat → Nat} {d : Nat → ClassId} (hL : L ≤ 260) (h16 : 80 ≤ L) (hx : ∀ j, j < 80 → xs j = 31) : ∀ (S : St) (F : Nat → Nat → Int32) (g : Nat → Nat), Iv S F 4 → (0 < 28 → sK S 0 = 0) → (∀ j, g j < 4096) → VB 123 RL cL_law 17 (some .boolean) wsL_law roomB (vXL s0 L xs) (tyl c d) (qF 123) (3666) (21996 + 1250) (wal a c S b d F g) 64 [(0, .ref (s0)), (1, .ref (a 0)), (2, .ref (b 0)), (3, .ref (b 1)), (4, .ref (b 2)), (5, .ref (b 3)), (6, .ref (b 4)), (7, .int (iZ 1)), (8, .int (iZ 28))] [] := by
  intro S F g hI hK hg
  obtain ⟨ho, hn, hm4, hM0, hG, hC⟩ := id hI
  refine VB_iload (q := 66) dL_law_64 8 rfl rfl ?_
  refine VB_bipush (q := 68) dL_law_66 (by decide) rfl ?_
  refine VB_icmp_ge (q := 71) (tgt := 977) dL_law_68 (by decide) (by decide) (by decide) (fun hc => absurd hc (by decide)) (fun _ => ?_)
  refine VB_iload (q := 73) dL_law_71 7 rfl rfl ?_
  refine VB_if_eq (q := 76) (tgt := 977) dL_law_73 (by decide) (by decide) (fun hc => absurd hc (by decide)) (fun _ => ?_)
  refine VB_aload_n (q := 77) dL_law_76 0 rfl rfl ?_
  refine VB_iload (q := 79) dL_law_77 8 rfl rfl ?_
  refine VB_callD (q := 82) dL_law_79 (u_dice (b := s0) (L := L) (xs := xs) 28 (by omega) hL (hx 28 (by omega))) yv_L_dice rfl gL_law_L_dice xL_s rfl (Nat.le_of_ble_eq_true rfl) (by decide) ⟨by show _ ≤ 20000; omega, by show _ ≤ 130000; omega⟩ ?_
  refine VB_istore (q := 84) (lv' := [(0, _), (1, _), (2, _), (3, _), (4, _), (5, _), (6, _), (7, _), (8, _), (9, _)]) dL_law_82 (by decide) rfl rfl ?_
  refine VB_iload (q := 86) dL_law_84 9 rfl rfl ?_
  refine VB_bipush (q := 88) dL_law_86 (by decide) rfl ?_
  refine VB_idiv (q := 89) (a := 31) (b := 32) dL_law_88 (by omega) (by decide) (by decide) rfl ?_
  refine VB_top (y := iZ 0) rfl ?_
  refine VB_istore (q := 91) (lv' := [(0, _), (1, _), (2, _), (3, _), (4, _), (5, _), (6, _), (7, _), (8, _), (9, _), (10, _)]) dL_law_89 (by decide) rfl rfl ?_
  refine VB_iload (q := 93) dL_law_91 9 rfl rfl ?_
  refine VB_bipush (q := 95) dL_law_93 (by decide) rfl ?_
  refine VB_irem (q := 96) (a := 31) (b := 32) dL_law_95 (by omega) (by decide) (by decide) rfl ?_
  refine VB_top (y := iZ 31) rfl ?_
  refine VB_istore (q := 98) (lv' := [(0, _), (1, _), (2, _), (3, _), (4, _), (5, _), (6, _), (7, _), (8, _), (9, _), (10, _), (11, _)]) dL_law_96 (by decide) rfl rfl ?_
  refine VB_aload (q := 100) dL_law_98 6 rfl rfl ?_
  refine VB_iconst (q := 101) dL_law_100 rfl ?_
  refine VB_iald (q := 102) (v := (iZ 4)) dL_law_101 13 12 rfl rfl (0) (by omega) (by omega) (by decide) (hM0) rfl ?_
  refine VB_if_ne (q := 105) (tgt := 109) dL_law_102 (by decide) (by decide) (fun _ => ?_) (fun hc => absurd hc (by decide))
  refine VB_iload (q := 111) dL_law_109 10 rfl rfl ?_
  refine VB_aload (q := 113) dL_law_111 6 rfl rfl ?_
  refine VB_iconst (q := 114) dL_law_113 rfl ?_
  refine VB_iald (q := 115) (v := (iZ 4)) dL_law_114 13 12 rfl rfl (0) (by omega) (by omega) (by decide) (hM0) rfl ?_
  refine VB_irem (q := 116) (a := 0) (b := 4) dL_law_115 (by omega) (by decide) (by decide) rfl ?_
  refine VB_top (y := iZ 0) rfl ?_
  refine VB_istore (q := 118) (lv' := [(0, _), (1, _), (2, _), (3, _), (4, _), (5, _), (6, _), (7, _), (8, _), (9, _), (10, _), (11, _), (12, _)]) dL_law_116 (by decide) rfl rfl ?_
  refine VB_aload (q := 120) dL_law_118 6 rfl rfl ?_
  refine VB_iconst (q := 121) dL_law_120 rfl ?_
  refine VB_iald (q := 122) (v := (iZ 4)) dL_law_121 13 12 rfl rfl (0) (by omega) (by omega) (by decide) (hM0) rfl ?_
  refine VB_iconst (q := 123) dL_law_122 rfl ?_
  refine VB_icmp_lt (q := 126) (tgt := 141) dL_law_123 (by decide) (by decide) (by decide) (fun hc => absurd hc (by decide)) (fun _ => ?_)
  refine VB_iload (q := 128) dL_law_126 11 rfl rfl ?_
  refine VB_iconst (q := 129) dL_law_128 rfl ?_
  refine VB_icmp_ge (q := 132) (tgt := 326) dL_law_129 (by decide) (by decide) (by decide) (fun _ => ?_) (fun hc => absurd hc (by decide))
  refine VB_iload (q := 328) dL_law_326 11 rfl rfl ?_
  refine VB_bipush (q := 330) dL_law_328 (by decide) rfl ?_
  refine VB_icmp_ge (q := 333) (tgt := 451) dL_law_330 (by decide) (by decide) (by decide) (fun _ => ?_) (fun hc => absurd hc (by decide))
  refine VB_iload (q := 453) dL_law_451 11 rfl rfl ?_
  refine VB_bipush (q := 455) dL_law_453 (by decide) rfl ?_
  refine VB_icmp_ge (q := 458) (tgt := 603) dL_law_455 (by decide) (by decide) (by decide) (fun _ => ?_) (fun hc => absurd hc (by decide))
  refine VB_iload (q := 605) dL_law_603 11 rfl rfl ?_
  refine VB_bipush (q := 607) dL_law_605 (by decide) rfl ?_
  refine VB_icmp_ge (q := 610) (tgt := 633) dL_law_607 (by decide) (by decide) (by decide) (fun _ => ?_) (fun hc => absurd hc (by decide))
  refine VB_iload (q := 635) dL_law_633 11 rfl rfl ?_
  refine VB_bipush (q := 637) dL_law_635 (by decide) rfl ?_
  refine VB_icmp_ge (q := 640) (tgt := 677) dL_law_637 (by decide) (by decide) (by decide) (fun _ => ?_) (fun hc => absurd hc (by decide))
  refine VB_iload (q := 679) dL_law_677 11 rfl rfl ?_
  refine VB_bipush (q := 681) dL_law_679 (by decide) rfl ?_
  refine VB_icmp_ne (q := 684) (tgt := 783) dL_law_681 (by decide) (by decide) (by decide) (fun _ => ?_) (fun hc => absurd hc (by decide))
  refine VB_loc (lv' := [(0, _), (1, _), (2, _), (3, _), (4, _), (5, _), (6, _), (7, _), (8, _), (9, _), (10, _)]) [0, 1, 2, 3, 4, 5, 6, 7, 8, 9, 10] rfl ?_
  exact VB_widen (by omega) (by omega) (ck28 hL h16 hx S F g hI (hK (by decide)) hg)
set_option maxRecDepth 100000 in
set_option maxHeartbeats 8000000 in
theorem ck27 {s0 L : Nat} {xs : Nat → Int32} {a : Nat → Nat} {c : Nat → ClassId} {b : Nat → Nat} {d : Nat → ClassId} (hL : L ≤ 260) (h16 : 80 ≤ L) (hx : ∀ j, j < 80 → xs j = 31) : ∀ (S : St) (F : Nat → Nat → Int32) (g : Nat → Nat), Iv S F 4 → sK S 0 = 0 → (∀ j, g j < 4096) → VB 123 RL cL_law 17 (some .boolean) wsL_law roomB (vXL s0 L xs) (tyl c d) (qF 123) (3646) (21876 + 1250) (wal a c S b d F g) 783 [(0, .ref (s0)), (1, .ref (a 0)), (2, .ref (b 0)), (3, .ref (b 1)), (4, .ref (b 2)), (5, .ref (b 3)), (6, .ref (b 4)), (7, .int (iZ 1)), (8, .int (iZ 27)), (9, .int (iZ 31)), (10, .int (iZ 0))] [] := by
  intro S F g hI hK hg
  obtain ⟨ho, hn, hm4, hM0, hG, hC⟩ := id hI
  refine VB_iload (q := 785) dL_law_783 7 rfl rfl ?_
  refine VB_if_eq (q := 788) (tgt := 968) dL_law_785 (by decide) (by decide) (fun hc => absurd hc (by decide)) (fun _ => ?_)
  refine VB_aload_n (q := 789) dL_law_788 1 rfl rfl ?_
  refine VB_aload_n (q := 790) dL_law_789 2 rfl rfl ?_
  refine VB_aload_n (q := 791) dL_law_790 3 rfl rfl ?_
  refine VB_aload (q := 793) dL_law_791 6 rfl rfl ?_
  refine VB_callU (q := 796) dL_law_793 (u_areThings (a := a) (c := c) (S := S) (b := b) (d := d) (F := F) hI hg) yv_L_areThings rfl gL_law_L_areThings xU_L rfl (Nat.le_of_ble_eq_true rfl) (by decide) ⟨by show _ ≤ 20000; omega, by show _ ≤ 130000; omega⟩ (fun x793 g793 hP793 hg793 => ?_)
  refine VB_lo (lo' := 123) (Nat.le_add_right _ _) ?_
  have J968 : ∀ (gj968 : Nat → Nat), (∀ j, gj968 j < 4096) → VB 123 RL cL_law 17 (some .boolean) wsL_law roomB (vXL s0 L xs) (tyl c d) (qF 123) (3666) (21996 + 1250) (wal a c S b d F gj968) 968 [(0, .ref (s0)), (1, .ref (a 0)), (2, .ref (b 0)), (3, .ref (b 1)), (4, .ref (b 2)), (5, .ref (b 3)), (6, .ref (b 4)), (7, .int (iZ 1)), (8, .int (iZ 27)), (9, .int (iZ 31)), (10, .int (iZ 0))] [] := by
    intro gj968 hgj968
    refine VB_iconst (q := 969) dL_law_968 rfl ?_
    refine VB_istore (q := 971) (lv' := [(0, _), (1, _), (2, _), (3, _), (4, _), (5, _), (6, _), (7, _), (8, _), (9, _), (10, _)]) dL_law_969 (by decide) rfl rfl ?_
    refine VB_iinc (q := 974) (y := 28) (lv' := [(0, _), (1, _), (2, _), (3, _), (4, _), (5, _), (6, _), (7, _), (8, _), (9, _), (10, _)]) dL_law_971 8 rfl (by omega) (by decide) rfl rfl ?_
    refine VB_goto (tgt := 64) dL_law_974 (by decide) ?_
    refine VB_iload (q := 66) dL_law_64 8 rfl rfl ?_
    refine VB_bipush (q := 68) dL_law_66 (by decide) rfl ?_
    refine VB_icmp_ge (q := 71) (tgt := 977) dL_law_68 (by decide) (by decide) (by decide) (fun hc => absurd hc (by decide)) (fun _ => ?_)
    refine VB_iload (q := 73) dL_law_71 7 rfl rfl ?_
    refine VB_if_eq (q := 76) (tgt := 977) dL_law_73 (by decide) (by decide) (fun _ => ?_) (fun hc => absurd hc (by decide))
    refine VB_iload (q := 979) dL_law_977 7 rfl rfl ?_
    exact VB_ret0 dL_law_979 rfl
  refine VB_uif_eq (q := 799) (tgt := 968) dL_law_796 (by decide) ?_ ?_
  · skip
    exact VB_widen (by omega) (by omega) (J968 g793 hg793)
  · skip
    refine VB_iload (q := 801) dL_law_799 8 rfl rfl ?_
    refine VB_iconst (q := 802) dL_law_801 rfl ?_
    refine VB_irem (q := 803) (a := 27) (b := 2) dL_law_802 (by omega) (by decide) (by decide) rfl ?_
    refine VB_top (y := iZ 1) rfl ?_
    refine VB_if_gt (q := 806) (tgt := 833) dL_law_803 (by decide) (by decide) (fun _ => ?_) (fun hc => absurd hc (by decide))
    refine VB_aload_n (q := 834) dL_law_833 1 rfl rfl ?_
    refine VB_aload_n (q := 835) dL_law_834 2 rfl rfl ?_
    refine VB_aload_n (q := 836) dL_law_835 3 rfl rfl ?_
    refine VB_aload (q := 838) dL_law_836 4 rfl rfl ?_
    refine VB_aload (q := 840) dL_law_838 6 rfl rfl ?_
    refine VB_callU (q := 843) dL_law_840 (u_isMissing (a := a) (c := c) (S := S) (b := b) (d := d) (F := F) hI hg793) yv_L_isMissing rfl gL_law_L_isMissing xU_L rfl (Nat.le_of_ble_eq_true rfl) (by decide) ⟨by show _ ≤ 20000; omega, by show _ ≤ 130000; omega⟩ (fun x840 g840 hP840 hg840 => ?_)
    refine VB_lo (lo' := 123) (Nat.le_add_right _ _) ?_
    refine VB_uif_eq (q := 846) (tgt := 968) dL_law_843 (by decide) ?_ ?_
    · skip
      exact VB_widen (by omega) (by omega) (J968 g840 hg840)
    · skip
      refine VB_aload_n (q := 847) dL_law_846 1 rfl rfl ?_
      refine VB_aload_n (q := 848) dL_law_847 2 rfl rfl ?_
      refine VB_aload (q := 850) dL_law_848 6 rfl rfl ?_
      refine VB_iload (q := 852) dL_law_850 10 rfl rfl ?_
      refine VB_aload (q := 854) dL_law_852 6 rfl rfl ?_
      refine VB_iconst (q := 855) dL_law_854 rfl ?_
      refine VB_iald (q := 856) (v := (iZ 4)) dL_law_855 13 12 rfl rfl (0) (by omega) (by omega) (by decide) (hM0) rfl ?_
      refine VB_iconst (q := 857) dL_law_856 rfl ?_
      refine VB_iadd (q := 858) dL_law_857 rfl ?_
      refine VB_top (y := iZ 5) rfl ?_
      refine VB_irem (q := 859) (a := 0) (b := 5) dL_law_858 (by omega) (by decide) (by decide) rfl ?_
      refine VB_top (y := iZ 0) rfl ?_
      refine VB_iload (q := 861) dL_law_859 10 rfl rfl ?_
      refine VB_bipush (q := 863) dL_law_861 (by decide) rfl ?_
      refine VB_idiv (q := 864) (a := 0) (b := 13) dL_law_863 (by omega) (by decide) (by decide) rfl ?_
      refine VB_top (y := iZ 0) rfl ?_
      refine VB_aload (q := 866) dL_law_864 6 rfl rfl ?_
      refine VB_iconst (q := 867) dL_law_866 rfl ?_
      refine VB_iald (q := 868) (v := (iZ 4)) dL_law_867 13 12 rfl rfl (0) (by omega) (by omega) (by decide) (hM0) rfl ?_
      refine VB_iconst (q := 869) dL_law_868 rfl ?_
      refine VB_iadd (q := 870) dL_law_869 rfl ?_
      refine VB_top (y := iZ 5) rfl ?_
      refine VB_irem (q := 871) (a := 0) (b := 5) dL_law_870 (by omega) (by decide) (by decide) rfl ?_
      refine VB_top (y := iZ 0) rfl ?_
      refine VB_iload (q := 873) dL_law_871 10 rfl rfl ?_
      refine VB_sipush (q := 876) dL_law_873 (by decide) rfl ?_
      refine VB_idiv (q := 877) (a := 0) (b := 169) dL_law_876 (by omega) (by decide) (by decide) rfl ?_
      refine VB_top (y := iZ 0) rfl ?_
      refine VB_aload (q := 879) dL_law_877 6 rfl rfl ?_
      refine VB_iconst (q := 880) dL_law_879 rfl ?_
      refine VB_iald (q := 881) (v := (iZ 4)) dL_law_880 13 12 rfl rfl (0) (by omega) (by omega) (by decide) (hM0) rfl ?_
      refine VB_iconst (q := 882) dL_law_881 rfl ?_
      refine VB_iadd (q := 883) dL_law_882 rfl ?_
      refine VB_top (y := iZ 6) rfl ?_
      refine VB_irem (q := 884) (a := 0) (b := 6) dL_law_883 (by omega) (by decide) (by decide) rfl ?_
      refine VB_top (y := iZ 0) rfl ?_
      refine VB_iconst (q := 885) dL_law_884 rfl ?_
      refine VB_isub (q := 886) dL_law_885 rfl ?_
      refine VB_top (y := iZ (-1)) rfl ?_
      refine VB_callU (q := 889) dL_law_886 (u_isWrong (a := a) (c := c) (S := S) (b := b) (d := d) (F := F) hI (wr0 hI (by decide) hK) hg840) yv_L_isWrong rfl gL_law_L_isWrong xU_L rfl (Nat.le_of_ble_eq_true rfl) (by decide) ⟨by show _ ≤ 20000; omega, by show _ ≤ 130000; omega⟩ (fun x886 g886 hP886 hg886 => ?_)
      refine VB_em (x := x886) (fun e886 => VB_lo (lo' := 123) (Nat.le_add_right _ _) (VB_top (y := iZ 0) e886 ?_)) (fun e886 => VB_lo (lo' := 125) (by show 125 ≤ 123 + (if x886 = 0 then 0 else 2); rw [if_neg e886]; omega) ?_)
      · skip
        refine VB_if_eq (q := 892) (tgt := 968) dL_law_889 (by decide) (by decide) (fun _ => ?_) (fun hc => absurd hc (by decide))
        exact VB_widen (by omega) (by omega) (J968 g886 hg886)
      · skip
        refine VB_uif_eq (q := 892) (tgt := 968) dL_law_889 (by decide) ?_ ?_
        · skip
          refine VB_lo (lo' := 123) (by omega) ?_
          exact VB_widen (by omega) (by omega) (J968 g886 hg886)
        · skip
          refine VB_iload (q := 894) dL_law_892 8 rfl rfl ?_
          refine VB_bipush (q := 896) dL_law_894 (by decide) rfl ?_
          refine VB_irem (q := 897) (a := 27) (b := 16) dL_law_896 (by omega) (by decide) (by decide) rfl ?_
          refine VB_top (y := iZ 11) rfl ?_
          refine VB_if_gt (q := 900) (tgt := 943) dL_law_897 (by decide) (by decide) (fun _ => ?_) (fun hc => absurd hc (by decide))
          refine VB_iload (q := 945) dL_law_943 8 rfl rfl ?_
          refine VB_bipush (q := 947) dL_law_945 (by decide) rfl ?_
          refine VB_irem (q := 948) (a := 27) (b := 20) dL_law_947 (by omega) (by decide) (by decide) rfl ?_
          refine VB_top (y := iZ 7) rfl ?_
          refine VB_if_gt (q := 951) (tgt := 964) dL_law_948 (by decide) (by decide) (fun _ => ?_) (fun hc => absurd hc (by decide))
          refine VB_iconst (q := 965) dL_law_964 rfl ?_
          refine VB_goto (tgt := 969) dL_law_965 (by decide) ?_
          refine VB_istore (q := 971) (lv' := [(0, _), (1, _), (2, _), (3, _), (4, _), (5, _), (6, _), (7, _), (8, _), (9, _), (10, _)]) dL_law_969 (by decide) rfl rfl ?_
          refine VB_iinc (q := 974) (y := 28) (lv' := [(0, _), (1, _), (2, _), (3, _), (4, _), (5, _), (6, _), (7, _), (8, _), (9, _), (10, _)]) dL_law_971 8 rfl (by omega) (by decide) rfl rfl ?_
          refine VB_goto (tgt := 64) dL_law_974 (by decide) ?_
          refine VB_loc (lv' := [(0, _), (1, _), (2, _), (3, _), (4, _), (5, _), (6, _), (7, _), (8, _)]) [0, 1, 2, 3, 4, 5, 6, 7, 8] rfl ?_
          refine VB_lo (lo' := 123) (by omega) ?_
          exact VB_widen (by omega) (by omega) (rd28 hL h16 hx S F g886 hI (fun _ => hK) hg886)
set_option maxRecDepth 100000 in
set_option maxHeartbeats 8000000 in
theorem rd27 {s0 L : Nat} {xs : Nat → Int32} {a : Nat → Nat} {c : Nat → ClassId} {b : Nat → Nat} {d : Nat → ClassId} (hL : L ≤ 260) (h16 : 80 ≤ L) (hx : ∀ j, j < 80 → xs j = 31) : ∀ (S : St) (F : Nat → Nat → Int32) (g : Nat → Nat), Iv S F 4 → (0 < 27 → sK S 0 = 0) → (∀ j, g j < 4096) → VB 123 RL cL_law 17 (some .boolean) wsL_law roomB (vXL s0 L xs) (tyl c d) (qF 123) (3646) (21876 + 1250) (wal a c S b d F g) 64 [(0, .ref (s0)), (1, .ref (a 0)), (2, .ref (b 0)), (3, .ref (b 1)), (4, .ref (b 2)), (5, .ref (b 3)), (6, .ref (b 4)), (7, .int (iZ 1)), (8, .int (iZ 27))] [] := by
  intro S F g hI hK hg
  obtain ⟨ho, hn, hm4, hM0, hG, hC⟩ := id hI
  refine VB_iload (q := 66) dL_law_64 8 rfl rfl ?_
  refine VB_bipush (q := 68) dL_law_66 (by decide) rfl ?_
  refine VB_icmp_ge (q := 71) (tgt := 977) dL_law_68 (by decide) (by decide) (by decide) (fun hc => absurd hc (by decide)) (fun _ => ?_)
  refine VB_iload (q := 73) dL_law_71 7 rfl rfl ?_
  refine VB_if_eq (q := 76) (tgt := 977) dL_law_73 (by decide) (by decide) (fun hc => absurd hc (by decide)) (fun _ => ?_)
  refine VB_aload_n (q := 77) dL_law_76 0 rfl rfl ?_
  refine VB_iload (q := 79) dL_law_77 8 rfl rfl ?_
  refine VB_callD (q := 82) dL_law_79 (u_dice (b := s0) (L := L) (xs := xs) 27 (by omega) hL (hx 27 (by omega))) yv_L_dice rfl gL_law_L_dice xL_s rfl (Nat.le_of_ble_eq_true rfl) (by decide) ⟨by show _ ≤ 20000; omega, by show _ ≤ 130000; omega⟩ ?_
  refine VB_istore (q := 84) (lv' := [(0, _), (1, _), (2, _), (3, _), (4, _), (5, _), (6, _), (7, _), (8, _), (9, _)]) dL_law_82 (by decide) rfl rfl ?_
  refine VB_iload (q := 86) dL_law_84 9 rfl rfl ?_
  refine VB_bipush (q := 88) dL_law_86 (by decide) rfl ?_
  refine VB_idiv (q := 89) (a := 31) (b := 32) dL_law_88 (by omega) (by decide) (by decide) rfl ?_
  refine VB_top (y := iZ 0) rfl ?_
  refine VB_istore (q := 91) (lv' := [(0, _), (1, _), (2, _), (3, _), (4, _), (5, _), (6, _), (7, _), (8, _), (9, _), (10, _)]) dL_law_89 (by decide) rfl rfl ?_
  refine VB_iload (q := 93) dL_law_91 9 rfl rfl ?_
  refine VB_bipush (q := 95) dL_law_93 (by decide) rfl ?_
  refine VB_irem (q := 96) (a := 31) (b := 32) dL_law_95 (by omega) (by decide) (by decide) rfl ?_
  refine VB_top (y := iZ 31) rfl ?_
  refine VB_istore (q := 98) (lv' := [(0, _), (1, _), (2, _), (3, _), (4, _), (5, _), (6, _), (7, _), (8, _), (9, _), (10, _), (11, _)]) dL_law_96 (by decide) rfl rfl ?_
  refine VB_aload (q := 100) dL_law_98 6 rfl rfl ?_
  refine VB_iconst (q := 101) dL_law_100 rfl ?_
  refine VB_iald (q := 102) (v := (iZ 4)) dL_law_101 13 12 rfl rfl (0) (by omega) (by omega) (by decide) (hM0) rfl ?_
  refine VB_if_ne (q := 105) (tgt := 109) dL_law_102 (by decide) (by decide) (fun _ => ?_) (fun hc => absurd hc (by decide))
  refine VB_iload (q := 111) dL_law_109 10 rfl rfl ?_
  refine VB_aload (q := 113) dL_law_111 6 rfl rfl ?_
  refine VB_iconst (q := 114) dL_law_113 rfl ?_
  refine VB_iald (q := 115) (v := (iZ 4)) dL_law_114 13 12 rfl rfl (0) (by omega) (by omega) (by decide) (hM0) rfl ?_
  refine VB_irem (q := 116) (a := 0) (b := 4) dL_law_115 (by omega) (by decide) (by decide) rfl ?_
  refine VB_top (y := iZ 0) rfl ?_
  refine VB_istore (q := 118) (lv' := [(0, _), (1, _), (2, _), (3, _), (4, _), (5, _), (6, _), (7, _), (8, _), (9, _), (10, _), (11, _), (12, _)]) dL_law_116 (by decide) rfl rfl ?_
  refine VB_aload (q := 120) dL_law_118 6 rfl rfl ?_
  refine VB_iconst (q := 121) dL_law_120 rfl ?_
  refine VB_iald (q := 122) (v := (iZ 4)) dL_law_121 13 12 rfl rfl (0) (by omega) (by omega) (by decide) (hM0) rfl ?_
  refine VB_iconst (q := 123) dL_law_122 rfl ?_
  refine VB_icmp_lt (q := 126) (tgt := 141) dL_law_123 (by decide) (by decide) (by decide) (fun hc => absurd hc (by decide)) (fun _ => ?_)
  refine VB_iload (q := 128) dL_law_126 11 rfl rfl ?_
  refine VB_iconst (q := 129) dL_law_128 rfl ?_
  refine VB_icmp_ge (q := 132) (tgt := 326) dL_law_129 (by decide) (by decide) (by decide) (fun _ => ?_) (fun hc => absurd hc (by decide))
  refine VB_iload (q := 328) dL_law_326 11 rfl rfl ?_
  refine VB_bipush (q := 330) dL_law_328 (by decide) rfl ?_
  refine VB_icmp_ge (q := 333) (tgt := 451) dL_law_330 (by decide) (by decide) (by decide) (fun _ => ?_) (fun hc => absurd hc (by decide))
  refine VB_iload (q := 453) dL_law_451 11 rfl rfl ?_
  refine VB_bipush (q := 455) dL_law_453 (by decide) rfl ?_
  refine VB_icmp_ge (q := 458) (tgt := 603) dL_law_455 (by decide) (by decide) (by decide) (fun _ => ?_) (fun hc => absurd hc (by decide))
  refine VB_iload (q := 605) dL_law_603 11 rfl rfl ?_
  refine VB_bipush (q := 607) dL_law_605 (by decide) rfl ?_
  refine VB_icmp_ge (q := 610) (tgt := 633) dL_law_607 (by decide) (by decide) (by decide) (fun _ => ?_) (fun hc => absurd hc (by decide))
  refine VB_iload (q := 635) dL_law_633 11 rfl rfl ?_
  refine VB_bipush (q := 637) dL_law_635 (by decide) rfl ?_
  refine VB_icmp_ge (q := 640) (tgt := 677) dL_law_637 (by decide) (by decide) (by decide) (fun _ => ?_) (fun hc => absurd hc (by decide))
  refine VB_iload (q := 679) dL_law_677 11 rfl rfl ?_
  refine VB_bipush (q := 681) dL_law_679 (by decide) rfl ?_
  refine VB_icmp_ne (q := 684) (tgt := 783) dL_law_681 (by decide) (by decide) (by decide) (fun _ => ?_) (fun hc => absurd hc (by decide))
  refine VB_loc (lv' := [(0, _), (1, _), (2, _), (3, _), (4, _), (5, _), (6, _), (7, _), (8, _), (9, _), (10, _)]) [0, 1, 2, 3, 4, 5, 6, 7, 8, 9, 10] rfl ?_
  exact VB_widen (by omega) (by omega) (ck27 hL h16 hx S F g hI (hK (by decide)) hg)
set_option maxRecDepth 100000 in
set_option maxHeartbeats 8000000 in
theorem ck26 {s0 L : Nat} {xs : Nat → Int32} {a : Nat → Nat} {c : Nat → ClassId} {b : Nat → Nat} {d : Nat → ClassId} (hL : L ≤ 260) (h16 : 80 ≤ L) (hx : ∀ j, j < 80 → xs j = 31) : ∀ (S : St) (F : Nat → Nat → Int32) (g : Nat → Nat), Iv S F 4 → sK S 0 = 0 → (∀ j, g j < 4096) → VB 123 RL cL_law 17 (some .boolean) wsL_law roomB (vXL s0 L xs) (tyl c d) (qF 123) (3426) (20556 + 1250) (wal a c S b d F g) 783 [(0, .ref (s0)), (1, .ref (a 0)), (2, .ref (b 0)), (3, .ref (b 1)), (4, .ref (b 2)), (5, .ref (b 3)), (6, .ref (b 4)), (7, .int (iZ 1)), (8, .int (iZ 26)), (9, .int (iZ 31)), (10, .int (iZ 0))] [] := by
  intro S F g hI hK hg
  obtain ⟨ho, hn, hm4, hM0, hG, hC⟩ := id hI
  refine VB_iload (q := 785) dL_law_783 7 rfl rfl ?_
  refine VB_if_eq (q := 788) (tgt := 968) dL_law_785 (by decide) (by decide) (fun hc => absurd hc (by decide)) (fun _ => ?_)
  refine VB_aload_n (q := 789) dL_law_788 1 rfl rfl ?_
  refine VB_aload_n (q := 790) dL_law_789 2 rfl rfl ?_
  refine VB_aload_n (q := 791) dL_law_790 3 rfl rfl ?_
  refine VB_aload (q := 793) dL_law_791 6 rfl rfl ?_
  refine VB_callU (q := 796) dL_law_793 (u_areThings (a := a) (c := c) (S := S) (b := b) (d := d) (F := F) hI hg) yv_L_areThings rfl gL_law_L_areThings xU_L rfl (Nat.le_of_ble_eq_true rfl) (by decide) ⟨by show _ ≤ 20000; omega, by show _ ≤ 130000; omega⟩ (fun x793 g793 hP793 hg793 => ?_)
  refine VB_lo (lo' := 123) (Nat.le_add_right _ _) ?_
  have J968 : ∀ (gj968 : Nat → Nat), (∀ j, gj968 j < 4096) → VB 123 RL cL_law 17 (some .boolean) wsL_law roomB (vXL s0 L xs) (tyl c d) (qF 123) (3646) (21876 + 1250) (wal a c S b d F gj968) 968 [(0, .ref (s0)), (1, .ref (a 0)), (2, .ref (b 0)), (3, .ref (b 1)), (4, .ref (b 2)), (5, .ref (b 3)), (6, .ref (b 4)), (7, .int (iZ 1)), (8, .int (iZ 26)), (9, .int (iZ 31)), (10, .int (iZ 0))] [] := by
    intro gj968 hgj968
    refine VB_iconst (q := 969) dL_law_968 rfl ?_
    refine VB_istore (q := 971) (lv' := [(0, _), (1, _), (2, _), (3, _), (4, _), (5, _), (6, _), (7, _), (8, _), (9, _), (10, _)]) dL_law_969 (by decide) rfl rfl ?_
    refine VB_iinc (q := 974) (y := 27) (lv' := [(0, _), (1, _), (2, _), (3, _), (4, _), (5, _), (6, _), (7, _), (8, _), (9, _), (10, _)]) dL_law_971 8 rfl (by omega) (by decide) rfl rfl ?_
    refine VB_goto (tgt := 64) dL_law_974 (by decide) ?_
    refine VB_iload (q := 66) dL_law_64 8 rfl rfl ?_
    refine VB_bipush (q := 68) dL_law_66 (by decide) rfl ?_
    refine VB_icmp_ge (q := 71) (tgt := 977) dL_law_68 (by decide) (by decide) (by decide) (fun hc => absurd hc (by decide)) (fun _ => ?_)
    refine VB_iload (q := 73) dL_law_71 7 rfl rfl ?_
    refine VB_if_eq (q := 76) (tgt := 977) dL_law_73 (by decide) (by decide) (fun _ => ?_) (fun hc => absurd hc (by decide))
    refine VB_iload (q := 979) dL_law_977 7 rfl rfl ?_
    exact VB_ret0 dL_law_979 rfl
  refine VB_uif_eq (q := 799) (tgt := 968) dL_law_796 (by decide) ?_ ?_
  · skip
    exact VB_widen (by omega) (by omega) (J968 g793 hg793)
  · skip
    refine VB_iload (q := 801) dL_law_799 8 rfl rfl ?_
    refine VB_iconst (q := 802) dL_law_801 rfl ?_
    refine VB_irem (q := 803) (a := 26) (b := 2) dL_law_802 (by omega) (by decide) (by decide) rfl ?_
    refine VB_top (y := iZ 0) rfl ?_
    refine VB_if_gt (q := 806) (tgt := 833) dL_law_803 (by decide) (by decide) (fun hc => absurd hc (by decide)) (fun _ => ?_)
    refine VB_aload_n (q := 807) dL_law_806 1 rfl rfl ?_
    refine VB_aload_n (q := 808) dL_law_807 2 rfl rfl ?_
    refine VB_aload_n (q := 809) dL_law_808 3 rfl rfl ?_
    refine VB_aload (q := 811) dL_law_809 4 rfl rfl ?_
    refine VB_aload (q := 813) dL_law_811 6 rfl rfl ?_
    refine VB_iload (q := 815) dL_law_813 10 rfl rfl ?_
    refine VB_bipush (q := 817) dL_law_815 (by decide) rfl ?_
    refine VB_irem (q := 818) (a := 0) (b := 31) dL_law_817 (by omega) (by decide) (by decide) rfl ?_
    refine VB_top (y := iZ 0) rfl ?_
    refine VB_iload (q := 820) dL_law_818 10 rfl rfl ?_
    refine VB_bipush (q := 822) dL_law_820 (by decide) rfl ?_
    refine VB_idiv (q := 823) (a := 0) (b := 31) dL_law_822 (by omega) (by decide) (by decide) rfl ?_
    refine VB_top (y := iZ 0) rfl ?_
    refine VB_sipush (q := 826) dL_law_823 (by decide) rfl ?_
    refine VB_irem (q := 827) (a := 0) (b := 256) dL_law_826 (by omega) (by decide) (by decide) rfl ?_
    refine VB_top (y := iZ 0) rfl ?_
    refine VB_callU (q := 830) dL_law_827 (u_areOutfits (a := a) (c := c) (S := S) (b := b) (d := d) (F := F) hI hg793) yv_L_areOutfits rfl gL_law_L_areOutfits xU_L rfl (Nat.le_of_ble_eq_true rfl) (by decide) ⟨by show _ ≤ 20000; omega, by show _ ≤ 130000; omega⟩ (fun x827 g827 hP827 hg827 => ?_)
    refine VB_lo (lo' := 123) (Nat.le_add_right _ _) ?_
    refine VB_uif_eq (q := 833) (tgt := 968) dL_law_830 (by decide) ?_ ?_
    · skip
      exact VB_widen (by omega) (by omega) (J968 g827 hg827)
    · skip
      refine VB_aload_n (q := 834) dL_law_833 1 rfl rfl ?_
      refine VB_aload_n (q := 835) dL_law_834 2 rfl rfl ?_
      refine VB_aload_n (q := 836) dL_law_835 3 rfl rfl ?_
      refine VB_aload (q := 838) dL_law_836 4 rfl rfl ?_
      refine VB_aload (q := 840) dL_law_838 6 rfl rfl ?_
      refine VB_callU (q := 843) dL_law_840 (u_isMissing (a := a) (c := c) (S := S) (b := b) (d := d) (F := F) hI hg827) yv_L_isMissing rfl gL_law_L_isMissing xU_L rfl (Nat.le_of_ble_eq_true rfl) (by decide) ⟨by show _ ≤ 20000; omega, by show _ ≤ 130000; omega⟩ (fun x840 g840 hP840 hg840 => ?_)
      refine VB_lo (lo' := 123) (Nat.le_add_right _ _) ?_
      refine VB_uif_eq (q := 846) (tgt := 968) dL_law_843 (by decide) ?_ ?_
      · skip
        exact VB_widen (by omega) (by omega) (J968 g840 hg840)
      · skip
        refine VB_aload_n (q := 847) dL_law_846 1 rfl rfl ?_
        refine VB_aload_n (q := 848) dL_law_847 2 rfl rfl ?_
        refine VB_aload (q := 850) dL_law_848 6 rfl rfl ?_
        refine VB_iload (q := 852) dL_law_850 10 rfl rfl ?_
        refine VB_aload (q := 854) dL_law_852 6 rfl rfl ?_
        refine VB_iconst (q := 855) dL_law_854 rfl ?_
        refine VB_iald (q := 856) (v := (iZ 4)) dL_law_855 13 12 rfl rfl (0) (by omega) (by omega) (by decide) (hM0) rfl ?_
        refine VB_iconst (q := 857) dL_law_856 rfl ?_
        refine VB_iadd (q := 858) dL_law_857 rfl ?_
        refine VB_top (y := iZ 5) rfl ?_
        refine VB_irem (q := 859) (a := 0) (b := 5) dL_law_858 (by omega) (by decide) (by decide) rfl ?_
        refine VB_top (y := iZ 0) rfl ?_
        refine VB_iload (q := 861) dL_law_859 10 rfl rfl ?_
        refine VB_bipush (q := 863) dL_law_861 (by decide) rfl ?_
        refine VB_idiv (q := 864) (a := 0) (b := 13) dL_law_863 (by omega) (by decide) (by decide) rfl ?_
        refine VB_top (y := iZ 0) rfl ?_
        refine VB_aload (q := 866) dL_law_864 6 rfl rfl ?_
        refine VB_iconst (q := 867) dL_law_866 rfl ?_
        refine VB_iald (q := 868) (v := (iZ 4)) dL_law_867 13 12 rfl rfl (0) (by omega) (by omega) (by decide) (hM0) rfl ?_
        refine VB_iconst (q := 869) dL_law_868 rfl ?_
        refine VB_iadd (q := 870) dL_law_869 rfl ?_
        refine VB_top (y := iZ 5) rfl ?_
        refine VB_irem (q := 871) (a := 0) (b := 5) dL_law_870 (by omega) (by decide) (by decide) rfl ?_
        refine VB_top (y := iZ 0) rfl ?_
        refine VB_iload (q := 873) dL_law_871 10 rfl rfl ?_
        refine VB_sipush (q := 876) dL_law_873 (by decide) rfl ?_
        refine VB_idiv (q := 877) (a := 0) (b := 169) dL_law_876 (by omega) (by decide) (by decide) rfl ?_
        refine VB_top (y := iZ 0) rfl ?_
        refine VB_aload (q := 879) dL_law_877 6 rfl rfl ?_
        refine VB_iconst (q := 880) dL_law_879 rfl ?_
        refine VB_iald (q := 881) (v := (iZ 4)) dL_law_880 13 12 rfl rfl (0) (by omega) (by omega) (by decide) (hM0) rfl ?_
        refine VB_iconst (q := 882) dL_law_881 rfl ?_
        refine VB_iadd (q := 883) dL_law_882 rfl ?_
        refine VB_top (y := iZ 6) rfl ?_
        refine VB_irem (q := 884) (a := 0) (b := 6) dL_law_883 (by omega) (by decide) (by decide) rfl ?_
        refine VB_top (y := iZ 0) rfl ?_
        refine VB_iconst (q := 885) dL_law_884 rfl ?_
        refine VB_isub (q := 886) dL_law_885 rfl ?_
        refine VB_top (y := iZ (-1)) rfl ?_
        refine VB_callU (q := 889) dL_law_886 (u_isWrong (a := a) (c := c) (S := S) (b := b) (d := d) (F := F) hI (wr0 hI (by decide) hK) hg840) yv_L_isWrong rfl gL_law_L_isWrong xU_L rfl (Nat.le_of_ble_eq_true rfl) (by decide) ⟨by show _ ≤ 20000; omega, by show _ ≤ 130000; omega⟩ (fun x886 g886 hP886 hg886 => ?_)
        refine VB_em (x := x886) (fun e886 => VB_lo (lo' := 123) (Nat.le_add_right _ _) (VB_top (y := iZ 0) e886 ?_)) (fun e886 => VB_lo (lo' := 125) (by show 125 ≤ 123 + (if x886 = 0 then 0 else 2); rw [if_neg e886]; omega) ?_)
        · skip
          refine VB_if_eq (q := 892) (tgt := 968) dL_law_889 (by decide) (by decide) (fun _ => ?_) (fun hc => absurd hc (by decide))
          exact VB_widen (by omega) (by omega) (J968 g886 hg886)
        · skip
          refine VB_uif_eq (q := 892) (tgt := 968) dL_law_889 (by decide) ?_ ?_
          · skip
            refine VB_lo (lo' := 123) (by omega) ?_
            exact VB_widen (by omega) (by omega) (J968 g886 hg886)
          · skip
            refine VB_iload (q := 894) dL_law_892 8 rfl rfl ?_
            refine VB_bipush (q := 896) dL_law_894 (by decide) rfl ?_
            refine VB_irem (q := 897) (a := 26) (b := 16) dL_law_896 (by omega) (by decide) (by decide) rfl ?_
            refine VB_top (y := iZ 10) rfl ?_
            refine VB_if_gt (q := 900) (tgt := 943) dL_law_897 (by decide) (by decide) (fun _ => ?_) (fun hc => absurd hc (by decide))
            refine VB_iload (q := 945) dL_law_943 8 rfl rfl ?_
            refine VB_bipush (q := 947) dL_law_945 (by decide) rfl ?_
            refine VB_irem (q := 948) (a := 26) (b := 20) dL_law_947 (by omega) (by decide) (by decide) rfl ?_
            refine VB_top (y := iZ 6) rfl ?_
            refine VB_if_gt (q := 951) (tgt := 964) dL_law_948 (by decide) (by decide) (fun _ => ?_) (fun hc => absurd hc (by decide))
            refine VB_iconst (q := 965) dL_law_964 rfl ?_
            refine VB_goto (tgt := 969) dL_law_965 (by decide) ?_
            refine VB_istore (q := 971) (lv' := [(0, _), (1, _), (2, _), (3, _), (4, _), (5, _), (6, _), (7, _), (8, _), (9, _), (10, _)]) dL_law_969 (by decide) rfl rfl ?_
            refine VB_iinc (q := 974) (y := 27) (lv' := [(0, _), (1, _), (2, _), (3, _), (4, _), (5, _), (6, _), (7, _), (8, _), (9, _), (10, _)]) dL_law_971 8 rfl (by omega) (by decide) rfl rfl ?_
            refine VB_goto (tgt := 64) dL_law_974 (by decide) ?_
            refine VB_loc (lv' := [(0, _), (1, _), (2, _), (3, _), (4, _), (5, _), (6, _), (7, _), (8, _)]) [0, 1, 2, 3, 4, 5, 6, 7, 8] rfl ?_
            refine VB_lo (lo' := 123) (by omega) ?_
            exact VB_widen (by omega) (by omega) (rd27 hL h16 hx S F g886 hI (fun _ => hK) hg886)
set_option maxRecDepth 100000 in
set_option maxHeartbeats 8000000 in
theorem rd26 {s0 L : Nat} {xs : Nat → Int32} {a : Nat → Nat} {c : Nat → ClassId} {b : Nat → Nat} {d : Nat → ClassId} (hL : L ≤ 260) (h16 : 80 ≤ L) (hx : ∀ j, j < 80 → xs j = 31) : ∀ (S : St) (F : Nat → Nat → Int32) (g : Nat → Nat), Iv S F 4 → (0 < 26 → sK S 0 = 0) → (∀ j, g j < 4096) → VB 123 RL cL_law 17 (some .boolean) wsL_law roomB (vXL s0 L xs) (tyl c d) (qF 123) (3426) (20556 + 1250) (wal a c S b d F g) 64 [(0, .ref (s0)), (1, .ref (a 0)), (2, .ref (b 0)), (3, .ref (b 1)), (4, .ref (b 2)), (5, .ref (b 3)), (6, .ref (b 4)), (7, .int (iZ 1)), (8, .int (iZ 26))] [] := by
  intro S F g hI hK hg
  obtain ⟨ho, hn, hm4, hM0, hG, hC⟩ := id hI
  refine VB_iload (q := 66) dL_law_64 8 rfl rfl ?_
  refine VB_bipush (q := 68) dL_law_66 (by decide) rfl ?_
  refine VB_icmp_ge (q := 71) (tgt := 977) dL_law_68 (by decide) (by decide) (by decide) (fun hc => absurd hc (by decide)) (fun _ => ?_)
  refine VB_iload (q := 73) dL_law_71 7 rfl rfl ?_
  refine VB_if_eq (q := 76) (tgt := 977) dL_law_73 (by decide) (by decide) (fun hc => absurd hc (by decide)) (fun _ => ?_)
  refine VB_aload_n (q := 77) dL_law_76 0 rfl rfl ?_
  refine VB_iload (q := 79) dL_law_77 8 rfl rfl ?_
  refine VB_callD (q := 82) dL_law_79 (u_dice (b := s0) (L := L) (xs := xs) 26 (by omega) hL (hx 26 (by omega))) yv_L_dice rfl gL_law_L_dice xL_s rfl (Nat.le_of_ble_eq_true rfl) (by decide) ⟨by show _ ≤ 20000; omega, by show _ ≤ 130000; omega⟩ ?_
  refine VB_istore (q := 84) (lv' := [(0, _), (1, _), (2, _), (3, _), (4, _), (5, _), (6, _), (7, _), (8, _), (9, _)]) dL_law_82 (by decide) rfl rfl ?_
  refine VB_iload (q := 86) dL_law_84 9 rfl rfl ?_
  refine VB_bipush (q := 88) dL_law_86 (by decide) rfl ?_
  refine VB_idiv (q := 89) (a := 31) (b := 32) dL_law_88 (by omega) (by decide) (by decide) rfl ?_
  refine VB_top (y := iZ 0) rfl ?_
  refine VB_istore (q := 91) (lv' := [(0, _), (1, _), (2, _), (3, _), (4, _), (5, _), (6, _), (7, _), (8, _), (9, _), (10, _)]) dL_law_89 (by decide) rfl rfl ?_
  refine VB_iload (q := 93) dL_law_91 9 rfl rfl ?_
  refine VB_bipush (q := 95) dL_law_93 (by decide) rfl ?_
  refine VB_irem (q := 96) (a := 31) (b := 32) dL_law_95 (by omega) (by decide) (by decide) rfl ?_
  refine VB_top (y := iZ 31) rfl ?_
  refine VB_istore (q := 98) (lv' := [(0, _), (1, _), (2, _), (3, _), (4, _), (5, _), (6, _), (7, _), (8, _), (9, _), (10, _), (11, _)]) dL_law_96 (by decide) rfl rfl ?_
  refine VB_aload (q := 100) dL_law_98 6 rfl rfl ?_
  refine VB_iconst (q := 101) dL_law_100 rfl ?_
  refine VB_iald (q := 102) (v := (iZ 4)) dL_law_101 13 12 rfl rfl (0) (by omega) (by omega) (by decide) (hM0) rfl ?_
  refine VB_if_ne (q := 105) (tgt := 109) dL_law_102 (by decide) (by decide) (fun _ => ?_) (fun hc => absurd hc (by decide))
  refine VB_iload (q := 111) dL_law_109 10 rfl rfl ?_
  refine VB_aload (q := 113) dL_law_111 6 rfl rfl ?_
  refine VB_iconst (q := 114) dL_law_113 rfl ?_
  refine VB_iald (q := 115) (v := (iZ 4)) dL_law_114 13 12 rfl rfl (0) (by omega) (by omega) (by decide) (hM0) rfl ?_
  refine VB_irem (q := 116) (a := 0) (b := 4) dL_law_115 (by omega) (by decide) (by decide) rfl ?_
  refine VB_top (y := iZ 0) rfl ?_
  refine VB_istore (q := 118) (lv' := [(0, _), (1, _), (2, _), (3, _), (4, _), (5, _), (6, _), (7, _), (8, _), (9, _), (10, _), (11, _), (12, _)]) dL_law_116 (by decide) rfl rfl ?_
  refine VB_aload (q := 120) dL_law_118 6 rfl rfl ?_
  refine VB_iconst (q := 121) dL_law_120 rfl ?_
  refine VB_iald (q := 122) (v := (iZ 4)) dL_law_121 13 12 rfl rfl (0) (by omega) (by omega) (by decide) (hM0) rfl ?_
  refine VB_iconst (q := 123) dL_law_122 rfl ?_
  refine VB_icmp_lt (q := 126) (tgt := 141) dL_law_123 (by decide) (by decide) (by decide) (fun hc => absurd hc (by decide)) (fun _ => ?_)
  refine VB_iload (q := 128) dL_law_126 11 rfl rfl ?_
  refine VB_iconst (q := 129) dL_law_128 rfl ?_
  refine VB_icmp_ge (q := 132) (tgt := 326) dL_law_129 (by decide) (by decide) (by decide) (fun _ => ?_) (fun hc => absurd hc (by decide))
  refine VB_iload (q := 328) dL_law_326 11 rfl rfl ?_
  refine VB_bipush (q := 330) dL_law_328 (by decide) rfl ?_
  refine VB_icmp_ge (q := 333) (tgt := 451) dL_law_330 (by decide) (by decide) (by decide) (fun _ => ?_) (fun hc => absurd hc (by decide))
  refine VB_iload (q := 453) dL_law_451 11 rfl rfl ?_
  refine VB_bipush (q := 455) dL_law_453 (by decide) rfl ?_
  refine VB_icmp_ge (q := 458) (tgt := 603) dL_law_455 (by decide) (by decide) (by decide) (fun _ => ?_) (fun hc => absurd hc (by decide))
  refine VB_iload (q := 605) dL_law_603 11 rfl rfl ?_
  refine VB_bipush (q := 607) dL_law_605 (by decide) rfl ?_
  refine VB_icmp_ge (q := 610) (tgt := 633) dL_law_607 (by decide) (by decide) (by decide) (fun _ => ?_) (fun hc => absurd hc (by decide))
  refine VB_iload (q := 635) dL_law_633 11 rfl rfl ?_
  refine VB_bipush (q := 637) dL_law_635 (by decide) rfl ?_
  refine VB_icmp_ge (q := 640) (tgt := 677) dL_law_637 (by decide) (by decide) (by decide) (fun _ => ?_) (fun hc => absurd hc (by decide))
  refine VB_iload (q := 679) dL_law_677 11 rfl rfl ?_
  refine VB_bipush (q := 681) dL_law_679 (by decide) rfl ?_
  refine VB_icmp_ne (q := 684) (tgt := 783) dL_law_681 (by decide) (by decide) (by decide) (fun _ => ?_) (fun hc => absurd hc (by decide))
  refine VB_loc (lv' := [(0, _), (1, _), (2, _), (3, _), (4, _), (5, _), (6, _), (7, _), (8, _), (9, _), (10, _)]) [0, 1, 2, 3, 4, 5, 6, 7, 8, 9, 10] rfl ?_
  exact VB_widen (by omega) (by omega) (ck26 hL h16 hx S F g hI (hK (by decide)) hg)
set_option maxRecDepth 100000 in
set_option maxHeartbeats 8000000 in
theorem ck25 {s0 L : Nat} {xs : Nat → Int32} {a : Nat → Nat} {c : Nat → ClassId} {b : Nat → Nat} {d : Nat → ClassId} (hL : L ≤ 260) (h16 : 80 ≤ L) (hx : ∀ j, j < 80 → xs j = 31) : ∀ (S : St) (F : Nat → Nat → Int32) (g : Nat → Nat), Iv S F 4 → sK S 0 = 0 → (∀ j, g j < 4096) → VB 123 RL cL_law 17 (some .boolean) wsL_law roomB (vXL s0 L xs) (tyl c d) (qF 123) (3406) (20436 + 1250) (wal a c S b d F g) 783 [(0, .ref (s0)), (1, .ref (a 0)), (2, .ref (b 0)), (3, .ref (b 1)), (4, .ref (b 2)), (5, .ref (b 3)), (6, .ref (b 4)), (7, .int (iZ 1)), (8, .int (iZ 25)), (9, .int (iZ 31)), (10, .int (iZ 0))] [] := by
  intro S F g hI hK hg
  obtain ⟨ho, hn, hm4, hM0, hG, hC⟩ := id hI
  refine VB_iload (q := 785) dL_law_783 7 rfl rfl ?_
  refine VB_if_eq (q := 788) (tgt := 968) dL_law_785 (by decide) (by decide) (fun hc => absurd hc (by decide)) (fun _ => ?_)
  refine VB_aload_n (q := 789) dL_law_788 1 rfl rfl ?_
  refine VB_aload_n (q := 790) dL_law_789 2 rfl rfl ?_
  refine VB_aload_n (q := 791) dL_law_790 3 rfl rfl ?_
  refine VB_aload (q := 793) dL_law_791 6 rfl rfl ?_
  refine VB_callU (q := 796) dL_law_793 (u_areThings (a := a) (c := c) (S := S) (b := b) (d := d) (F := F) hI hg) yv_L_areThings rfl gL_law_L_areThings xU_L rfl (Nat.le_of_ble_eq_true rfl) (by decide) ⟨by show _ ≤ 20000; omega, by show _ ≤ 130000; omega⟩ (fun x793 g793 hP793 hg793 => ?_)
  refine VB_lo (lo' := 123) (Nat.le_add_right _ _) ?_
  have J968 : ∀ (gj968 : Nat → Nat), (∀ j, gj968 j < 4096) → VB 123 RL cL_law 17 (some .boolean) wsL_law roomB (vXL s0 L xs) (tyl c d) (qF 123) (3426) (20556 + 1250) (wal a c S b d F gj968) 968 [(0, .ref (s0)), (1, .ref (a 0)), (2, .ref (b 0)), (3, .ref (b 1)), (4, .ref (b 2)), (5, .ref (b 3)), (6, .ref (b 4)), (7, .int (iZ 1)), (8, .int (iZ 25)), (9, .int (iZ 31)), (10, .int (iZ 0))] [] := by
    intro gj968 hgj968
    refine VB_iconst (q := 969) dL_law_968 rfl ?_
    refine VB_istore (q := 971) (lv' := [(0, _), (1, _), (2, _), (3, _), (4, _), (5, _), (6, _), (7, _), (8, _), (9, _), (10, _)]) dL_law_969 (by decide) rfl rfl ?_
    refine VB_iinc (q := 974) (y := 26) (lv' := [(0, _), (1, _), (2, _), (3, _), (4, _), (5, _), (6, _), (7, _), (8, _), (9, _), (10, _)]) dL_law_971 8 rfl (by omega) (by decide) rfl rfl ?_
    refine VB_goto (tgt := 64) dL_law_974 (by decide) ?_
    refine VB_iload (q := 66) dL_law_64 8 rfl rfl ?_
    refine VB_bipush (q := 68) dL_law_66 (by decide) rfl ?_
    refine VB_icmp_ge (q := 71) (tgt := 977) dL_law_68 (by decide) (by decide) (by decide) (fun hc => absurd hc (by decide)) (fun _ => ?_)
    refine VB_iload (q := 73) dL_law_71 7 rfl rfl ?_
    refine VB_if_eq (q := 76) (tgt := 977) dL_law_73 (by decide) (by decide) (fun _ => ?_) (fun hc => absurd hc (by decide))
    refine VB_iload (q := 979) dL_law_977 7 rfl rfl ?_
    exact VB_ret0 dL_law_979 rfl
  refine VB_uif_eq (q := 799) (tgt := 968) dL_law_796 (by decide) ?_ ?_
  · skip
    exact VB_widen (by omega) (by omega) (J968 g793 hg793)
  · skip
    refine VB_iload (q := 801) dL_law_799 8 rfl rfl ?_
    refine VB_iconst (q := 802) dL_law_801 rfl ?_
    refine VB_irem (q := 803) (a := 25) (b := 2) dL_law_802 (by omega) (by decide) (by decide) rfl ?_
    refine VB_top (y := iZ 1) rfl ?_
    refine VB_if_gt (q := 806) (tgt := 833) dL_law_803 (by decide) (by decide) (fun _ => ?_) (fun hc => absurd hc (by decide))
    refine VB_aload_n (q := 834) dL_law_833 1 rfl rfl ?_
    refine VB_aload_n (q := 835) dL_law_834 2 rfl rfl ?_
    refine VB_aload_n (q := 836) dL_law_835 3 rfl rfl ?_
    refine VB_aload (q := 838) dL_law_836 4 rfl rfl ?_
    refine VB_aload (q := 840) dL_law_838 6 rfl rfl ?_
    refine VB_callU (q := 843) dL_law_840 (u_isMissing (a := a) (c := c) (S := S) (b := b) (d := d) (F := F) hI hg793) yv_L_isMissing rfl gL_law_L_isMissing xU_L rfl (Nat.le_of_ble_eq_true rfl) (by decide) ⟨by show _ ≤ 20000; omega, by show _ ≤ 130000; omega⟩ (fun x840 g840 hP840 hg840 => ?_)
    refine VB_lo (lo' := 123) (Nat.le_add_right _ _) ?_
    refine VB_uif_eq (q := 846) (tgt := 968) dL_law_843 (by decide) ?_ ?_
    · skip
      exact VB_widen (by omega) (by omega) (J968 g840 hg840)
    · skip
      refine VB_aload_n (q := 847) dL_law_846 1 rfl rfl ?_
      refine VB_aload_n (q := 848) dL_law_847 2 rfl rfl ?_
      refine VB_aload (q := 850) dL_law_848 6 rfl rfl ?_
      refine VB_iload (q := 852) dL_law_850 10 rfl rfl ?_
      refine VB_aload (q := 854) dL_law_852 6 rfl rfl ?_
      refine VB_iconst (q := 855) dL_law_854 rfl ?_
      refine VB_iald (q := 856) (v := (iZ 4)) dL_law_855 13 12 rfl rfl (0) (by omega) (by omega) (by decide) (hM0) rfl ?_
      refine VB_iconst (q := 857) dL_law_856 rfl ?_
      refine VB_iadd (q := 858) dL_law_857 rfl ?_
      refine VB_top (y := iZ 5) rfl ?_
      refine VB_irem (q := 859) (a := 0) (b := 5) dL_law_858 (by omega) (by decide) (by decide) rfl ?_
      refine VB_top (y := iZ 0) rfl ?_
      refine VB_iload (q := 861) dL_law_859 10 rfl rfl ?_
      refine VB_bipush (q := 863) dL_law_861 (by decide) rfl ?_
      refine VB_idiv (q := 864) (a := 0) (b := 13) dL_law_863 (by omega) (by decide) (by decide) rfl ?_
      refine VB_top (y := iZ 0) rfl ?_
      refine VB_aload (q := 866) dL_law_864 6 rfl rfl ?_
      refine VB_iconst (q := 867) dL_law_866 rfl ?_
      refine VB_iald (q := 868) (v := (iZ 4)) dL_law_867 13 12 rfl rfl (0) (by omega) (by omega) (by decide) (hM0) rfl ?_
      refine VB_iconst (q := 869) dL_law_868 rfl ?_
      refine VB_iadd (q := 870) dL_law_869 rfl ?_
      refine VB_top (y := iZ 5) rfl ?_
      refine VB_irem (q := 871) (a := 0) (b := 5) dL_law_870 (by omega) (by decide) (by decide) rfl ?_
      refine VB_top (y := iZ 0) rfl ?_
      refine VB_iload (q := 873) dL_law_871 10 rfl rfl ?_
      refine VB_sipush (q := 876) dL_law_873 (by decide) rfl ?_
      refine VB_idiv (q := 877) (a := 0) (b := 169) dL_law_876 (by omega) (by decide) (by decide) rfl ?_
      refine VB_top (y := iZ 0) rfl ?_
      refine VB_aload (q := 879) dL_law_877 6 rfl rfl ?_
      refine VB_iconst (q := 880) dL_law_879 rfl ?_
      refine VB_iald (q := 881) (v := (iZ 4)) dL_law_880 13 12 rfl rfl (0) (by omega) (by omega) (by decide) (hM0) rfl ?_
      refine VB_iconst (q := 882) dL_law_881 rfl ?_
      refine VB_iadd (q := 883) dL_law_882 rfl ?_
      refine VB_top (y := iZ 6) rfl ?_
      refine VB_irem (q := 884) (a := 0) (b := 6) dL_law_883 (by omega) (by decide) (by decide) rfl ?_
      refine VB_top (y := iZ 0) rfl ?_
      refine VB_iconst (q := 885) dL_law_884 rfl ?_
      refine VB_isub (q := 886) dL_law_885 rfl ?_
      refine VB_top (y := iZ (-1)) rfl ?_
      refine VB_callU (q := 889) dL_law_886 (u_isWrong (a := a) (c := c) (S := S) (b := b) (d := d) (F := F) hI (wr0 hI (by decide) hK) hg840) yv_L_isWrong rfl gL_law_L_isWrong xU_L rfl (Nat.le_of_ble_eq_true rfl) (by decide) ⟨by show _ ≤ 20000; omega, by show _ ≤ 130000; omega⟩ (fun x886 g886 hP886 hg886 => ?_)
      refine VB_em (x := x886) (fun e886 => VB_lo (lo' := 123) (Nat.le_add_right _ _) (VB_top (y := iZ 0) e886 ?_)) (fun e886 => VB_lo (lo' := 125) (by show 125 ≤ 123 + (if x886 = 0 then 0 else 2); rw [if_neg e886]; omega) ?_)
      · skip
        refine VB_if_eq (q := 892) (tgt := 968) dL_law_889 (by decide) (by decide) (fun _ => ?_) (fun hc => absurd hc (by decide))
        exact VB_widen (by omega) (by omega) (J968 g886 hg886)
      · skip
        refine VB_uif_eq (q := 892) (tgt := 968) dL_law_889 (by decide) ?_ ?_
        · skip
          refine VB_lo (lo' := 123) (by omega) ?_
          exact VB_widen (by omega) (by omega) (J968 g886 hg886)
        · skip
          refine VB_iload (q := 894) dL_law_892 8 rfl rfl ?_
          refine VB_bipush (q := 896) dL_law_894 (by decide) rfl ?_
          refine VB_irem (q := 897) (a := 25) (b := 16) dL_law_896 (by omega) (by decide) (by decide) rfl ?_
          refine VB_top (y := iZ 9) rfl ?_
          refine VB_if_gt (q := 900) (tgt := 943) dL_law_897 (by decide) (by decide) (fun _ => ?_) (fun hc => absurd hc (by decide))
          refine VB_iload (q := 945) dL_law_943 8 rfl rfl ?_
          refine VB_bipush (q := 947) dL_law_945 (by decide) rfl ?_
          refine VB_irem (q := 948) (a := 25) (b := 20) dL_law_947 (by omega) (by decide) (by decide) rfl ?_
          refine VB_top (y := iZ 5) rfl ?_
          refine VB_if_gt (q := 951) (tgt := 964) dL_law_948 (by decide) (by decide) (fun _ => ?_) (fun hc => absurd hc (by decide))
          refine VB_iconst (q := 965) dL_law_964 rfl ?_
          refine VB_goto (tgt := 969) dL_law_965 (by decide) ?_
          refine VB_istore (q := 971) (lv' := [(0, _), (1, _), (2, _), (3, _), (4, _), (5, _), (6, _), (7, _), (8, _), (9, _), (10, _)]) dL_law_969 (by decide) rfl rfl ?_
          refine VB_iinc (q := 974) (y := 26) (lv' := [(0, _), (1, _), (2, _), (3, _), (4, _), (5, _), (6, _), (7, _), (8, _), (9, _), (10, _)]) dL_law_971 8 rfl (by omega) (by decide) rfl rfl ?_
          refine VB_goto (tgt := 64) dL_law_974 (by decide) ?_
          refine VB_loc (lv' := [(0, _), (1, _), (2, _), (3, _), (4, _), (5, _), (6, _), (7, _), (8, _)]) [0, 1, 2, 3, 4, 5, 6, 7, 8] rfl ?_
          refine VB_lo (lo' := 123) (by omega) ?_
          exact VB_widen (by omega) (by omega) (rd26 hL h16 hx S F g886 hI (fun _ => hK) hg886)
set_option maxRecDepth 100000 in
set_option maxHeartbeats 8000000 in
theorem rd25 {s0 L : Nat} {xs : Nat → Int32} {a : Nat → Nat} {c : Nat → ClassId} {b : Nat → Nat} {d : Nat → ClassId} (hL : L ≤ 260) (h16 : 80 ≤ L) (hx : ∀ j, j < 80 → xs j = 31) : ∀ (S : St) (F : Nat → Nat → Int32) (g : Nat → Nat), Iv S F 4 → (0 < 25 → sK S 0 = 0) → (∀ j, g j < 4096) → VB 123 RL cL_law 17 (some .boolean) wsL_law roomB (vXL s0 L xs) (tyl c d) (qF 123) (3406) (20436 + 1250) (wal a c S b d F g) 64 [(0, .ref (s0)), (1, .ref (a 0)), (2, .ref (b 0)), (3, .ref (b 1)), (4, .ref (b 2)), (5, .ref (b 3)), (6, .ref (b 4)), (7, .int (iZ 1)), (8, .int (iZ 25))] [] := by
  intro S F g hI hK hg
  obtain ⟨ho, hn, hm4, hM0, hG, hC⟩ := id hI
  refine VB_iload (q := 66) dL_law_64 8 rfl rfl ?_
  refine VB_bipush (q := 68) dL_law_66 (by decide) rfl ?_
  refine VB_icmp_ge (q := 71) (tgt := 977) dL_law_68 (by decide) (by decide) (by decide) (fun hc => absurd hc (by decide)) (fun _ => ?_)
  refine VB_iload (q := 73) dL_law_71 7 rfl rfl ?_
  refine VB_if_eq (q := 76) (tgt := 977) dL_law_73 (by decide) (by decide) (fun hc => absurd hc (by decide)) (fun _ => ?_)
  refine VB_aload_n (q := 77) dL_law_76 0 rfl rfl ?_
  refine VB_iload (q := 79) dL_law_77 8 rfl rfl ?_
  refine VB_callD (q := 82) dL_law_79 (u_dice (b := s0) (L := L) (xs := xs) 25 (by omega) hL (hx 25 (by omega))) yv_L_dice rfl gL_law_L_dice xL_s rfl (Nat.le_of_ble_eq_true rfl) (by decide) ⟨by show _ ≤ 20000; omega, by show _ ≤ 130000; omega⟩ ?_
  refine VB_istore (q := 84) (lv' := [(0, _), (1, _), (2, _), (3, _), (4, _), (5, _), (6, _), (7, _), (8, _), (9, _)]) dL_law_82 (by decide) rfl rfl ?_
  refine VB_iload (q := 86) dL_law_84 9 rfl rfl ?_
  refine VB_bipush (q := 88) dL_law_86 (by decide) rfl ?_
  refine VB_idiv (q := 89) (a := 31) (b := 32) dL_law_88 (by omega) (by decide) (by decide) rfl ?_
  refine VB_top (y := iZ 0) rfl ?_
  refine VB_istore (q := 91) (lv' := [(0, _), (1, _), (2, _), (3, _), (4, _), (5, _), (6, _), (7, _), (8, _), (9, _), (10, _)]) dL_law_89 (by decide) rfl rfl ?_
  refine VB_iload (q := 93) dL_law_91 9 rfl rfl ?_
  refine VB_bipush (q := 95) dL_law_93 (by decide) rfl ?_
  refine VB_irem (q := 96) (a := 31) (b := 32) dL_law_95 (by omega) (by decide) (by decide) rfl ?_
  refine VB_top (y := iZ 31) rfl ?_
  refine VB_istore (q := 98) (lv' := [(0, _), (1, _), (2, _), (3, _), (4, _), (5, _), (6, _), (7, _), (8, _), (9, _), (10, _), (11, _)]) dL_law_96 (by decide) rfl rfl ?_
  refine VB_aload (q := 100) dL_law_98 6 rfl rfl ?_
  refine VB_iconst (q := 101) dL_law_100 rfl ?_
  refine VB_iald (q := 102) (v := (iZ 4)) dL_law_101 13 12 rfl rfl (0) (by omega) (by omega) (by decide) (hM0) rfl ?_
  refine VB_if_ne (q := 105) (tgt := 109) dL_law_102 (by decide) (by decide) (fun _ => ?_) (fun hc => absurd hc (by decide))
  refine VB_iload (q := 111) dL_law_109 10 rfl rfl ?_
  refine VB_aload (q := 113) dL_law_111 6 rfl rfl ?_
  refine VB_iconst (q := 114) dL_law_113 rfl ?_
  refine VB_iald (q := 115) (v := (iZ 4)) dL_law_114 13 12 rfl rfl (0) (by omega) (by omega) (by decide) (hM0) rfl ?_
  refine VB_irem (q := 116) (a := 0) (b := 4) dL_law_115 (by omega) (by decide) (by decide) rfl ?_
  refine VB_top (y := iZ 0) rfl ?_
  refine VB_istore (q := 118) (lv' := [(0, _), (1, _), (2, _), (3, _), (4, _), (5, _), (6, _), (7, _), (8, _), (9, _), (10, _), (11, _), (12, _)]) dL_law_116 (by decide) rfl rfl ?_
  refine VB_aload (q := 120) dL_law_118 6 rfl rfl ?_
  refine VB_iconst (q := 121) dL_law_120 rfl ?_
  refine VB_iald (q := 122) (v := (iZ 4)) dL_law_121 13 12 rfl rfl (0) (by omega) (by omega) (by decide) (hM0) rfl ?_
  refine VB_iconst (q := 123) dL_law_122 rfl ?_
  refine VB_icmp_lt (q := 126) (tgt := 141) dL_law_123 (by decide) (by decide) (by decide) (fun hc => absurd hc (by decide)) (fun _ => ?_)
  refine VB_iload (q := 128) dL_law_126 11 rfl rfl ?_
  refine VB_iconst (q := 129) dL_law_128 rfl ?_
  refine VB_icmp_ge (q := 132) (tgt := 326) dL_law_129 (by decide) (by decide) (by decide) (fun _ => ?_) (fun hc => absurd hc (by decide))
  refine VB_iload (q := 328) dL_law_326 11 rfl rfl ?_
  refine VB_bipush (q := 330) dL_law_328 (by decide) rfl ?_
  refine VB_icmp_ge (q := 333) (tgt := 451) dL_law_330 (by decide) (by decide) (by decide) (fun _ => ?_) (fun hc => absurd hc (by decide))
  refine VB_iload (q := 453) dL_law_451 11 rfl rfl ?_
  refine VB_bipush (q := 455) dL_law_453 (by decide) rfl ?_
  refine VB_icmp_ge (q := 458) (tgt := 603) dL_law_455 (by decide) (by decide) (by decide) (fun _ => ?_) (fun hc => absurd hc (by decide))
  refine VB_iload (q := 605) dL_law_603 11 rfl rfl ?_
  refine VB_bipush (q := 607) dL_law_605 (by decide) rfl ?_
  refine VB_icmp_ge (q := 610) (tgt := 633) dL_law_607 (by decide) (by decide) (by decide) (fun _ => ?_) (fun hc => absurd hc (by decide))
  refine VB_iload (q := 635) dL_law_633 11 rfl rfl ?_
  refine VB_bipush (q := 637) dL_law_635 (by decide) rfl ?_
  refine VB_icmp_ge (q := 640) (tgt := 677) dL_law_637 (by decide) (by decide) (by decide) (fun _ => ?_) (fun hc => absurd hc (by decide))
  refine VB_iload (q := 679) dL_law_677 11 rfl rfl ?_
  refine VB_bipush (q := 681) dL_law_679 (by decide) rfl ?_
  refine VB_icmp_ne (q := 684) (tgt := 783) dL_law_681 (by decide) (by decide) (by decide) (fun _ => ?_) (fun hc => absurd hc (by decide))
  refine VB_loc (lv' := [(0, _), (1, _), (2, _), (3, _), (4, _), (5, _), (6, _), (7, _), (8, _), (9, _), (10, _)]) [0, 1, 2, 3, 4, 5, 6, 7, 8, 9, 10] rfl ?_
  exact VB_widen (by omega) (by omega) (ck25 hL h16 hx S F g hI (hK (by decide)) hg)
set_option maxRecDepth 100000 in
set_option maxHeartbeats 8000000 in
theorem ck24 {s0 L : Nat} {xs : Nat → Int32} {a : Nat → Nat} {c : Nat → ClassId} {b : Nat → Nat} {d : Nat → ClassId} (hL : L ≤ 260) (h16 : 80 ≤ L) (hx : ∀ j, j < 80 → xs j = 31) : ∀ (S : St) (F : Nat → Nat → Int32) (g : Nat → Nat), Iv S F 4 → sK S 0 = 0 → (∀ j, g j < 4096) → VB 123 RL cL_law 17 (some .boolean) wsL_law roomB (vXL s0 L xs) (tyl c d) (qF 123) (3186) (19116 + 1250) (wal a c S b d F g) 783 [(0, .ref (s0)), (1, .ref (a 0)), (2, .ref (b 0)), (3, .ref (b 1)), (4, .ref (b 2)), (5, .ref (b 3)), (6, .ref (b 4)), (7, .int (iZ 1)), (8, .int (iZ 24)), (9, .int (iZ 31)), (10, .int (iZ 0))] [] := by
  intro S F g hI hK hg
  obtain ⟨ho, hn, hm4, hM0, hG, hC⟩ := id hI
  refine VB_iload (q := 785) dL_law_783 7 rfl rfl ?_
  refine VB_if_eq (q := 788) (tgt := 968) dL_law_785 (by decide) (by decide) (fun hc => absurd hc (by decide)) (fun _ => ?_)
  refine VB_aload_n (q := 789) dL_law_788 1 rfl rfl ?_
  refine VB_aload_n (q := 790) dL_law_789 2 rfl rfl ?_
  refine VB_aload_n (q := 791) dL_law_790 3 rfl rfl ?_
  refine VB_aload (q := 793) dL_law_791 6 rfl rfl ?_
  refine VB_callU (q := 796) dL_law_793 (u_areThings (a := a) (c := c) (S := S) (b := b) (d := d) (F := F) hI hg) yv_L_areThings rfl gL_law_L_areThings xU_L rfl (Nat.le_of_ble_eq_true rfl) (by decide) ⟨by show _ ≤ 20000; omega, by show _ ≤ 130000; omega⟩ (fun x793 g793 hP793 hg793 => ?_)
  refine VB_lo (lo' := 123) (Nat.le_add_right _ _) ?_
  have J968 : ∀ (gj968 : Nat → Nat), (∀ j, gj968 j < 4096) → VB 123 RL cL_law 17 (some .boolean) wsL_law roomB (vXL s0 L xs) (tyl c d) (qF 123) (3406) (20436 + 1250) (wal a c S b d F gj968) 968 [(0, .ref (s0)), (1, .ref (a 0)), (2, .ref (b 0)), (3, .ref (b 1)), (4, .ref (b 2)), (5, .ref (b 3)), (6, .ref (b 4)), (7, .int (iZ 1)), (8, .int (iZ 24)), (9, .int (iZ 31)), (10, .int (iZ 0))] [] := by
    intro gj968 hgj968
    refine VB_iconst (q := 969) dL_law_968 rfl ?_
    refine VB_istore (q := 971) (lv' := [(0, _), (1, _), (2, _), (3, _), (4, _), (5, _), (6, _), (7, _), (8, _), (9, _), (10, _)]) dL_law_969 (by decide) rfl rfl ?_
    refine VB_iinc (q := 974) (y := 25) (lv' := [(0, _), (1, _), (2, _), (3, _), (4, _), (5, _), (6, _), (7, _), (8, _), (9, _), (10, _)]) dL_law_971 8 rfl (by omega) (by decide) rfl rfl ?_
    refine VB_goto (tgt := 64) dL_law_974 (by decide) ?_
    refine VB_iload (q := 66) dL_law_64 8 rfl rfl ?_
    refine VB_bipush (q := 68) dL_law_66 (by decide) rfl ?_
    refine VB_icmp_ge (q := 71) (tgt := 977) dL_law_68 (by decide) (by decide) (by decide) (fun hc => absurd hc (by decide)) (fun _ => ?_)
    refine VB_iload (q := 73) dL_law_71 7 rfl rfl ?_
    refine VB_if_eq (q := 76) (tgt := 977) dL_law_73 (by decide) (by decide) (fun _ => ?_) (fun hc => absurd hc (by decide))
    refine VB_iload (q := 979) dL_law_977 7 rfl rfl ?_
    exact VB_ret0 dL_law_979 rfl
  refine VB_uif_eq (q := 799) (tgt := 968) dL_law_796 (by decide) ?_ ?_
  · skip
    exact VB_widen (by omega) (by omega) (J968 g793 hg793)
  · skip
    refine VB_iload (q := 801) dL_law_799 8 rfl rfl ?_
    refine VB_iconst (q := 802) dL_law_801 rfl ?_
    refine VB_irem (q := 803) (a := 24) (b := 2) dL_law_802 (by omega) (by decide) (by decide) rfl ?_
    refine VB_top (y := iZ 0) rfl ?_
    refine VB_if_gt (q := 806) (tgt := 833) dL_law_803 (by decide) (by decide) (fun hc => absurd hc (by decide)) (fun _ => ?_)
    refine VB_aload_n (q := 807) dL_law_806 1 rfl rfl ?_
    refine VB_aload_n (q := 808) dL_law_807 2 rfl rfl ?_
    refine VB_aload_n (q := 809) dL_law_808 3 rfl rfl ?_
    refine VB_aload (q := 811) dL_law_809 4 rfl rfl ?_
    refine VB_aload (q := 813) dL_law_811 6 rfl rfl ?_
    refine VB_iload (q := 815) dL_law_813 10 rfl rfl ?_
    refine VB_bipush (q := 817) dL_law_815 (by decide) rfl ?_
    refine VB_irem (q := 818) (a := 0) (b := 31) dL_law_817 (by omega) (by decide) (by decide) rfl ?_
    refine VB_top (y := iZ 0) rfl ?_
    refine VB_iload (q := 820) dL_law_818 10 rfl rfl ?_
    refine VB_bipush (q := 822) dL_law_820 (by decide) rfl ?_
    refine VB_idiv (q := 823) (a := 0) (b := 31) dL_law_822 (by omega) (by decide) (by decide) rfl ?_
    refine VB_top (y := iZ 0) rfl ?_
    refine VB_sipush (q := 826) dL_law_823 (by decide) rfl ?_
    refine VB_irem (q := 827) (a := 0) (b := 256) dL_law_826 (by omega) (by decide) (by decide) rfl ?_
    refine VB_top (y := iZ 0) rfl ?_
    refine VB_callU (q := 830) dL_law_827 (u_areOutfits (a := a) (c := c) (S := S) (b := b) (d := d) (F := F) hI hg793) yv_L_areOutfits rfl gL_law_L_areOutfits xU_L rfl (Nat.le_of_ble_eq_true rfl) (by decide) ⟨by show _ ≤ 20000; omega, by show _ ≤ 130000; omega⟩ (fun x827 g827 hP827 hg827 => ?_)
    refine VB_lo (lo' := 123) (Nat.le_add_right _ _) ?_
    refine VB_uif_eq (q := 833) (tgt := 968) dL_law_830 (by decide) ?_ ?_
    · skip
      exact VB_widen (by omega) (by omega) (J968 g827 hg827)
    · skip
      refine VB_aload_n (q := 834) dL_law_833 1 rfl rfl ?_
      refine VB_aload_n (q := 835) dL_law_834 2 rfl rfl ?_
      refine VB_aload_n (q := 836) dL_law_835 3 rfl rfl ?_
      refine VB_aload (q := 838) dL_law_836 4 rfl rfl ?_
      refine VB_aload (q := 840) dL_law_838 6 rfl rfl ?_
      refine VB_callU (q := 843) dL_law_840 (u_isMissing (a := a) (c := c) (S := S) (b := b) (d := d) (F := F) hI hg827) yv_L_isMissing rfl gL_law_L_isMissing xU_L rfl (Nat.le_of_ble_eq_true rfl) (by decide) ⟨by show _ ≤ 20000; omega, by show _ ≤ 130000; omega⟩ (fun x840 g840 hP840 hg840 => ?_)
      refine VB_lo (lo' := 123) (Nat.le_add_right _ _) ?_
      refine VB_uif_eq (q := 846) (tgt := 968) dL_law_843 (by decide) ?_ ?_
      · skip
        exact VB_widen (by omega) (by omega) (J968 g840 hg840)
      · skip
        refine VB_aload_n (q := 847) dL_law_846 1 rfl rfl ?_
        refine VB_aload_n (q := 848) dL_law_847 2 rfl rfl ?_
        refine VB_aload (q := 850) dL_law_848 6 rfl rfl ?_
        refine VB_iload (q := 852) dL_law_850 10 rfl rfl ?_
        refine VB_aload (q := 854) dL_law_852 6 rfl rfl ?_
        refine VB_iconst (q := 855) dL_law_854 rfl ?_
        refine VB_iald (q := 856) (v := (iZ 4)) dL_law_855 13 12 rfl rfl (0) (by omega) (by omega) (by decide) (hM0) rfl ?_
        refine VB_iconst (q := 857) dL_law_856 rfl ?_
        refine VB_iadd (q := 858) dL_law_857 rfl ?_
        refine VB_top (y := iZ 5) rfl ?_
        refine VB_irem (q := 859) (a := 0) (b := 5) dL_law_858 (by omega) (by decide) (by decide) rfl ?_
        refine VB_top (y := iZ 0) rfl ?_
        refine VB_iload (q := 861) dL_law_859 10 rfl rfl ?_
        refine VB_bipush (q := 863) dL_law_861 (by decide) rfl ?_
        refine VB_idiv (q := 864) (a := 0) (b := 13) dL_law_863 (by omega) (by decide) (by decide) rfl ?_
        refine VB_top (y := iZ 0) rfl ?_
        refine VB_aload (q := 866) dL_law_864 6 rfl rfl ?_
        refine VB_iconst (q := 867) dL_law_866 rfl ?_
        refine VB_iald (q := 868) (v := (iZ 4)) dL_law_867 13 12 rfl rfl (0) (by omega) (by omega) (by decide) (hM0) rfl ?_
        refine VB_iconst (q := 869) dL_law_868 rfl ?_
        refine VB_iadd (q := 870) dL_law_869 rfl ?_
        refine VB_top (y := iZ 5) rfl ?_
        refine VB_irem (q := 871) (a := 0) (b := 5) dL_law_870 (by omega) (by decide) (by decide) rfl ?_
        refine VB_top (y := iZ 0) rfl ?_
        refine VB_iload (q := 873) dL_law_871 10 rfl rfl ?_
        refine VB_sipush (q := 876) dL_law_873 (by decide) rfl ?_
        refine VB_idiv (q := 877) (a := 0) (b := 169) dL_law_876 (by omega) (by decide) (by decide) rfl ?_
        refine VB_top (y := iZ 0) rfl ?_
        refine VB_aload (q := 879) dL_law_877 6 rfl rfl ?_
        refine VB_iconst (q := 880) dL_law_879 rfl ?_
        refine VB_iald (q := 881) (v := (iZ 4)) dL_law_880 13 12 rfl rfl (0) (by omega) (by omega) (by decide) (hM0) rfl ?_
        refine VB_iconst (q := 882) dL_law_881 rfl ?_
        refine VB_iadd (q := 883) dL_law_882 rfl ?_
        refine VB_top (y := iZ 6) rfl ?_
        refine VB_irem (q := 884) (a := 0) (b := 6) dL_law_883 (by omega) (by decide) (by decide) rfl ?_
        refine VB_top (y := iZ 0) rfl ?_
        refine VB_iconst (q := 885) dL_law_884 rfl ?_
        refine VB_isub (q := 886) dL_law_885 rfl ?_
        refine VB_top (y := iZ (-1)) rfl ?_
        refine VB_callU (q := 889) dL_law_886 (u_isWrong (a := a) (c := c) (S := S) (b := b) (d := d) (F := F) hI (wr0 hI (by decide) hK) hg840) yv_L_isWrong rfl gL_law_L_isWrong xU_L rfl (Nat.le_of_ble_eq_true rfl) (by decide) ⟨by show _ ≤ 20000; omega, by show _ ≤ 130000; omega⟩ (fun x886 g886 hP886 hg886 => ?_)
        refine VB_em (x := x886) (fun e886 => VB_lo (lo' := 123) (Nat.le_add_right _ _) (VB_top (y := iZ 0) e886 ?_)) (fun e886 => VB_lo (lo' := 125) (by show 125 ≤ 123 + (if x886 = 0 then 0 else 2); rw [if_neg e886]; omega) ?_)
        · skip
          refine VB_if_eq (q := 892) (tgt := 968) dL_law_889 (by decide) (by decide) (fun _ => ?_) (fun hc => absurd hc (by decide))
          exact VB_widen (by omega) (by omega) (J968 g886 hg886)
        · skip
          refine VB_uif_eq (q := 892) (tgt := 968) dL_law_889 (by decide) ?_ ?_
          · skip
            refine VB_lo (lo' := 123) (by omega) ?_
            exact VB_widen (by omega) (by omega) (J968 g886 hg886)
          · skip
            refine VB_iload (q := 894) dL_law_892 8 rfl rfl ?_
            refine VB_bipush (q := 896) dL_law_894 (by decide) rfl ?_
            refine VB_irem (q := 897) (a := 24) (b := 16) dL_law_896 (by omega) (by decide) (by decide) rfl ?_
            refine VB_top (y := iZ 8) rfl ?_
            refine VB_if_gt (q := 900) (tgt := 943) dL_law_897 (by decide) (by decide) (fun _ => ?_) (fun hc => absurd hc (by decide))
            refine VB_iload (q := 945) dL_law_943 8 rfl rfl ?_
            refine VB_bipush (q := 947) dL_law_945 (by decide) rfl ?_
            refine VB_irem (q := 948) (a := 24) (b := 20) dL_law_947 (by omega) (by decide) (by decide) rfl ?_
            refine VB_top (y := iZ 4) rfl ?_
            refine VB_if_gt (q := 951) (tgt := 964) dL_law_948 (by decide) (by decide) (fun _ => ?_) (fun hc => absurd hc (by decide))
            refine VB_iconst (q := 965) dL_law_964 rfl ?_
            refine VB_goto (tgt := 969) dL_law_965 (by decide) ?_
            refine VB_istore (q := 971) (lv' := [(0, _), (1, _), (2, _), (3, _), (4, _), (5, _), (6, _), (7, _), (8, _), (9, _), (10, _)]) dL_law_969 (by decide) rfl rfl ?_
            refine VB_iinc (q := 974) (y := 25) (lv' := [(0, _), (1, _), (2, _), (3, _), (4, _), (5, _), (6, _), (7, _), (8, _), (9, _), (10, _)]) dL_law_971 8 rfl (by omega) (by decide) rfl rfl ?_
            refine VB_goto (tgt := 64) dL_law_974 (by decide) ?_
            refine VB_loc (lv' := [(0, _), (1, _), (2, _), (3, _), (4, _), (5, _), (6, _), (7, _), (8, _)]) [0, 1, 2, 3, 4, 5, 6, 7, 8] rfl ?_
            refine VB_lo (lo' := 123) (by omega) ?_
            exact VB_widen (by omega) (by omega) (rd25 hL h16 hx S F g886 hI (fun _ => hK) hg886)
set_option maxRecDepth 100000 in
set_option maxHeartbeats 8000000 in
theorem rd24 {s0 L : Nat} {xs : Nat → Int32} {a : Nat → Nat} {c : Nat → ClassId} {b : Nat → Nat} {d : Nat → ClassId} (hL : L ≤ 260) (h16 : 80 ≤ L) (hx : ∀ j, j < 80 → xs j = 31) : ∀ (S : St) (F : Nat → Nat → Int32) (g : Nat → Nat), Iv S F 4 → (0 < 24 → sK S 0 = 0) → (∀ j, g j < 4096) → VB 123 RL cL_law 17 (some .boolean) wsL_law roomB (vXL s0 L xs) (tyl c d) (qF 123) (3186) (19116 + 1250) (wal a c S b d F g) 64 [(0, .ref (s0)), (1, .ref (a 0)), (2, .ref (b 0)), (3, .ref (b 1)), (4, .ref (b 2)), (5, .ref (b 3)), (6, .ref (b 4)), (7, .int (iZ 1)), (8, .int (iZ 24))] [] := by
  intro S F g hI hK hg
  obtain ⟨ho, hn, hm4, hM0, hG, hC⟩ := id hI
  refine VB_iload (q := 66) dL_law_64 8 rfl rfl ?_
  refine VB_bipush (q := 68) dL_law_66 (by decide) rfl ?_
  refine VB_icmp_ge (q := 71) (tgt := 977) dL_law_68 (by decide) (by decide) (by decide) (fun hc => absurd hc (by decide)) (fun _ => ?_)
  refine VB_iload (q := 73) dL_law_71 7 rfl rfl ?_
  refine VB_if_eq (q := 76) (tgt := 977) dL_law_73 (by decide) (by decide) (fun hc => absurd hc (by decide)) (fun _ => ?_)
  refine VB_aload_n (q := 77) dL_law_76 0 rfl rfl ?_
  refine VB_iload (q := 79) dL_law_77 8 rfl rfl ?_
  refine VB_callD (q := 82) dL_law_79 (u_dice (b := s0) (L := L) (xs := xs) 24 (by omega) hL (hx 24 (by omega))) yv_L_dice rfl gL_law_L_dice xL_s rfl (Nat.le_of_ble_eq_true rfl) (by decide) ⟨by show _ ≤ 20000; omega, by show _ ≤ 130000; omega⟩ ?_
  refine VB_istore (q := 84) (lv' := [(0, _), (1, _), (2, _), (3, _), (4, _), (5, _), (6, _), (7, _), (8, _), (9, _)]) dL_law_82 (by decide) rfl rfl ?_
  refine VB_iload (q := 86) dL_law_84 9 rfl rfl ?_
  refine VB_bipush (q := 88) dL_law_86 (by decide) rfl ?_
  refine VB_idiv (q := 89) (a := 31) (b := 32) dL_law_88 (by omega) (by decide) (by decide) rfl ?_
  refine VB_top (y := iZ 0) rfl ?_
  refine VB_istore (q := 91) (lv' := [(0, _), (1, _), (2, _), (3, _), (4, _), (5, _), (6, _), (7, _), (8, _), (9, _), (10, _)]) dL_law_89 (by decide) rfl rfl ?_
  refine VB_iload (q := 93) dL_law_91 9 rfl rfl ?_
  refine VB_bipush (q := 95) dL_law_93 (by decide) rfl ?_
  refine VB_irem (q := 96) (a := 31) (b := 32) dL_law_95 (by omega) (by decide) (by decide) rfl ?_
  refine VB_top (y := iZ 31) rfl ?_
  refine VB_istore (q := 98) (lv' := [(0, _), (1, _), (2, _), (3, _), (4, _), (5, _), (6, _), (7, _), (8, _), (9, _), (10, _), (11, _)]) dL_law_96 (by decide) rfl rfl ?_
  refine VB_aload (q := 100) dL_law_98 6 rfl rfl ?_
  refine VB_iconst (q := 101) dL_law_100 rfl ?_
  refine VB_iald (q := 102) (v := (iZ 4)) dL_law_101 13 12 rfl rfl (0) (by omega) (by omega) (by decide) (hM0) rfl ?_
  refine VB_if_ne (q := 105) (tgt := 109) dL_law_102 (by decide) (by decide) (fun _ => ?_) (fun hc => absurd hc (by decide))
  refine VB_iload (q := 111) dL_law_109 10 rfl rfl ?_
  refine VB_aload (q := 113) dL_law_111 6 rfl rfl ?_
  refine VB_iconst (q := 114) dL_law_113 rfl ?_
  refine VB_iald (q := 115) (v := (iZ 4)) dL_law_114 13 12 rfl rfl (0) (by omega) (by omega) (by decide) (hM0) rfl ?_
  refine VB_irem (q := 116) (a := 0) (b := 4) dL_law_115 (by omega) (by decide) (by decide) rfl ?_
  refine VB_top (y := iZ 0) rfl ?_
  refine VB_istore (q := 118) (lv' := [(0, _), (1, _), (2, _), (3, _), (4, _), (5, _), (6, _), (7, _), (8, _), (9, _), (10, _), (11, _), (12, _)]) dL_law_116 (by decide) rfl rfl ?_
  refine VB_aload (q := 120) dL_law_118 6 rfl rfl ?_
  refine VB_iconst (q := 121) dL_law_120 rfl ?_
  refine VB_iald (q := 122) (v := (iZ 4)) dL_law_121 13 12 rfl rfl (0) (by omega) (by omega) (by decide) (hM0) rfl ?_
  refine VB_iconst (q := 123) dL_law_122 rfl ?_
  refine VB_icmp_lt (q := 126) (tgt := 141) dL_law_123 (by decide) (by decide) (by decide) (fun hc => absurd hc (by decide)) (fun _ => ?_)
  refine VB_iload (q := 128) dL_law_126 11 rfl rfl ?_
  refine VB_iconst (q := 129) dL_law_128 rfl ?_
  refine VB_icmp_ge (q := 132) (tgt := 326) dL_law_129 (by decide) (by decide) (by decide) (fun _ => ?_) (fun hc => absurd hc (by decide))
  refine VB_iload (q := 328) dL_law_326 11 rfl rfl ?_
  refine VB_bipush (q := 330) dL_law_328 (by decide) rfl ?_
  refine VB_icmp_ge (q := 333) (tgt := 451) dL_law_330 (by decide) (by decide) (by decide) (fun _ => ?_) (fun hc => absurd hc (by decide))
  refine VB_iload (q := 453) dL_law_451 11 rfl rfl ?_
  refine VB_bipush (q := 455) dL_law_453 (by decide) rfl ?_
  refine VB_icmp_ge (q := 458) (tgt := 603) dL_law_455 (by decide) (by decide) (by decide) (fun _ => ?_) (fun hc => absurd hc (by decide))
  refine VB_iload (q := 605) dL_law_603 11 rfl rfl ?_
  refine VB_bipush (q := 607) dL_law_605 (by decide) rfl ?_
  refine VB_icmp_ge (q := 610) (tgt := 633) dL_law_607 (by decide) (by decide) (by decide) (fun _ => ?_) (fun hc => absurd hc (by decide))
  refine VB_iload (q := 635) dL_law_633 11 rfl rfl ?_
  refine VB_bipush (q := 637) dL_law_635 (by decide) rfl ?_
  refine VB_icmp_ge (q := 640) (tgt := 677) dL_law_637 (by decide) (by decide) (by decide) (fun _ => ?_) (fun hc => absurd hc (by decide))
  refine VB_iload (q := 679) dL_law_677 11 rfl rfl ?_
  refine VB_bipush (q := 681) dL_law_679 (by decide) rfl ?_
  refine VB_icmp_ne (q := 684) (tgt := 783) dL_law_681 (by decide) (by decide) (by decide) (fun _ => ?_) (fun hc => absurd hc (by decide))
  refine VB_loc (lv' := [(0, _), (1, _), (2, _), (3, _), (4, _), (5, _), (6, _), (7, _), (8, _), (9, _), (10, _)]) [0, 1, 2, 3, 4, 5, 6, 7, 8, 9, 10] rfl ?_
  exact VB_widen (by omega) (by omega) (ck24 hL h16 hx S F g hI (hK (by decide)) hg)
set_option maxRecDepth 100000 in
set_option maxHeartbeats 8000000 in
theorem ck23 {s0 L : Nat} {xs : Nat → Int32} {a : Nat → Nat} {c : Nat → ClassId} {b : Nat → Nat} {d : Nat → ClassId} (hL : L ≤ 260) (h16 : 80 ≤ L) (hx : ∀ j, j < 80 → xs j = 31) : ∀ (S : St) (F : Nat → Nat → Int32) (g : Nat → Nat), Iv S F 4 → sK S 0 = 0 → (∀ j, g j < 4096) → VB 123 RL cL_law 17 (some .boolean) wsL_law roomB (vXL s0 L xs) (tyl c d) (qF 123) (3166) (18996 + 1250) (wal a c S b d F g) 783 [(0, .ref (s0)), (1, .ref (a 0)), (2, .ref (b 0)), (3, .ref (b 1)), (4, .ref (b 2)), (5, .ref (b 3)), (6, .ref (b 4)), (7, .int (iZ 1)), (8, .int (iZ 23)), (9, .int (iZ 31)), (10, .int (iZ 0))] [] := by
  intro S F g hI hK hg
  obtain ⟨ho, hn, hm4, hM0, hG, hC⟩ := id hI
  refine VB_iload (q := 785) dL_law_783 7 rfl rfl ?_
  refine VB_if_eq (q := 788) (tgt := 968) dL_law_785 (by decide) (by decide) (fun hc => absurd hc (by decide)) (fun _ => ?_)
  refine VB_aload_n (q := 789) dL_law_788 1 rfl rfl ?_
  refine VB_aload_n (q := 790) dL_law_789 2 rfl rfl ?_
  refine VB_aload_n (q := 791) dL_law_790 3 rfl rfl ?_
  refine VB_aload (q := 793) dL_law_791 6 rfl rfl ?_
  refine VB_callU (q := 796) dL_law_793 (u_areThings (a := a) (c := c) (S := S) (b := b) (d := d) (F := F) hI hg) yv_L_areThings rfl gL_law_L_areThings xU_L rfl (Nat.le_of_ble_eq_true rfl) (by decide) ⟨by show _ ≤ 20000; omega, by show _ ≤ 130000; omega⟩ (fun x793 g793 hP793 hg793 => ?_)
  refine VB_lo (lo' := 123) (Nat.le_add_right _ _) ?_
  have J968 : ∀ (gj968 : Nat → Nat), (∀ j, gj968 j < 4096) → VB 123 RL cL_law 17 (some .boolean) wsL_law roomB (vXL s0 L xs) (tyl c d) (qF 123) (3186) (19116 + 1250) (wal a c S b d F gj968) 968 [(0, .ref (s0)), (1, .ref (a 0)), (2, .ref (b 0)), (3, .ref (b 1)), (4, .ref (b 2)), (5, .ref (b 3)), (6, .ref (b 4)), (7, .int (iZ 1)), (8, .int (iZ 23)), (9, .int (iZ 31)), (10, .int (iZ 0))] [] := by
    intro gj968 hgj968
    refine VB_iconst (q := 969) dL_law_968 rfl ?_
    refine VB_istore (q := 971) (lv' := [(0, _), (1, _), (2, _), (3, _), (4, _), (5, _), (6, _), (7, _), (8, _), (9, _), (10, _)]) dL_law_969 (by decide) rfl rfl ?_
    refine VB_iinc (q := 974) (y := 24) (lv' := [(0, _), (1, _), (2, _), (3, _), (4, _), (5, _), (6, _), (7, _), (8, _), (9, _), (10, _)]) dL_law_971 8 rfl (by omega) (by decide) rfl rfl ?_
    refine VB_goto (tgt := 64) dL_law_974 (by decide) ?_
    refine VB_iload (q := 66) dL_law_64 8 rfl rfl ?_
    refine VB_bipush (q := 68) dL_law_66 (by decide) rfl ?_
    refine VB_icmp_ge (q := 71) (tgt := 977) dL_law_68 (by decide) (by decide) (by decide) (fun hc => absurd hc (by decide)) (fun _ => ?_)
    refine VB_iload (q := 73) dL_law_71 7 rfl rfl ?_
    refine VB_if_eq (q := 76) (tgt := 977) dL_law_73 (by decide) (by decide) (fun _ => ?_) (fun hc => absurd hc (by decide))
    refine VB_iload (q := 979) dL_law_977 7 rfl rfl ?_
    exact VB_ret0 dL_law_979 rfl
  refine VB_uif_eq (q := 799) (tgt := 968) dL_law_796 (by decide) ?_ ?_
  · skip
    exact VB_widen (by omega) (by omega) (J968 g793 hg793)
  · skip
    refine VB_iload (q := 801) dL_law_799 8 rfl rfl ?_
    refine VB_iconst (q := 802) dL_law_801 rfl ?_
    refine VB_irem (q := 803) (a := 23) (b := 2) dL_law_802 (by omega) (by decide) (by decide) rfl ?_
    refine VB_top (y := iZ 1) rfl ?_
    refine VB_if_gt (q := 806) (tgt := 833) dL_law_803 (by decide) (by decide) (fun _ => ?_) (fun hc => absurd hc (by decide))
    refine VB_aload_n (q := 834) dL_law_833 1 rfl rfl ?_
    refine VB_aload_n (q := 835) dL_law_834 2 rfl rfl ?_
    refine VB_aload_n (q := 836) dL_law_835 3 rfl rfl ?_
    refine VB_aload (q := 838) dL_law_836 4 rfl rfl ?_
    refine VB_aload (q := 840) dL_law_838 6 rfl rfl ?_
    refine VB_callU (q := 843) dL_law_840 (u_isMissing (a := a) (c := c) (S := S) (b := b) (d := d) (F := F) hI hg793) yv_L_isMissing rfl gL_law_L_isMissing xU_L rfl (Nat.le_of_ble_eq_true rfl) (by decide) ⟨by show _ ≤ 20000; omega, by show _ ≤ 130000; omega⟩ (fun x840 g840 hP840 hg840 => ?_)
    refine VB_lo (lo' := 123) (Nat.le_add_right _ _) ?_
    refine VB_uif_eq (q := 846) (tgt := 968) dL_law_843 (by decide) ?_ ?_
    · skip
      exact VB_widen (by omega) (by omega) (J968 g840 hg840)
    · skip
      refine VB_aload_n (q := 847) dL_law_846 1 rfl rfl ?_
      refine VB_aload_n (q := 848) dL_law_847 2 rfl rfl ?_
      refine VB_aload (q := 850) dL_law_848 6 rfl rfl ?_
      refine VB_iload (q := 852) dL_law_850 10 rfl rfl ?_
      refine VB_aload (q := 854) dL_law_852 6 rfl rfl ?_
      refine VB_iconst (q := 855) dL_law_854 rfl ?_
      refine VB_iald (q := 856) (v := (iZ 4)) dL_law_855 13 12 rfl rfl (0) (by omega) (by omega) (by decide) (hM0) rfl ?_
      refine VB_iconst (q := 857) dL_law_856 rfl ?_
      refine VB_iadd (q := 858) dL_law_857 rfl ?_
      refine VB_top (y := iZ 5) rfl ?_
      refine VB_irem (q := 859) (a := 0) (b := 5) dL_law_858 (by omega) (by decide) (by decide) rfl ?_
      refine VB_top (y := iZ 0) rfl ?_
      refine VB_iload (q := 861) dL_law_859 10 rfl rfl ?_
      refine VB_bipush (q := 863) dL_law_861 (by decide) rfl ?_
      refine VB_idiv (q := 864) (a := 0) (b := 13) dL_law_863 (by omega) (by decide) (by decide) rfl ?_
      refine VB_top (y := iZ 0) rfl ?_
      refine VB_aload (q := 866) dL_law_864 6 rfl rfl ?_
      refine VB_iconst (q := 867) dL_law_866 rfl ?_
      refine VB_iald (q := 868) (v := (iZ 4)) dL_law_867 13 12 rfl rfl (0) (by omega) (by omega) (by decide) (hM0) rfl ?_
      refine VB_iconst (q := 869) dL_law_868 rfl ?_
      refine VB_iadd (q := 870) dL_law_869 rfl ?_
      refine VB_top (y := iZ 5) rfl ?_
      refine VB_irem (q := 871) (a := 0) (b := 5) dL_law_870 (by omega) (by decide) (by decide) rfl ?_
      refine VB_top (y := iZ 0) rfl ?_
      refine VB_iload (q := 873) dL_law_871 10 rfl rfl ?_
      refine VB_sipush (q := 876) dL_law_873 (by decide) rfl ?_
      refine VB_idiv (q := 877) (a := 0) (b := 169) dL_law_876 (by omega) (by decide) (by decide) rfl ?_
      refine VB_top (y := iZ 0) rfl ?_
      refine VB_aload (q := 879) dL_law_877 6 rfl rfl ?_
      refine VB_iconst (q := 880) dL_law_879 rfl ?_
      refine VB_iald (q := 881) (v := (iZ 4)) dL_law_880 13 12 rfl rfl (0) (by omega) (by omega) (by decide) (hM0) rfl ?_
      refine VB_iconst (q := 882) dL_law_881 rfl ?_
      refine VB_iadd (q := 883) dL_law_882 rfl ?_
      refine VB_top (y := iZ 6) rfl ?_
      refine VB_irem (q := 884) (a := 0) (b := 6) dL_law_883 (by omega) (by decide) (by decide) rfl ?_
      refine VB_top (y := iZ 0) rfl ?_
      refine VB_iconst (q := 885) dL_law_884 rfl ?_
      refine VB_isub (q := 886) dL_law_885 rfl ?_
      refine VB_top (y := iZ (-1)) rfl ?_
      refine VB_callU (q := 889) dL_law_886 (u_isWrong (a := a) (c := c) (S := S) (b := b) (d := d) (F := F) hI (wr0 hI (by decide) hK) hg840) yv_L_isWrong rfl gL_law_L_isWrong xU_L rfl (Nat.le_of_ble_eq_true rfl) (by decide) ⟨by show _ ≤ 20000; omega, by show _ ≤ 130000; omega⟩ (fun x886 g886 hP886 hg886 => ?_)
      refine VB_em (x := x886) (fun e886 => VB_lo (lo' := 123) (Nat.le_add_right _ _) (VB_top (y := iZ 0) e886 ?_)) (fun e886 => VB_lo (lo' := 125) (by show 125 ≤ 123 + (if x886 = 0 then 0 else 2); rw [if_neg e886]; omega) ?_)
      · skip
        refine VB_if_eq (q := 892) (tgt := 968) dL_law_889 (by decide) (by decide) (fun _ => ?_) (fun hc => absurd hc (by decide))
        exact VB_widen (by omega) (by omega) (J968 g886 hg886)
      · skip
        refine VB_uif_eq (q := 892) (tgt := 968) dL_law_889 (by decide) ?_ ?_
        · skip
          refine VB_lo (lo' := 123) (by omega) ?_
          exact VB_widen (by omega) (by omega) (J968 g886 hg886)
        · skip
          refine VB_iload (q := 894) dL_law_892 8 rfl rfl ?_
          refine VB_bipush (q := 896) dL_law_894 (by decide) rfl ?_
          refine VB_irem (q := 897) (a := 23) (b := 16) dL_law_896 (by omega) (by decide) (by decide) rfl ?_
          refine VB_top (y := iZ 7) rfl ?_
          refine VB_if_gt (q := 900) (tgt := 943) dL_law_897 (by decide) (by decide) (fun _ => ?_) (fun hc => absurd hc (by decide))
          refine VB_iload (q := 945) dL_law_943 8 rfl rfl ?_
          refine VB_bipush (q := 947) dL_law_945 (by decide) rfl ?_
          refine VB_irem (q := 948) (a := 23) (b := 20) dL_law_947 (by omega) (by decide) (by decide) rfl ?_
          refine VB_top (y := iZ 3) rfl ?_
          refine VB_if_gt (q := 951) (tgt := 964) dL_law_948 (by decide) (by decide) (fun _ => ?_) (fun hc => absurd hc (by decide))
          refine VB_iconst (q := 965) dL_law_964 rfl ?_
          refine VB_goto (tgt := 969) dL_law_965 (by decide) ?_
          refine VB_istore (q := 971) (lv' := [(0, _), (1, _), (2, _), (3, _), (4, _), (5, _), (6, _), (7, _), (8, _), (9, _), (10, _)]) dL_law_969 (by decide) rfl rfl ?_
          refine VB_iinc (q := 974) (y := 24) (lv' := [(0, _), (1, _), (2, _), (3, _), (4, _), (5, _), (6, _), (7, _), (8, _), (9, _), (10, _)]) dL_law_971 8 rfl (by omega) (by decide) rfl rfl ?_
          refine VB_goto (tgt := 64) dL_law_974 (by decide) ?_
          refine VB_loc (lv' := [(0, _), (1, _), (2, _), (3, _), (4, _), (5, _), (6, _), (7, _), (8, _)]) [0, 1, 2, 3, 4, 5, 6, 7, 8] rfl ?_
          refine VB_lo (lo' := 123) (by omega) ?_
          exact VB_widen (by omega) (by omega) (rd24 hL h16 hx S F g886 hI (fun _ => hK) hg886)
set_option maxRecDepth 100000 in
set_option maxHeartbeats 8000000 in
theorem rd23 {s0 L : Nat} {xs : Nat → Int32} {a : Nat → Nat} {c : Nat → ClassId} {b : Nat → Nat} {d : Nat → ClassId} (hL : L ≤ 260) (h16 : 80 ≤ L) (hx : ∀ j, j < 80 → xs j = 31) : ∀ (S : St) (F : Nat → Nat → Int32) (g : Nat → Nat), Iv S F 4 → (0 < 23 → sK S 0 = 0) → (∀ j, g j < 4096) → VB 123 RL cL_law 17 (some .boolean) wsL_law roomB (vXL s0 L xs) (tyl c d) (qF 123) (3166) (18996 + 1250) (wal a c S b d F g) 64 [(0, .ref (s0)), (1, .ref (a 0)), (2, .ref (b 0)), (3, .ref (b 1)), (4, .ref (b 2)), (5, .ref (b 3)), (6, .ref (b 4)), (7, .int (iZ 1)), (8, .int (iZ 23))] [] := by
  intro S F g hI hK hg
  obtain ⟨ho, hn, hm4, hM0, hG, hC⟩ := id hI
  refine VB_iload (q := 66) dL_law_64 8 rfl rfl ?_
  refine VB_bipush (q := 68) dL_law_66 (by decide) rfl ?_
  refine VB_icmp_ge (q := 71) (tgt := 977) dL_law_68 (by decide) (by decide) (by decide) (fun hc => absurd hc (by decide)) (fun _ => ?_)
  refine VB_iload (q := 73) dL_law_71 7 rfl rfl ?_
  refine VB_if_eq (q := 76) (tgt := 977) dL_law_73 (by decide) (by decide) (fun hc => absurd hc (by decide)) (fun _ => ?_)
  refine VB_aload_n (q := 77) dL_law_76 0 rfl rfl ?_
  refine VB_iload (q := 79) dL_law_77 8 rfl rfl ?_
  refine VB_callD (q := 82) dL_law_79 (u_dice (b := s0) (L := L) (xs := xs) 23 (by omega) hL (hx 23 (by omega))) yv_L_dice rfl gL_law_L_dice xL_s rfl (Nat.le_of_ble_eq_true rfl) (by decide) ⟨by show _ ≤ 20000; omega, by show _ ≤ 130000; omega⟩ ?_
  refine VB_istore (q := 84) (lv' := [(0, _), (1, _), (2, _), (3, _), (4, _), (5, _), (6, _), (7, _), (8, _), (9, _)]) dL_law_82 (by decide) rfl rfl ?_
  refine VB_iload (q := 86) dL_law_84 9 rfl rfl ?_
  refine VB_bipush (q := 88) dL_law_86 (by decide) rfl ?_
  refine VB_idiv (q := 89) (a := 31) (b := 32) dL_law_88 (by omega) (by decide) (by decide) rfl ?_
  refine VB_top (y := iZ 0) rfl ?_
  refine VB_istore (q := 91) (lv' := [(0, _), (1, _), (2, _), (3, _), (4, _), (5, _), (6, _), (7, _), (8, _), (9, _), (10, _)]) dL_law_89 (by decide) rfl rfl ?_
  refine VB_iload (q := 93) dL_law_91 9 rfl rfl ?_
  refine VB_bipush (q := 95) dL_law_93 (by decide) rfl ?_
  refine VB_irem (q := 96) (a := 31) (b := 32) dL_law_95 (by omega) (by decide) (by decide) rfl ?_
  refine VB_top (y := iZ 31) rfl ?_
  refine VB_istore (q := 98) (lv' := [(0, _), (1, _), (2, _), (3, _), (4, _), (5, _), (6, _), (7, _), (8, _), (9, _), (10, _), (11, _)]) dL_law_96 (by decide) rfl rfl ?_
  refine VB_aload (q := 100) dL_law_98 6 rfl rfl ?_
  refine VB_iconst (q := 101) dL_law_100 rfl ?_
  refine VB_iald (q := 102) (v := (iZ 4)) dL_law_101 13 12 rfl rfl (0) (by omega) (by omega) (by decide) (hM0) rfl ?_
  refine VB_if_ne (q := 105) (tgt := 109) dL_law_102 (by decide) (by decide) (fun _ => ?_) (fun hc => absurd hc (by decide))
  refine VB_iload (q := 111) dL_law_109 10 rfl rfl ?_
  refine VB_aload (q := 113) dL_law_111 6 rfl rfl ?_
  refine VB_iconst (q := 114) dL_law_113 rfl ?_
  refine VB_iald (q := 115) (v := (iZ 4)) dL_law_114 13 12 rfl rfl (0) (by omega) (by omega) (by decide) (hM0) rfl ?_
  refine VB_irem (q := 116) (a := 0) (b := 4) dL_law_115 (by omega) (by decide) (by decide) rfl ?_
  refine VB_top (y := iZ 0) rfl ?_
  refine VB_istore (q := 118) (lv' := [(0, _), (1, _), (2, _), (3, _), (4, _), (5, _), (6, _), (7, _), (8, _), (9, _), (10, _), (11, _), (12, _)]) dL_law_116 (by decide) rfl rfl ?_
  refine VB_aload (q := 120) dL_law_118 6 rfl rfl ?_
  refine VB_iconst (q := 121) dL_law_120 rfl ?_
  refine VB_iald (q := 122) (v := (iZ 4)) dL_law_121 13 12 rfl rfl (0) (by omega) (by omega) (by decide) (hM0) rfl ?_
  refine VB_iconst (q := 123) dL_law_122 rfl ?_
  refine VB_icmp_lt (q := 126) (tgt := 141) dL_law_123 (by decide) (by decide) (by decide) (fun hc => absurd hc (by decide)) (fun _ => ?_)
  refine VB_iload (q := 128) dL_law_126 11 rfl rfl ?_
  refine VB_iconst (q := 129) dL_law_128 rfl ?_
  refine VB_icmp_ge (q := 132) (tgt := 326) dL_law_129 (by decide) (by decide) (by decide) (fun _ => ?_) (fun hc => absurd hc (by decide))
  refine VB_iload (q := 328) dL_law_326 11 rfl rfl ?_
  refine VB_bipush (q := 330) dL_law_328 (by decide) rfl ?_
  refine VB_icmp_ge (q := 333) (tgt := 451) dL_law_330 (by decide) (by decide) (by decide) (fun _ => ?_) (fun hc => absurd hc (by decide))
  refine VB_iload (q := 453) dL_law_451 11 rfl rfl ?_
  refine VB_bipush (q := 455) dL_law_453 (by decide) rfl ?_
  refine VB_icmp_ge (q := 458) (tgt := 603) dL_law_455 (by decide) (by decide) (by decide) (fun _ => ?_) (fun hc => absurd hc (by decide))
  refine VB_iload (q := 605) dL_law_603 11 rfl rfl ?_
  refine VB_bipush (q := 607) dL_law_605 (by decide) rfl ?_
  refine VB_icmp_ge (q := 610) (tgt := 633) dL_law_607 (by decide) (by decide) (by decide) (fun _ => ?_) (fun hc => absurd hc (by decide))
  refine VB_iload (q := 635) dL_law_633 11 rfl rfl ?_
  refine VB_bipush (q := 637) dL_law_635 (by decide) rfl ?_
  refine VB_icmp_ge (q := 640) (tgt := 677) dL_law_637 (by decide) (by decide) (by decide) (fun _ => ?_) (fun hc => absurd hc (by decide))
  refine VB_iload (q := 679) dL_law_677 11 rfl rfl ?_
  refine VB_bipush (q := 681) dL_law_679 (by decide) rfl ?_
  refine VB_icmp_ne (q := 684) (tgt := 783) dL_law_681 (by decide) (by decide) (by decide) (fun _ => ?_) (fun hc => absurd hc (by decide))
  refine VB_loc (lv' := [(0, _), (1, _), (2, _), (3, _), (4, _), (5, _), (6, _), (7, _), (8, _), (9, _), (10, _)]) [0, 1, 2, 3, 4, 5, 6, 7, 8, 9, 10] rfl ?_
  exact VB_widen (by omega) (by omega) (ck23 hL h16 hx S F g hI (hK (by decide)) hg)
set_option maxRecDepth 100000 in
set_option maxHeartbeats 8000000 in
theorem ck22 {s0 L : Nat} {xs : Nat → Int32} {a : Nat → Nat} {c : Nat → ClassId} {b : Nat → Nat} {d : Nat → ClassId} (hL : L ≤ 260) (h16 : 80 ≤ L) (hx : ∀ j, j < 80 → xs j = 31) : ∀ (S : St) (F : Nat → Nat → Int32) (g : Nat → Nat), Iv S F 4 → sK S 0 = 0 → (∀ j, g j < 4096) → VB 123 RL cL_law 17 (some .boolean) wsL_law roomB (vXL s0 L xs) (tyl c d) (qF 123) (2946) (17676 + 1250) (wal a c S b d F g) 783 [(0, .ref (s0)), (1, .ref (a 0)), (2, .ref (b 0)), (3, .ref (b 1)), (4, .ref (b 2)), (5, .ref (b 3)), (6, .ref (b 4)), (7, .int (iZ 1)), (8, .int (iZ 22)), (9, .int (iZ 31)), (10, .int (iZ 0))] [] := by
  intro S F g hI hK hg
  obtain ⟨ho, hn, hm4, hM0, hG, hC⟩ := id hI
  refine VB_iload (q := 785) dL_law_783 7 rfl rfl ?_
  refine VB_if_eq (q := 788) (tgt := 968) dL_law_785 (by decide) (by decide) (fun hc => absurd hc (by decide)) (fun _ => ?_)
  refine VB_aload_n (q := 789) dL_law_788 1 rfl rfl ?_
  refine VB_aload_n (q := 790) dL_law_789 2 rfl rfl ?_
  refine VB_aload_n (q := 791) dL_law_790 3 rfl rfl ?_
  refine VB_aload (q := 793) dL_law_791 6 rfl rfl ?_
  refine VB_callU (q := 796) dL_law_793 (u_areThings (a := a) (c := c) (S := S) (b := b) (d := d) (F := F) hI hg) yv_L_areThings rfl gL_law_L_areThings xU_L rfl (Nat.le_of_ble_eq_true rfl) (by decide) ⟨by show _ ≤ 20000; omega, by show _ ≤ 130000; omega⟩ (fun x793 g793 hP793 hg793 => ?_)
  refine VB_lo (lo' := 123) (Nat.le_add_right _ _) ?_
  have J968 : ∀ (gj968 : Nat → Nat), (∀ j, gj968 j < 4096) → VB 123 RL cL_law 17 (some .boolean) wsL_law roomB (vXL s0 L xs) (tyl c d) (qF 123) (3166) (18996 + 1250) (wal a c S b d F gj968) 968 [(0, .ref (s0)), (1, .ref (a 0)), (2, .ref (b 0)), (3, .ref (b 1)), (4, .ref (b 2)), (5, .ref (b 3)), (6, .ref (b 4)), (7, .int (iZ 1)), (8, .int (iZ 22)), (9, .int (iZ 31)), (10, .int (iZ 0))] [] := by
    intro gj968 hgj968
    refine VB_iconst (q := 969) dL_law_968 rfl ?_
    refine VB_istore (q := 971) (lv' := [(0, _), (1, _), (2, _), (3, _), (4, _), (5, _), (6, _), (7, _), (8, _), (9, _), (10, _)]) dL_law_969 (by decide) rfl rfl ?_
    refine VB_iinc (q := 974) (y := 23) (lv' := [(0, _), (1, _), (2, _), (3, _), (4, _), (5, _), (6, _), (7, _), (8, _), (9, _), (10, _)]) dL_law_971 8 rfl (by omega) (by decide) rfl rfl ?_
    refine VB_goto (tgt := 64) dL_law_974 (by decide) ?_
    refine VB_iload (q := 66) dL_law_64 8 rfl rfl ?_
    refine VB_bipush (q := 68) dL_law_66 (by decide) rfl ?_
    refine VB_icmp_ge (q := 71) (tgt := 977) dL_law_68 (by decide) (by decide) (by decide) (fun hc => absurd hc (by decide)) (fun _ => ?_)
    refine VB_iload (q := 73) dL_law_71 7 rfl rfl ?_
    refine VB_if_eq (q := 76) (tgt := 977) dL_law_73 (by decide) (by decide) (fun _ => ?_) (fun hc => absurd hc (by decide))
    refine VB_iload (q := 979) dL_law_977 7 rfl rfl ?_
    exact VB_ret0 dL_law_979 rfl
  refine VB_uif_eq (q := 799) (tgt := 968) dL_law_796 (by decide) ?_ ?_
  · skip
    exact VB_widen (by omega) (by omega) (J968 g793 hg793)
  · skip
    refine VB_iload (q := 801) dL_law_799 8 rfl rfl ?_
    refine VB_iconst (q := 802) dL_law_801 rfl ?_
    refine VB_irem (q := 803) (a := 22) (b := 2) dL_law_802 (by omega) (by decide) (by decide) rfl ?_
    refine VB_top (y := iZ 0) rfl ?_
    refine VB_if_gt (q := 806) (tgt := 833) dL_law_803 (by decide) (by decide) (fun hc => absurd hc (by decide)) (fun _ => ?_)
    refine VB_aload_n (q := 807) dL_law_806 1 rfl rfl ?_
    refine VB_aload_n (q := 808) dL_law_807 2 rfl rfl ?_
    refine VB_aload_n (q := 809) dL_law_808 3 rfl rfl ?_
    refine VB_aload (q := 811) dL_law_809 4 rfl rfl ?_
    refine VB_aload (q := 813) dL_law_811 6 rfl rfl ?_
    refine VB_iload (q := 815) dL_law_813 10 rfl rfl ?_
    refine VB_bipush (q := 817) dL_law_815 (by decide) rfl ?_
    refine VB_irem (q := 818) (a := 0) (b := 31) dL_law_817 (by omega) (by decide) (by decide) rfl ?_
    refine VB_top (y := iZ 0) rfl ?_
    refine VB_iload (q := 820) dL_law_818 10 rfl rfl ?_
    refine VB_bipush (q := 822) dL_law_820 (by decide) rfl ?_
    refine VB_idiv (q := 823) (a := 0) (b := 31) dL_law_822 (by omega) (by decide) (by decide) rfl ?_
    refine VB_top (y := iZ 0) rfl ?_
    refine VB_sipush (q := 826) dL_law_823 (by decide) rfl ?_
    refine VB_irem (q := 827) (a := 0) (b := 256) dL_law_826 (by omega) (by decide) (by decide) rfl ?_
    refine VB_top (y := iZ 0) rfl ?_
    refine VB_callU (q := 830) dL_law_827 (u_areOutfits (a := a) (c := c) (S := S) (b := b) (d := d) (F := F) hI hg793) yv_L_areOutfits rfl gL_law_L_areOutfits xU_L rfl (Nat.le_of_ble_eq_true rfl) (by decide) ⟨by show _ ≤ 20000; omega, by show _ ≤ 130000; omega⟩ (fun x827 g827 hP827 hg827 => ?_)
    refine VB_lo (lo' := 123) (Nat.le_add_right _ _) ?_
    refine VB_uif_eq (q := 833) (tgt := 968) dL_law_830 (by decide) ?_ ?_
    · skip
      exact VB_widen (by omega) (by omega) (J968 g827 hg827)
    · skip
      refine VB_aload_n (q := 834) dL_law_833 1 rfl rfl ?_
      refine VB_aload_n (q := 835) dL_law_834 2 rfl rfl ?_
      refine VB_aload_n (q := 836) dL_law_835 3 rfl rfl ?_
      refine VB_aload (q := 838) dL_law_836 4 rfl rfl ?_
      refine VB_aload (q := 840) dL_law_838 6 rfl rfl ?_
      refine VB_callU (q := 843) dL_law_840 (u_isMissing (a := a) (c := c) (S := S) (b := b) (d := d) (F := F) hI hg827) yv_L_isMissing rfl gL_law_L_isMissing xU_L rfl (Nat.le_of_ble_eq_true rfl) (by decide) ⟨by show _ ≤ 20000; omega, by show _ ≤ 130000; omega⟩ (fun x840 g840 hP840 hg840 => ?_)
      refine VB_lo (lo' := 123) (Nat.le_add_right _ _) ?_
      refine VB_uif_eq (q := 846) (tgt := 968) dL_law_843 (by decide) ?_ ?_
      · skip
        exact VB_widen (by omega) (by omega) (J968 g840 hg840)
      · skip
        refine VB_aload_n (q := 847) dL_law_846 1 rfl rfl ?_
        refine VB_aload_n (q := 848) dL_law_847 2 rfl rfl ?_
        refine VB_aload (q := 850) dL_law_848 6 rfl rfl ?_
        refine VB_iload (q := 852) dL_law_850 10 rfl rfl ?_
        refine VB_aload (q := 854) dL_law_852 6 rfl rfl ?_
        refine VB_iconst (q := 855) dL_law_854 rfl ?_
        refine VB_iald (q := 856) (v := (iZ 4)) dL_law_855 13 12 rfl rfl (0) (by omega) (by omega) (by decide) (hM0) rfl ?_
        refine VB_iconst (q := 857) dL_law_856 rfl ?_
        refine VB_iadd (q := 858) dL_law_857 rfl ?_
        refine VB_top (y := iZ 5) rfl ?_
        refine VB_irem (q := 859) (a := 0) (b := 5) dL_law_858 (by omega) (by decide) (by decide) rfl ?_
        refine VB_top (y := iZ 0) rfl ?_
        refine VB_iload (q := 861) dL_law_859 10 rfl rfl ?_
        refine VB_bipush (q := 863) dL_law_861 (by decide) rfl ?_
        refine VB_idiv (q := 864) (a := 0) (b := 13) dL_law_863 (by omega) (by decide) (by decide) rfl ?_
        refine VB_top (y := iZ 0) rfl ?_
        refine VB_aload (q := 866) dL_law_864 6 rfl rfl ?_
        refine VB_iconst (q := 867) dL_law_866 rfl ?_
        refine VB_iald (q := 868) (v := (iZ 4)) dL_law_867 13 12 rfl rfl (0) (by omega) (by omega) (by decide) (hM0) rfl ?_
        refine VB_iconst (q := 869) dL_law_868 rfl ?_
        refine VB_iadd (q := 870) dL_law_869 rfl ?_
        refine VB_top (y := iZ 5) rfl ?_
        refine VB_irem (q := 871) (a := 0) (b := 5) dL_law_870 (by omega) (by decide) (by decide) rfl ?_
        refine VB_top (y := iZ 0) rfl ?_
        refine VB_iload (q := 873) dL_law_871 10 rfl rfl ?_
        refine VB_sipush (q := 876) dL_law_873 (by decide) rfl ?_
        refine VB_idiv (q := 877) (a := 0) (b := 169) dL_law_876 (by omega) (by decide) (by decide) rfl ?_
        refine VB_top (y := iZ 0) rfl ?_
        refine VB_aload (q := 879) dL_law_877 6 rfl rfl ?_
        refine VB_iconst (q := 880) dL_law_879 rfl ?_
        refine VB_iald (q := 881) (v := (iZ 4)) dL_law_880 13 12 rfl rfl (0) (by omega) (by omega) (by decide) (hM0) rfl ?_
        refine VB_iconst (q := 882) dL_law_881 rfl ?_
        refine VB_iadd (q := 883) dL_law_882 rfl ?_
        refine VB_top (y := iZ 6) rfl ?_
        refine VB_irem (q := 884) (a := 0) (b := 6) dL_law_883 (by omega) (by decide) (by decide) rfl ?_
        refine VB_top (y := iZ 0) rfl ?_
        refine VB_iconst (q := 885) dL_law_884 rfl ?_
        refine VB_isub (q := 886) dL_law_885 rfl ?_
        refine VB_top (y := iZ (-1)) rfl ?_
        refine VB_callU (q := 889) dL_law_886 (u_isWrong (a := a) (c := c) (S := S) (b := b) (d := d) (F := F) hI (wr0 hI (by decide) hK) hg840) yv_L_isWrong rfl gL_law_L_isWrong xU_L rfl (Nat.le_of_ble_eq_true rfl) (by decide) ⟨by show _ ≤ 20000; omega, by show _ ≤ 130000; omega⟩ (fun x886 g886 hP886 hg886 => ?_)
        refine VB_em (x := x886) (fun e886 => VB_lo (lo' := 123) (Nat.le_add_right _ _) (VB_top (y := iZ 0) e886 ?_)) (fun e886 => VB_lo (lo' := 125) (by show 125 ≤ 123 + (if x886 = 0 then 0 else 2); rw [if_neg e886]; omega) ?_)
        · skip
          refine VB_if_eq (q := 892) (tgt := 968) dL_law_889 (by decide) (by decide) (fun _ => ?_) (fun hc => absurd hc (by decide))
          exact VB_widen (by omega) (by omega) (J968 g886 hg886)
        · skip
          refine VB_uif_eq (q := 892) (tgt := 968) dL_law_889 (by decide) ?_ ?_
          · skip
            refine VB_lo (lo' := 123) (by omega) ?_
            exact VB_widen (by omega) (by omega) (J968 g886 hg886)
          · skip
            refine VB_iload (q := 894) dL_law_892 8 rfl rfl ?_
            refine VB_bipush (q := 896) dL_law_894 (by decide) rfl ?_
            refine VB_irem (q := 897) (a := 22) (b := 16) dL_law_896 (by omega) (by decide) (by decide) rfl ?_
            refine VB_top (y := iZ 6) rfl ?_
            refine VB_if_gt (q := 900) (tgt := 943) dL_law_897 (by decide) (by decide) (fun _ => ?_) (fun hc => absurd hc (by decide))
            refine VB_iload (q := 945) dL_law_943 8 rfl rfl ?_
            refine VB_bipush (q := 947) dL_law_945 (by decide) rfl ?_
            refine VB_irem (q := 948) (a := 22) (b := 20) dL_law_947 (by omega) (by decide) (by decide) rfl ?_
            refine VB_top (y := iZ 2) rfl ?_
            refine VB_if_gt (q := 951) (tgt := 964) dL_law_948 (by decide) (by decide) (fun _ => ?_) (fun hc => absurd hc (by decide))
            refine VB_iconst (q := 965) dL_law_964 rfl ?_
            refine VB_goto (tgt := 969) dL_law_965 (by decide) ?_
            refine VB_istore (q := 971) (lv' := [(0, _), (1, _), (2, _), (3, _), (4, _), (5, _), (6, _), (7, _), (8, _), (9, _), (10, _)]) dL_law_969 (by decide) rfl rfl ?_
            refine VB_iinc (q := 974) (y := 23) (lv' := [(0, _), (1, _), (2, _), (3, _), (4, _), (5, _), (6, _), (7, _), (8, _), (9, _), (10, _)]) dL_law_971 8 rfl (by omega) (by decide) rfl rfl ?_
            refine VB_goto (tgt := 64) dL_law_974 (by decide) ?_
            refine VB_loc (lv' := [(0, _), (1, _), (2, _), (3, _), (4, _), (5, _), (6, _), (7, _), (8, _)]) [0, 1, 2, 3, 4, 5, 6, 7, 8] rfl ?_
            refine VB_lo (lo' := 123) (by omega) ?_
            exact VB_widen (by omega) (by omega) (rd23 hL h16 hx S F g886 hI (fun _ => hK) hg886)
set_option maxRecDepth 100000 in
set_option maxHeartbeats 8000000 in
theorem rd22 {s0 L : Nat} {xs : Nat → Int32} {a : Nat → Nat} {c : Nat → ClassId} {b : Nat → Nat} {d : Nat → ClassId} (hL : L ≤ 260) (h16 : 80 ≤ L) (hx : ∀ j, j < 80 → xs j = 31) : ∀ (S : St) (F : Nat → Nat → Int32) (g : Nat → Nat), Iv S F 4 → (0 < 22 → sK S 0 = 0) → (∀ j, g j < 4096) → VB 123 RL cL_law 17 (some .boolean) wsL_law roomB (vXL s0 L xs) (tyl c d) (qF 123) (2946) (17676 + 1250) (wal a c S b d F g) 64 [(0, .ref (s0)), (1, .ref (a 0)), (2, .ref (b 0)), (3, .ref (b 1)), (4, .ref (b 2)), (5, .ref (b 3)), (6, .ref (b 4)), (7, .int (iZ 1)), (8, .int (iZ 22))] [] := by
  intro S F g hI hK hg
  obtain ⟨ho, hn, hm4, hM0, hG, hC⟩ := id hI
  refine VB_iload (q := 66) dL_law_64 8 rfl rfl ?_
  refine VB_bipush (q := 68) dL_law_66 (by decide) rfl ?_
  refine VB_icmp_ge (q := 71) (tgt := 977) dL_law_68 (by decide) (by decide) (by decide) (fun hc => absurd hc (by decide)) (fun _ => ?_)
  refine VB_iload (q := 73) dL_law_71 7 rfl rfl ?_
  refine VB_if_eq (q := 76) (tgt := 977) dL_law_73 (by decide) (by decide) (fun hc => absurd hc (by decide)) (fun _ => ?_)
  refine VB_aload_n (q := 77) dL_law_76 0 rfl rfl ?_
  refine VB_iload (q := 79) dL_law_77 8 rfl rfl ?_
  refine VB_callD (q := 82) dL_law_79 (u_dice (b := s0) (L := L) (xs := xs) 22 (by omega) hL (hx 22 (by omega))) yv_L_dice rfl gL_law_L_dice xL_s rfl (Nat.le_of_ble_eq_true rfl) (by decide) ⟨by show _ ≤ 20000; omega, by show _ ≤ 130000; omega⟩ ?_
  refine VB_istore (q := 84) (lv' := [(0, _), (1, _), (2, _), (3, _), (4, _), (5, _), (6, _), (7, _), (8, _), (9, _)]) dL_law_82 (by decide) rfl rfl ?_
  refine VB_iload (q := 86) dL_law_84 9 rfl rfl ?_
  refine VB_bipush (q := 88) dL_law_86 (by decide) rfl ?_
  refine VB_idiv (q := 89) (a := 31) (b := 32) dL_law_88 (by omega) (by decide) (by decide) rfl ?_
  refine VB_top (y := iZ 0) rfl ?_
  refine VB_istore (q := 91) (lv' := [(0, _), (1, _), (2, _), (3, _), (4, _), (5, _), (6, _), (7, _), (8, _), (9, _), (10, _)]) dL_law_89 (by decide) rfl rfl ?_
  refine VB_iload (q := 93) dL_law_91 9 rfl rfl ?_
  refine VB_bipush (q := 95) dL_law_93 (by decide) rfl ?_
  refine VB_irem (q := 96) (a := 31) (b := 32) dL_law_95 (by omega) (by decide) (by decide) rfl ?_
  refine VB_top (y := iZ 31) rfl ?_
  refine VB_istore (q := 98) (lv' := [(0, _), (1, _), (2, _), (3, _), (4, _), (5, _), (6, _), (7, _), (8, _), (9, _), (10, _), (11, _)]) dL_law_96 (by decide) rfl rfl ?_
  refine VB_aload (q := 100) dL_law_98 6 rfl rfl ?_
  refine VB_iconst (q := 101) dL_law_100 rfl ?_
  refine VB_iald (q := 102) (v := (iZ 4)) dL_law_101 13 12 rfl rfl (0) (by omega) (by omega) (by decide) (hM0) rfl ?_
  refine VB_if_ne (q := 105) (tgt := 109) dL_law_102 (by decide) (by decide) (fun _ => ?_) (fun hc => absurd hc (by decide))
  refine VB_iload (q := 111) dL_law_109 10 rfl rfl ?_
  refine VB_aload (q := 113) dL_law_111 6 rfl rfl ?_
  refine VB_iconst (q := 114) dL_law_113 rfl ?_
  refine VB_iald (q := 115) (v := (iZ 4)) dL_law_114 13 12 rfl rfl (0) (by omega) (by omega) (by decide) (hM0) rfl ?_
  refine VB_irem (q := 116) (a := 0) (b := 4) dL_law_115 (by omega) (by decide) (by decide) rfl ?_
  refine VB_top (y := iZ 0) rfl ?_
  refine VB_istore (q := 118) (lv' := [(0, _), (1, _), (2, _), (3, _), (4, _), (5, _), (6, _), (7, _), (8, _), (9, _), (10, _), (11, _), (12, _)]) dL_law_116 (by decide) rfl rfl ?_
  refine VB_aload (q := 120) dL_law_118 6 rfl rfl ?_
  refine VB_iconst (q := 121) dL_law_120 rfl ?_
  refine VB_iald (q := 122) (v := (iZ 4)) dL_law_121 13 12 rfl rfl (0) (by omega) (by omega) (by decide) (hM0) rfl ?_
  refine VB_iconst (q := 123) dL_law_122 rfl ?_
  refine VB_icmp_lt (q := 126) (tgt := 141) dL_law_123 (by decide) (by decide) (by decide) (fun hc => absurd hc (by decide)) (fun _ => ?_)
  refine VB_iload (q := 128) dL_law_126 11 rfl rfl ?_
  refine VB_iconst (q := 129) dL_law_128 rfl ?_
  refine VB_icmp_ge (q := 132) (tgt := 326) dL_law_129 (by decide) (by decide) (by decide) (fun _ => ?_) (fun hc => absurd hc (by decide))
  refine VB_iload (q := 328) dL_law_326 11 rfl rfl ?_
  refine VB_bipush (q := 330) dL_law_328 (by decide) rfl ?_
  refine VB_icmp_ge (q := 333) (tgt := 451) dL_law_330 (by decide) (by decide) (by decide) (fun _ => ?_) (fun hc => absurd hc (by decide))
  refine VB_iload (q := 453) dL_law_451 11 rfl rfl ?_
  refine VB_bipush (q := 455) dL_law_453 (by decide) rfl ?_
  refine VB_icmp_ge (q := 458) (tgt := 603) dL_law_455 (by decide) (by decide) (by decide) (fun _ => ?_) (fun hc => absurd hc (by decide))
  refine VB_iload (q := 605) dL_law_603 11 rfl rfl ?_
  refine VB_bipush (q := 607) dL_law_605 (by decide) rfl ?_
  refine VB_icmp_ge (q := 610) (tgt := 633) dL_law_607 (by decide) (by decide) (by decide) (fun _ => ?_) (fun hc => absurd hc (by decide))
  refine VB_iload (q := 635) dL_law_633 11 rfl rfl ?_
  refine VB_bipush (q := 637) dL_law_635 (by decide) rfl ?_
  refine VB_icmp_ge (q := 640) (tgt := 677) dL_law_637 (by decide) (by decide) (by decide) (fun _ => ?_) (fun hc => absurd hc (by decide))
  refine VB_iload (q := 679) dL_law_677 11 rfl rfl ?_
  refine VB_bipush (q := 681) dL_law_679 (by decide) rfl ?_
  refine VB_icmp_ne (q := 684) (tgt := 783) dL_law_681 (by decide) (by decide) (by decide) (fun _ => ?_) (fun hc => absurd hc (by decide))
  refine VB_loc (lv' := [(0, _), (1, _), (2, _), (3, _), (4, _), (5, _), (6, _), (7, _), (8, _), (9, _), (10, _)]) [0, 1, 2, 3, 4, 5, 6, 7, 8, 9, 10] rfl ?_
  exact VB_widen (by omega) (by omega) (ck22 hL h16 hx S F g hI (hK (by decide)) hg)
set_option maxRecDepth 100000 in
set_option maxHeartbeats 8000000 in
theorem ck21 {s0 L : Nat} {xs : Nat → Int32} {a : Nat → Nat} {c : Nat → ClassId} {b : Nat → Nat} {d : Nat → ClassId} (hL : L ≤ 260) (h16 : 80 ≤ L) (hx : ∀ j, j < 80 → xs j = 31) : ∀ (S : St) (F : Nat → Nat → Int32) (g : Nat → Nat), Iv S F 4 → sK S 0 = 0 → (∀ j, g j < 4096) → VB 123 RL cL_law 17 (some .boolean) wsL_law roomB (vXL s0 L xs) (tyl c d) (qF 123) (2926) (17556 + 1250) (wal a c S b d F g) 783 [(0, .ref (s0)), (1, .ref (a 0)), (2, .ref (b 0)), (3, .ref (b 1)), (4, .ref (b 2)), (5, .ref (b 3)), (6, .ref (b 4)), (7, .int (iZ 1)), (8, .int (iZ 21)), (9, .int (iZ 31)), (10, .int (iZ 0))] [] := by
  intro S F g hI hK hg
  obtain ⟨ho, hn, hm4, hM0, hG, hC⟩ := id hI
  refine VB_iload (q := 785) dL_law_783 7 rfl rfl ?_
  refine VB_if_eq (q := 788) (tgt := 968) dL_law_785 (by decide) (by decide) (fun hc => absurd hc (by decide)) (fun _ => ?_)
  refine VB_aload_n (q := 789) dL_law_788 1 rfl rfl ?_
  refine VB_aload_n (q := 790) dL_law_789 2 rfl rfl ?_
  refine VB_aload_n (q := 791) dL_law_790 3 rfl rfl ?_
  refine VB_aload (q := 793) dL_law_791 6 rfl rfl ?_
  refine VB_callU (q := 796) dL_law_793 (u_areThings (a := a) (c := c) (S := S) (b := b) (d := d) (F := F) hI hg) yv_L_areThings rfl gL_law_L_areThings xU_L rfl (Nat.le_of_ble_eq_true rfl) (by decide) ⟨by show _ ≤ 20000; omega, by show _ ≤ 130000; omega⟩ (fun x793 g793 hP793 hg793 => ?_)
  refine VB_lo (lo' := 123) (Nat.le_add_right _ _) ?_
  have J968 : ∀ (gj968 : Nat → Nat), (∀ j, gj968 j < 4096) → VB 123 RL cL_law 17 (some .boolean) wsL_law roomB (vXL s0 L xs) (tyl c d) (qF 123) (2946) (17676 + 1250) (wal a c S b d F gj968) 968 [(0, .ref (s0)), (1, .ref (a 0)), (2, .ref (b 0)), (3, .ref (b 1)), (4, .ref (b 2)), (5, .ref (b 3)), (6, .ref (b 4)), (7, .int (iZ 1)), (8, .int (iZ 21)), (9, .int (iZ 31)), (10, .int (iZ 0))] [] := by
    intro gj968 hgj968
    refine VB_iconst (q := 969) dL_law_968 rfl ?_
    refine VB_istore (q := 971) (lv' := [(0, _), (1, _), (2, _), (3, _), (4, _), (5, _), (6, _), (7, _), (8, _), (9, _), (10, _)]) dL_law_969 (by decide) rfl rfl ?_
    refine VB_iinc (q := 974) (y := 22) (lv' := [(0, _), (1, _), (2, _), (3, _), (4, _), (5, _), (6, _), (7, _), (8, _), (9, _), (10, _)]) dL_law_971 8 rfl (by omega) (by decide) rfl rfl ?_
    refine VB_goto (tgt := 64) dL_law_974 (by decide) ?_
    refine VB_iload (q := 66) dL_law_64 8 rfl rfl ?_
    refine VB_bipush (q := 68) dL_law_66 (by decide) rfl ?_
    refine VB_icmp_ge (q := 71) (tgt := 977) dL_law_68 (by decide) (by decide) (by decide) (fun hc => absurd hc (by decide)) (fun _ => ?_)
    refine VB_iload (q := 73) dL_law_71 7 rfl rfl ?_
    refine VB_if_eq (q := 76) (tgt := 977) dL_law_73 (by decide) (by decide) (fun _ => ?_) (fun hc => absurd hc (by decide))
    refine VB_iload (q := 979) dL_law_977 7 rfl rfl ?_
    exact VB_ret0 dL_law_979 rfl
  refine VB_uif_eq (q := 799) (tgt := 968) dL_law_796 (by decide) ?_ ?_
  · skip
    exact VB_widen (by omega) (by omega) (J968 g793 hg793)
  · skip
    refine VB_iload (q := 801) dL_law_799 8 rfl rfl ?_
    refine VB_iconst (q := 802) dL_law_801 rfl ?_
    refine VB_irem (q := 803) (a := 21) (b := 2) dL_law_802 (by omega) (by decide) (by decide) rfl ?_
    refine VB_top (y := iZ 1) rfl ?_
    refine VB_if_gt (q := 806) (tgt := 833) dL_law_803 (by decide) (by decide) (fun _ => ?_) (fun hc => absurd hc (by decide))
    refine VB_aload_n (q := 834) dL_law_833 1 rfl rfl ?_
    refine VB_aload_n (q := 835) dL_law_834 2 rfl rfl ?_
    refine VB_aload_n (q := 836) dL_law_835 3 rfl rfl ?_
    refine VB_aload (q := 838) dL_law_836 4 rfl rfl ?_
    refine VB_aload (q := 840) dL_law_838 6 rfl rfl ?_
    refine VB_callU (q := 843) dL_law_840 (u_isMissing (a := a) (c := c) (S := S) (b := b) (d := d) (F := F) hI hg793) yv_L_isMissing rfl gL_law_L_isMissing xU_L rfl (Nat.le_of_ble_eq_true rfl) (by decide) ⟨by show _ ≤ 20000; omega, by show _ ≤ 130000; omega⟩ (fun x840 g840 hP840 hg840 => ?_)
    refine VB_lo (lo' := 123) (Nat.le_add_right _ _) ?_
    refine VB_uif_eq (q := 846) (tgt := 968) dL_law_843 (by decide) ?_ ?_
    · skip
      exact VB_widen (by omega) (by omega) (J968 g840 hg840)
    · skip
      refine VB_aload_n (q := 847) dL_law_846 1 rfl rfl ?_
      refine VB_aload_n (q := 848) dL_law_847 2 rfl rfl ?_
      refine VB_aload (q := 850) dL_law_848 6 rfl rfl ?_
      refine VB_iload (q := 852) dL_law_850 10 rfl rfl ?_
      refine VB_aload (q := 854) dL_law_852 6 rfl rfl ?_
      refine VB_iconst (q := 855) dL_law_854 rfl ?_
      refine VB_iald (q := 856) (v := (iZ 4)) dL_law_855 13 12 rfl rfl (0) (by omega) (by omega) (by decide) (hM0) rfl ?_
      refine VB_iconst (q := 857) dL_law_856 rfl ?_
      refine VB_iadd (q := 858) dL_law_857 rfl ?_
      refine VB_top (y := iZ 5) rfl ?_
      refine VB_irem (q := 859) (a := 0) (b := 5) dL_law_858 (by omega) (by decide) (by decide) rfl ?_
      refine VB_top (y := iZ 0) rfl ?_
      refine VB_iload (q := 861) dL_law_859 10 rfl rfl ?_
      refine VB_bipush (q := 863) dL_law_861 (by decide) rfl ?_
      refine VB_idiv (q := 864) (a := 0) (b := 13) dL_law_863 (by omega) (by decide) (by decide) rfl ?_
      refine VB_top (y := iZ 0) rfl ?_
      refine VB_aload (q := 866) dL_law_864 6 rfl rfl ?_
      refine VB_iconst (q := 867) dL_law_866 rfl ?_
      refine VB_iald (q := 868) (v := (iZ 4)) dL_law_867 13 12 rfl rfl (0) (by omega) (by omega) (by decide) (hM0) rfl ?_
      refine VB_iconst (q := 869) dL_law_868 rfl ?_
      refine VB_iadd (q := 870) dL_law_869 rfl ?_
      refine VB_top (y := iZ 5) rfl ?_
      refine VB_irem (q := 871) (a := 0) (b := 5) dL_law_870 (by omega) (by decide) (by decide) rfl ?_
      refine VB_top (y := iZ 0) rfl ?_
      refine VB_iload (q := 873) dL_law_871 10 rfl rfl ?_
      refine VB_sipush (q := 876) dL_law_873 (by decide) rfl ?_
      refine VB_idiv (q := 877) (a := 0) (b := 169) dL_law_876 (by omega) (by decide) (by decide) rfl ?_
      refine VB_top (y := iZ 0) rfl ?_
      refine VB_aload (q := 879) dL_law_877 6 rfl rfl ?_
      refine VB_iconst (q := 880) dL_law_879 rfl ?_
      refine VB_iald (q := 881) (v := (iZ 4)) dL_law_880 13 12 rfl rfl (0) (by omega) (by omega) (by decide) (hM0) rfl ?_
      refine VB_iconst (q := 882) dL_law_881 rfl ?_
      refine VB_iadd (q := 883) dL_law_882 rfl ?_
      refine VB_top (y := iZ 6) rfl ?_
      refine VB_irem (q := 884) (a := 0) (b := 6) dL_law_883 (by omega) (by decide) (by decide) rfl ?_
      refine VB_top (y := iZ 0) rfl ?_
      refine VB_iconst (q := 885) dL_law_884 rfl ?_
      refine VB_isub (q := 886) dL_law_885 rfl ?_
      refine VB_top (y := iZ (-1)) rfl ?_
      refine VB_callU (q := 889) dL_law_886 (u_isWrong (a := a) (c := c) (S := S) (b := b) (d := d) (F := F) hI (wr0 hI (by decide) hK) hg840) yv_L_isWrong rfl gL_law_L_isWrong xU_L rfl (Nat.le_of_ble_eq_true rfl) (by decide) ⟨by show _ ≤ 20000; omega, by show _ ≤ 130000; omega⟩ (fun x886 g886 hP886 hg886 => ?_)
      refine VB_em (x := x886) (fun e886 => VB_lo (lo' := 123) (Nat.le_add_right _ _) (VB_top (y := iZ 0) e886 ?_)) (fun e886 => VB_lo (lo' := 125) (by show 125 ≤ 123 + (if x886 = 0 then 0 else 2); rw [if_neg e886]; omega) ?_)
      · skip
        refine VB_if_eq (q := 892) (tgt := 968) dL_law_889 (by decide) (by decide) (fun _ => ?_) (fun hc => absurd hc (by decide))
        exact VB_widen (by omega) (by omega) (J968 g886 hg886)
      · skip
        refine VB_uif_eq (q := 892) (tgt := 968) dL_law_889 (by decide) ?_ ?_
        · skip
          refine VB_lo (lo' := 123) (by omega) ?_
          exact VB_widen (by omega) (by omega) (J968 g886 hg886)
        · skip
          refine VB_iload (q := 894) dL_law_892 8 rfl rfl ?_
          refine VB_bipush (q := 896) dL_law_894 (by decide) rfl ?_
          refine VB_irem (q := 897) (a := 21) (b := 16) dL_law_896 (by omega) (by decide) (by decide) rfl ?_
          refine VB_top (y := iZ 5) rfl ?_
          refine VB_if_gt (q := 900) (tgt := 943) dL_law_897 (by decide) (by decide) (fun _ => ?_) (fun hc => absurd hc (by decide))
          refine VB_iload (q := 945) dL_law_943 8 rfl rfl ?_
          refine VB_bipush (q := 947) dL_law_945 (by decide) rfl ?_
          refine VB_irem (q := 948) (a := 21) (b := 20) dL_law_947 (by omega) (by decide) (by decide) rfl ?_
          refine VB_top (y := iZ 1) rfl ?_
          refine VB_if_gt (q := 951) (tgt := 964) dL_law_948 (by decide) (by decide) (fun _ => ?_) (fun hc => absurd hc (by decide))
          refine VB_iconst (q := 965) dL_law_964 rfl ?_
          refine VB_goto (tgt := 969) dL_law_965 (by decide) ?_
          refine VB_istore (q := 971) (lv' := [(0, _), (1, _), (2, _), (3, _), (4, _), (5, _), (6, _), (7, _), (8, _), (9, _), (10, _)]) dL_law_969 (by decide) rfl rfl ?_
          refine VB_iinc (q := 974) (y := 22) (lv' := [(0, _), (1, _), (2, _), (3, _), (4, _), (5, _), (6, _), (7, _), (8, _), (9, _), (10, _)]) dL_law_971 8 rfl (by omega) (by decide) rfl rfl ?_
          refine VB_goto (tgt := 64) dL_law_974 (by decide) ?_
          refine VB_loc (lv' := [(0, _), (1, _), (2, _), (3, _), (4, _), (5, _), (6, _), (7, _), (8, _)]) [0, 1, 2, 3, 4, 5, 6, 7, 8] rfl ?_
          refine VB_lo (lo' := 123) (by omega) ?_
          exact VB_widen (by omega) (by omega) (rd22 hL h16 hx S F g886 hI (fun _ => hK) hg886)
set_option maxRecDepth 100000 in
set_option maxHeartbeats 8000000 in
theorem rd21 {s0 L : Nat} {xs : Nat → Int32} {a : Nat → Nat} {c : Nat → ClassId} {b : Nat → Nat} {d : Nat → ClassId} (hL : L ≤ 260) (h16 : 80 ≤ L) (hx : ∀ j, j < 80 → xs j = 31) : ∀ (S : St) (F : Nat → Nat → Int32) (g : Nat → Nat), Iv S F 4 → (0 < 21 → sK S 0 = 0) → (∀ j, g j < 4096) → VB 123 RL cL_law 17 (some .boolean) wsL_law roomB (vXL s0 L xs) (tyl c d) (qF 123) (2926) (17556 + 1250) (wal a c S b d F g) 64 [(0, .ref (s0)), (1, .ref (a 0)), (2, .ref (b 0)), (3, .ref (b 1)), (4, .ref (b 2)), (5, .ref (b 3)), (6, .ref (b 4)), (7, .int (iZ 1)), (8, .int (iZ 21))] [] := by
  intro S F g hI hK hg
  obtain ⟨ho, hn, hm4, hM0, hG, hC⟩ := id hI
  refine VB_iload (q := 66) dL_law_64 8 rfl rfl ?_
  refine VB_bipush (q := 68) dL_law_66 (by decide) rfl ?_
  refine VB_icmp_ge (q := 71) (tgt := 977) dL_law_68 (by decide) (by decide) (by decide) (fun hc => absurd hc (by decide)) (fun _ => ?_)
  refine VB_iload (q := 73) dL_law_71 7 rfl rfl ?_
  refine VB_if_eq (q := 76) (tgt := 977) dL_law_73 (by decide) (by decide) (fun hc => absurd hc (by decide)) (fun _ => ?_)
  refine VB_aload_n (q := 77) dL_law_76 0 rfl rfl ?_
  refine VB_iload (q := 79) dL_law_77 8 rfl rfl ?_
  refine VB_callD (q := 82) dL_law_79 (u_dice (b := s0) (L := L) (xs := xs) 21 (by omega) hL (hx 21 (by omega))) yv_L_dice rfl gL_law_L_dice xL_s rfl (Nat.le_of_ble_eq_true rfl) (by decide) ⟨by show _ ≤ 20000; omega, by show _ ≤ 130000; omega⟩ ?_
  refine VB_istore (q := 84) (lv' := [(0, _), (1, _), (2, _), (3, _), (4, _), (5, _), (6, _), (7, _), (8, _), (9, _)]) dL_law_82 (by decide) rfl rfl ?_
  refine VB_iload (q := 86) dL_law_84 9 rfl rfl ?_
  refine VB_bipush (q := 88) dL_law_86 (by decide) rfl ?_
  refine VB_idiv (q := 89) (a := 31) (b := 32) dL_law_88 (by omega) (by decide) (by decide) rfl ?_
  refine VB_top (y := iZ 0) rfl ?_
  refine VB_istore (q := 91) (lv' := [(0, _), (1, _), (2, _), (3, _), (4, _), (5, _), (6, _), (7, _), (8, _), (9, _), (10, _)]) dL_law_89 (by decide) rfl rfl ?_
  refine VB_iload (q := 93) dL_law_91 9 rfl rfl ?_
  refine VB_bipush (q := 95) dL_law_93 (by decide) rfl ?_
  refine VB_irem (q := 96) (a := 31) (b := 32) dL_law_95 (by omega) (by decide) (by decide) rfl ?_
  refine VB_top (y := iZ 31) rfl ?_
  refine VB_istore (q := 98) (lv' := [(0, _), (1, _), (2, _), (3, _), (4, _), (5, _), (6, _), (7, _), (8, _), (9, _), (10, _), (11, _)]) dL_law_96 (by decide) rfl rfl ?_
  refine VB_aload (q := 100) dL_law_98 6 rfl rfl ?_
  refine VB_iconst (q := 101) dL_law_100 rfl ?_
  refine VB_iald (q := 102) (v := (iZ 4)) dL_law_101 13 12 rfl rfl (0) (by omega) (by omega) (by decide) (hM0) rfl ?_
  refine VB_if_ne (q := 105) (tgt := 109) dL_law_102 (by decide) (by decide) (fun _ => ?_) (fun hc => absurd hc (by decide))
  refine VB_iload (q := 111) dL_law_109 10 rfl rfl ?_
  refine VB_aload (q := 113) dL_law_111 6 rfl rfl ?_
  refine VB_iconst (q := 114) dL_law_113 rfl ?_
  refine VB_iald (q := 115) (v := (iZ 4)) dL_law_114 13 12 rfl rfl (0) (by omega) (by omega) (by decide) (hM0) rfl ?_
  refine VB_irem (q := 116) (a := 0) (b := 4) dL_law_115 (by omega) (by decide) (by decide) rfl ?_
  refine VB_top (y := iZ 0) rfl ?_
  refine VB_istore (q := 118) (lv' := [(0, _), (1, _), (2, _), (3, _), (4, _), (5, _), (6, _), (7, _), (8, _), (9, _), (10, _), (11, _), (12, _)]) dL_law_116 (by decide) rfl rfl ?_
  refine VB_aload (q := 120) dL_law_118 6 rfl rfl ?_
  refine VB_iconst (q := 121) dL_law_120 rfl ?_
  refine VB_iald (q := 122) (v := (iZ 4)) dL_law_121 13 12 rfl rfl (0) (by omega) (by omega) (by decide) (hM0) rfl ?_
  refine VB_iconst (q := 123) dL_law_122 rfl ?_
  refine VB_icmp_lt (q := 126) (tgt := 141) dL_law_123 (by decide) (by decide) (by decide) (fun hc => absurd hc (by decide)) (fun _ => ?_)
  refine VB_iload (q := 128) dL_law_126 11 rfl rfl ?_
  refine VB_iconst (q := 129) dL_law_128 rfl ?_
  refine VB_icmp_ge (q := 132) (tgt := 326) dL_law_129 (by decide) (by decide) (by decide) (fun _ => ?_) (fun hc => absurd hc (by decide))
  refine VB_iload (q := 328) dL_law_326 11 rfl rfl ?_
  refine VB_bipush (q := 330) dL_law_328 (by decide) rfl ?_
  refine VB_icmp_ge (q := 333) (tgt := 451) dL_law_330 (by decide) (by decide) (by decide) (fun _ => ?_) (fun hc => absurd hc (by decide))
  refine VB_iload (q := 453) dL_law_451 11 rfl rfl ?_
  refine VB_bipush (q := 455) dL_law_453 (by decide) rfl ?_
  refine VB_icmp_ge (q := 458) (tgt := 603) dL_law_455 (by decide) (by decide) (by decide) (fun _ => ?_) (fun hc => absurd hc (by decide))
  refine VB_iload (q := 605) dL_law_603 11 rfl rfl ?_
  refine VB_bipush (q := 607) dL_law_605 (by decide) rfl ?_
  refine VB_icmp_ge (q := 610) (tgt := 633) dL_law_607 (by decide) (by decide) (by decide) (fun _ => ?_) (fun hc => absurd hc (by decide))
  refine VB_iload (q := 635) dL_law_633 11 rfl rfl ?_
  refine VB_bipush (q := 637) dL_law_635 (by decide) rfl ?_
  refine VB_icmp_ge (q := 640) (tgt := 677) dL_law_637 (by decide) (by decide) (by decide) (fun _ => ?_) (fun hc => absurd hc (by decide))
  refine VB_iload (q := 679) dL_law_677 11 rfl rfl ?_
  refine VB_bipush (q := 681) dL_law_679 (by decide) rfl ?_
  refine VB_icmp_ne (q := 684) (tgt := 783) dL_law_681 (by decide) (by decide) (by decide) (fun _ => ?_) (fun hc => absurd hc (by decide))
  refine VB_loc (lv' := [(0, _), (1, _), (2, _), (3, _), (4, _), (5, _), (6, _), (7, _), (8, _), (9, _), (10, _)]) [0, 1, 2, 3, 4, 5, 6, 7, 8, 9, 10] rfl ?_
  exact VB_widen (by omega) (by omega) (ck21 hL h16 hx S F g hI (hK (by decide)) hg)
set_option maxRecDepth 100000 in
set_option maxHeartbeats 8000000 in
theorem ck20 {s0 L : Nat} {xs : Nat → Int32} {a : Nat → Nat} {c : Nat → ClassId} {b : Nat → Nat} {d : Nat → ClassId} (hL : L ≤ 260) (h16 : 80 ≤ L) (hx : ∀ j, j < 80 → xs j = 31) : ∀ (S : St) (F : Nat → Nat → Int32) (g : Nat → Nat), Iv S F 4 → sK S 0 = 0 → (∀ j, g j < 4096) → VB 123 RL cL_law 17 (some .boolean) wsL_law roomB (vXL s0 L xs) (tyl c d) (qF 123) (2642) (15852 + 1250) (wal a c S b d F g) 783 [(0, .ref (s0)), (1, .ref (a 0)), (2, .ref (b 0)), (3, .ref (b 1)), (4, .ref (b 2)), (5, .ref (b 3)), (6, .ref (b 4)), (7, .int (iZ 1)), (8, .int (iZ 20)), (9, .int (iZ 31)), (10, .int (iZ 0))] [] := by
  intro S F g hI hK hg
  obtain ⟨ho, hn, hm4, hM0, hG, hC⟩ := id hI
  refine VB_iload (q := 785) dL_law_783 7 rfl rfl ?_
  refine VB_if_eq (q := 788) (tgt := 968) dL_law_785 (by decide) (by decide) (fun hc => absurd hc (by decide)) (fun _ => ?_)
  refine VB_aload_n (q := 789) dL_law_788 1 rfl rfl ?_
  refine VB_aload_n (q := 790) dL_law_789 2 rfl rfl ?_
  refine VB_aload_n (q := 791) dL_law_790 3 rfl rfl ?_
  refine VB_aload (q := 793) dL_law_791 6 rfl rfl ?_
  refine VB_callU (q := 796) dL_law_793 (u_areThings (a := a) (c := c) (S := S) (b := b) (d := d) (F := F) hI hg) yv_L_areThings rfl gL_law_L_areThings xU_L rfl (Nat.le_of_ble_eq_true rfl) (by decide) ⟨by show _ ≤ 20000; omega, by show _ ≤ 130000; omega⟩ (fun x793 g793 hP793 hg793 => ?_)
  refine VB_lo (lo' := 123) (Nat.le_add_right _ _) ?_
  have J968 : ∀ (gj968 : Nat → Nat), (∀ j, gj968 j < 4096) → VB 123 RL cL_law 17 (some .boolean) wsL_law roomB (vXL s0 L xs) (tyl c d) (qF 123) (2926) (17556 + 1250) (wal a c S b d F gj968) 968 [(0, .ref (s0)), (1, .ref (a 0)), (2, .ref (b 0)), (3, .ref (b 1)), (4, .ref (b 2)), (5, .ref (b 3)), (6, .ref (b 4)), (7, .int (iZ 1)), (8, .int (iZ 20)), (9, .int (iZ 31)), (10, .int (iZ 0))] [] := by
    intro gj968 hgj968
    refine VB_iconst (q := 969) dL_law_968 rfl ?_
    refine VB_istore (q := 971) (lv' := [(0, _), (1, _), (2, _), (3, _), (4, _), (5, _), (6, _), (7, _), (8, _), (9, _), (10, _)]) dL_law_969 (by decide) rfl rfl ?_
    refine VB_iinc (q := 974) (y := 21) (lv' := [(0, _), (1, _), (2, _), (3, _), (4, _), (5, _), (6, _), (7, _), (8, _), (9, _), (10, _)]) dL_law_971 8 rfl (by omega) (by decide) rfl rfl ?_
    refine VB_goto (tgt := 64) dL_law_974 (by decide) ?_
    refine VB_iload (q := 66) dL_law_64 8 rfl rfl ?_
    refine VB_bipush (q := 68) dL_law_66 (by decide) rfl ?_
    refine VB_icmp_ge (q := 71) (tgt := 977) dL_law_68 (by decide) (by decide) (by decide) (fun hc => absurd hc (by decide)) (fun _ => ?_)
    refine VB_iload (q := 73) dL_law_71 7 rfl rfl ?_
    refine VB_if_eq (q := 76) (tgt := 977) dL_law_73 (by decide) (by decide) (fun _ => ?_) (fun hc => absurd hc (by decide))
    refine VB_iload (q := 979) dL_law_977 7 rfl rfl ?_
    exact VB_ret0 dL_law_979 rfl
  refine VB_uif_eq (q := 799) (tgt := 968) dL_law_796 (by decide) ?_ ?_
  · skip
    exact VB_widen (by omega) (by omega) (J968 g793 hg793)
  · skip
    refine VB_iload (q := 801) dL_law_799 8 rfl rfl ?_
    refine VB_iconst (q := 802) dL_law_801 rfl ?_
    refine VB_irem (q := 803) (a := 20) (b := 2) dL_law_802 (by omega) (by decide) (by decide) rfl ?_
    refine VB_top (y := iZ 0) rfl ?_
    refine VB_if_gt (q := 806) (tgt := 833) dL_law_803 (by decide) (by decide) (fun hc => absurd hc (by decide)) (fun _ => ?_)
    refine VB_aload_n (q := 807) dL_law_806 1 rfl rfl ?_
    refine VB_aload_n (q := 808) dL_law_807 2 rfl rfl ?_
    refine VB_aload_n (q := 809) dL_law_808 3 rfl rfl ?_
    refine VB_aload (q := 811) dL_law_809 4 rfl rfl ?_
    refine VB_aload (q := 813) dL_law_811 6 rfl rfl ?_
    refine VB_iload (q := 815) dL_law_813 10 rfl rfl ?_
    refine VB_bipush (q := 817) dL_law_815 (by decide) rfl ?_
    refine VB_irem (q := 818) (a := 0) (b := 31) dL_law_817 (by omega) (by decide) (by decide) rfl ?_
    refine VB_top (y := iZ 0) rfl ?_
    refine VB_iload (q := 820) dL_law_818 10 rfl rfl ?_
    refine VB_bipush (q := 822) dL_law_820 (by decide) rfl ?_
    refine VB_idiv (q := 823) (a := 0) (b := 31) dL_law_822 (by omega) (by decide) (by decide) rfl ?_
    refine VB_top (y := iZ 0) rfl ?_
    refine VB_sipush (q := 826) dL_law_823 (by decide) rfl ?_
    refine VB_irem (q := 827) (a := 0) (b := 256) dL_law_826 (by omega) (by decide) (by decide) rfl ?_
    refine VB_top (y := iZ 0) rfl ?_
    refine VB_callU (q := 830) dL_law_827 (u_areOutfits (a := a) (c := c) (S := S) (b := b) (d := d) (F := F) hI hg793) yv_L_areOutfits rfl gL_law_L_areOutfits xU_L rfl (Nat.le_of_ble_eq_true rfl) (by decide) ⟨by show _ ≤ 20000; omega, by show _ ≤ 130000; omega⟩ (fun x827 g827 hP827 hg827 => ?_)
    refine VB_lo (lo' := 123) (Nat.le_add_right _ _) ?_
    refine VB_uif_eq (q := 833) (tgt := 968) dL_law_830 (by decide) ?_ ?_
    · skip
      exact VB_widen (by omega) (by omega) (J968 g827 hg827)
    · skip
      refine VB_aload_n (q := 834) dL_law_833 1 rfl rfl ?_
      refine VB_aload_n (q := 835) dL_law_834 2 rfl rfl ?_
      refine VB_aload_n (q := 836) dL_law_835 3 rfl rfl ?_
      refine VB_aload (q := 838) dL_law_836 4 rfl rfl ?_
      refine VB_aload (q := 840) dL_law_838 6 rfl rfl ?_
      refine VB_callU (q := 843) dL_law_840 (u_isMissing (a := a) (c := c) (S := S) (b := b) (d := d) (F := F) hI hg827) yv_L_isMissing rfl gL_law_L_isMissing xU_L rfl (Nat.le_of_ble_eq_true rfl) (by decide) ⟨by show _ ≤ 20000; omega, by show _ ≤ 130000; omega⟩ (fun x840 g840 hP840 hg840 => ?_)
      refine VB_lo (lo' := 123) (Nat.le_add_right _ _) ?_
      refine VB_uif_eq (q := 846) (tgt := 968) dL_law_843 (by decide) ?_ ?_
      · skip
        exact VB_widen (by omega) (by omega) (J968 g840 hg840)
      · skip
        refine VB_aload_n (q := 847) dL_law_846 1 rfl rfl ?_
        refine VB_aload_n (q := 848) dL_law_847 2 rfl rfl ?_
        refine VB_aload (q := 850) dL_law_848 6 rfl rfl ?_
        refine VB_iload (q := 852) dL_law_850 10 rfl rfl ?_
        refine VB_aload (q := 854) dL_law_852 6 rfl rfl ?_
        refine VB_iconst (q := 855) dL_law_854 rfl ?_
        refine VB_iald (q := 856) (v := (iZ 4)) dL_law_855 13 12 rfl rfl (0) (by omega) (by omega) (by decide) (hM0) rfl ?_
        refine VB_iconst (q := 857) dL_law_856 rfl ?_
        refine VB_iadd (q := 858) dL_law_857 rfl ?_
        refine VB_top (y := iZ 5) rfl ?_
        refine VB_irem (q := 859) (a := 0) (b := 5) dL_law_858 (by omega) (by decide) (by decide) rfl ?_
        refine VB_top (y := iZ 0) rfl ?_
        refine VB_iload (q := 861) dL_law_859 10 rfl rfl ?_
        refine VB_bipush (q := 863) dL_law_861 (by decide) rfl ?_
        refine VB_idiv (q := 864) (a := 0) (b := 13) dL_law_863 (by omega) (by decide) (by decide) rfl ?_
        refine VB_top (y := iZ 0) rfl ?_
        refine VB_aload (q := 866) dL_law_864 6 rfl rfl ?_
        refine VB_iconst (q := 867) dL_law_866 rfl ?_
        refine VB_iald (q := 868) (v := (iZ 4)) dL_law_867 13 12 rfl rfl (0) (by omega) (by omega) (by decide) (hM0) rfl ?_
        refine VB_iconst (q := 869) dL_law_868 rfl ?_
        refine VB_iadd (q := 870) dL_law_869 rfl ?_
        refine VB_top (y := iZ 5) rfl ?_
        refine VB_irem (q := 871) (a := 0) (b := 5) dL_law_870 (by omega) (by decide) (by decide) rfl ?_
        refine VB_top (y := iZ 0) rfl ?_
        refine VB_iload (q := 873) dL_law_871 10 rfl rfl ?_
        refine VB_sipush (q := 876) dL_law_873 (by decide) rfl ?_
        refine VB_idiv (q := 877) (a := 0) (b := 169) dL_law_876 (by omega) (by decide) (by decide) rfl ?_
        refine VB_top (y := iZ 0) rfl ?_
        refine VB_aload (q := 879) dL_law_877 6 rfl rfl ?_
        refine VB_iconst (q := 880) dL_law_879 rfl ?_
        refine VB_iald (q := 881) (v := (iZ 4)) dL_law_880 13 12 rfl rfl (0) (by omega) (by omega) (by decide) (hM0) rfl ?_
        refine VB_iconst (q := 882) dL_law_881 rfl ?_
        refine VB_iadd (q := 883) dL_law_882 rfl ?_
        refine VB_top (y := iZ 6) rfl ?_
        refine VB_irem (q := 884) (a := 0) (b := 6) dL_law_883 (by omega) (by decide) (by decide) rfl ?_
        refine VB_top (y := iZ 0) rfl ?_
        refine VB_iconst (q := 885) dL_law_884 rfl ?_
        refine VB_isub (q := 886) dL_law_885 rfl ?_
        refine VB_top (y := iZ (-1)) rfl ?_
        refine VB_callU (q := 889) dL_law_886 (u_isWrong (a := a) (c := c) (S := S) (b := b) (d := d) (F := F) hI (wr0 hI (by decide) hK) hg840) yv_L_isWrong rfl gL_law_L_isWrong xU_L rfl (Nat.le_of_ble_eq_true rfl) (by decide) ⟨by show _ ≤ 20000; omega, by show _ ≤ 130000; omega⟩ (fun x886 g886 hP886 hg886 => ?_)
        refine VB_em (x := x886) (fun e886 => VB_lo (lo' := 123) (Nat.le_add_right _ _) (VB_top (y := iZ 0) e886 ?_)) (fun e886 => VB_lo (lo' := 125) (by show 125 ≤ 123 + (if x886 = 0 then 0 else 2); rw [if_neg e886]; omega) ?_)
        · skip
          refine VB_if_eq (q := 892) (tgt := 968) dL_law_889 (by decide) (by decide) (fun _ => ?_) (fun hc => absurd hc (by decide))
          exact VB_widen (by omega) (by omega) (J968 g886 hg886)
        · skip
          refine VB_uif_eq (q := 892) (tgt := 968) dL_law_889 (by decide) ?_ ?_
          · skip
            refine VB_lo (lo' := 123) (by omega) ?_
            exact VB_widen (by omega) (by omega) (J968 g886 hg886)
          · skip
            refine VB_iload (q := 894) dL_law_892 8 rfl rfl ?_
            refine VB_bipush (q := 896) dL_law_894 (by decide) rfl ?_
            refine VB_irem (q := 897) (a := 20) (b := 16) dL_law_896 (by omega) (by decide) (by decide) rfl ?_
            refine VB_top (y := iZ 4) rfl ?_
            refine VB_if_gt (q := 900) (tgt := 943) dL_law_897 (by decide) (by decide) (fun _ => ?_) (fun hc => absurd hc (by decide))
            refine VB_iload (q := 945) dL_law_943 8 rfl rfl ?_
            refine VB_bipush (q := 947) dL_law_945 (by decide) rfl ?_
            refine VB_irem (q := 948) (a := 20) (b := 20) dL_law_947 (by omega) (by decide) (by decide) rfl ?_
            refine VB_top (y := iZ 0) rfl ?_
            refine VB_if_gt (q := 951) (tgt := 964) dL_law_948 (by decide) (by decide) (fun hc => absurd hc (by decide)) (fun _ => ?_)
            refine VB_aload_n (q := 952) dL_law_951 1 rfl rfl ?_
            refine VB_aload (q := 954) dL_law_952 6 rfl rfl ?_
            refine VB_iload (q := 956) dL_law_954 9 rfl rfl ?_
            refine VB_iconst (q := 957) dL_law_956 rfl ?_
            refine VB_idiv (q := 958) (a := 31) (b := 3) dL_law_957 (by omega) (by decide) (by decide) rfl ?_
            refine VB_top (y := iZ 10) rfl ?_
            refine VB_callU (q := 961) dL_law_958 (u_isRefused10b (a := a) (c := c) (S := S) (b := b) (d := d) (F := F) hI hg886) yv_L_isRefused rfl gL_law_L_isRefused xU_L rfl (Nat.le_of_ble_eq_true rfl) (by decide) ⟨by show _ ≤ 20000; omega, by show _ ≤ 130000; omega⟩ (fun x958 g958 hP958 hg958 => ?_)
            refine VB_em (x := x958) (fun e958 => VB_lo (lo' := 125) (Nat.le_add_right _ _) (VB_top (y := iZ 0) e958 ?_)) (fun e958 => VB_lo (lo' := 151) (by show 151 ≤ 125 + (if x958 = 0 then 0 else 26); rw [if_neg e958]; omega) ?_)
            · skip
              refine VB_if_eq (q := 964) (tgt := 968) dL_law_961 (by decide) (by decide) (fun _ => ?_) (fun hc => absurd hc (by decide))
              refine VB_lo (lo' := 123) (by omega) ?_
              exact VB_widen (by omega) (by omega) (J968 g958 hg958)
            · skip
              refine VB_uif_eq (q := 964) (tgt := 968) dL_law_961 (by decide) ?_ ?_
              · skip
                refine VB_lo (lo' := 123) (by omega) ?_
                exact VB_widen (by omega) (by omega) (J968 g958 hg958)
              · skip
                refine VB_iconst (q := 965) dL_law_964 rfl ?_
                refine VB_goto (tgt := 969) dL_law_965 (by decide) ?_
                refine VB_istore (q := 971) (lv' := [(0, _), (1, _), (2, _), (3, _), (4, _), (5, _), (6, _), (7, _), (8, _), (9, _), (10, _)]) dL_law_969 (by decide) rfl rfl ?_
                refine VB_iinc (q := 974) (y := 21) (lv' := [(0, _), (1, _), (2, _), (3, _), (4, _), (5, _), (6, _), (7, _), (8, _), (9, _), (10, _)]) dL_law_971 8 rfl (by omega) (by decide) rfl rfl ?_
                refine VB_goto (tgt := 64) dL_law_974 (by decide) ?_
                refine VB_loc (lv' := [(0, _), (1, _), (2, _), (3, _), (4, _), (5, _), (6, _), (7, _), (8, _)]) [0, 1, 2, 3, 4, 5, 6, 7, 8] rfl ?_
                refine VB_lo (lo' := 123) (by omega) ?_
                exact VB_widen (by omega) (by omega) (rd21 hL h16 hx S F g958 hI (fun _ => hK) hg958)
set_option maxRecDepth 100000 in
set_option maxHeartbeats 8000000 in
theorem rd20 {s0 L : Nat} {xs : Nat → Int32} {a : Nat → Nat} {c : Nat → ClassId} {b : Nat → Nat} {d : Nat → ClassId} (hL : L ≤ 260) (h16 : 80 ≤ L) (hx : ∀ j, j < 80 → xs j = 31) : ∀ (S : St) (F : Nat → Nat → Int32) (g : Nat → Nat), Iv S F 4 → (0 < 20 → sK S 0 = 0) → (∀ j, g j < 4096) → VB 123 RL cL_law 17 (some .boolean) wsL_law roomB (vXL s0 L xs) (tyl c d) (qF 123) (2642) (15852 + 1250) (wal a c S b d F g) 64 [(0, .ref (s0)), (1, .ref (a 0)), (2, .ref (b 0)), (3, .ref (b 1)), (4, .ref (b 2)), (5, .ref (b 3)), (6, .ref (b 4)), (7, .int (iZ 1)), (8, .int (iZ 20))] [] := by
  intro S F g hI hK hg
  obtain ⟨ho, hn, hm4, hM0, hG, hC⟩ := id hI
  refine VB_iload (q := 66) dL_law_64 8 rfl rfl ?_
  refine VB_bipush (q := 68) dL_law_66 (by decide) rfl ?_
  refine VB_icmp_ge (q := 71) (tgt := 977) dL_law_68 (by decide) (by decide) (by decide) (fun hc => absurd hc (by decide)) (fun _ => ?_)
  refine VB_iload (q := 73) dL_law_71 7 rfl rfl ?_
  refine VB_if_eq (q := 76) (tgt := 977) dL_law_73 (by decide) (by decide) (fun hc => absurd hc (by decide)) (fun _ => ?_)
  refine VB_aload_n (q := 77) dL_law_76 0 rfl rfl ?_
  refine VB_iload (q := 79) dL_law_77 8 rfl rfl ?_
  refine VB_callD (q := 82) dL_law_79 (u_dice (b := s0) (L := L) (xs := xs) 20 (by omega) hL (hx 20 (by omega))) yv_L_dice rfl gL_law_L_dice xL_s rfl (Nat.le_of_ble_eq_true rfl) (by decide) ⟨by show _ ≤ 20000; omega, by show _ ≤ 130000; omega⟩ ?_
  refine VB_istore (q := 84) (lv' := [(0, _), (1, _), (2, _), (3, _), (4, _), (5, _), (6, _), (7, _), (8, _), (9, _)]) dL_law_82 (by decide) rfl rfl ?_
  refine VB_iload (q := 86) dL_law_84 9 rfl rfl ?_
  refine VB_bipush (q := 88) dL_law_86 (by decide) rfl ?_
  refine VB_idiv (q := 89) (a := 31) (b := 32) dL_law_88 (by omega) (by decide) (by decide) rfl ?_
  refine VB_top (y := iZ 0) rfl ?_
  refine VB_istore (q := 91) (lv' := [(0, _), (1, _), (2, _), (3, _), (4, _), (5, _), (6, _), (7, _), (8, _), (9, _), (10, _)]) dL_law_89 (by decide) rfl rfl ?_
  refine VB_iload (q := 93) dL_law_91 9 rfl rfl ?_
  refine VB_bipush (q := 95) dL_law_93 (by decide) rfl ?_
  refine VB_irem (q := 96) (a := 31) (b := 32) dL_law_95 (by omega) (by decide) (by decide) rfl ?_
  refine VB_top (y := iZ 31) rfl ?_
  refine VB_istore (q := 98) (lv' := [(0, _), (1, _), (2, _), (3, _), (4, _), (5, _), (6, _), (7, _), (8, _), (9, _), (10, _), (11, _)]) dL_law_96 (by decide) rfl rfl ?_
  refine VB_aload (q := 100) dL_law_98 6 rfl rfl ?_
  refine VB_iconst (q := 101) dL_law_100 rfl ?_
  refine VB_iald (q := 102) (v := (iZ 4)) dL_law_101 13 12 rfl rfl (0) (by omega) (by omega) (by decide) (hM0) rfl ?_
  refine VB_if_ne (q := 105) (tgt := 109) dL_law_102 (by decide) (by decide) (fun _ => ?_) (fun hc => absurd hc (by decide))
  refine VB_iload (q := 111) dL_law_109 10 rfl rfl ?_
  refine VB_aload (q := 113) dL_law_111 6 rfl rfl ?_
  refine VB_iconst (q := 114) dL_law_113 rfl ?_
  refine VB_iald (q := 115) (v := (iZ 4)) dL_law_114 13 12 rfl rfl (0) (by omega) (by omega) (by decide) (hM0) rfl ?_
  refine VB_irem (q := 116) (a := 0) (b := 4) dL_law_115 (by omega) (by decide) (by decide) rfl ?_
  refine VB_top (y := iZ 0) rfl ?_
  refine VB_istore (q := 118) (lv' := [(0, _), (1, _), (2, _), (3, _), (4, _), (5, _), (6, _), (7, _), (8, _), (9, _), (10, _), (11, _), (12, _)]) dL_law_116 (by decide) rfl rfl ?_
  refine VB_aload (q := 120) dL_law_118 6 rfl rfl ?_
  refine VB_iconst (q := 121) dL_law_120 rfl ?_
  refine VB_iald (q := 122) (v := (iZ 4)) dL_law_121 13 12 rfl rfl (0) (by omega) (by omega) (by decide) (hM0) rfl ?_
  refine VB_iconst (q := 123) dL_law_122 rfl ?_
  refine VB_icmp_lt (q := 126) (tgt := 141) dL_law_123 (by decide) (by decide) (by decide) (fun hc => absurd hc (by decide)) (fun _ => ?_)
  refine VB_iload (q := 128) dL_law_126 11 rfl rfl ?_
  refine VB_iconst (q := 129) dL_law_128 rfl ?_
  refine VB_icmp_ge (q := 132) (tgt := 326) dL_law_129 (by decide) (by decide) (by decide) (fun _ => ?_) (fun hc => absurd hc (by decide))
  refine VB_iload (q := 328) dL_law_326 11 rfl rfl ?_
  refine VB_bipush (q := 330) dL_law_328 (by decide) rfl ?_
  refine VB_icmp_ge (q := 333) (tgt := 451) dL_law_330 (by decide) (by decide) (by decide) (fun _ => ?_) (fun hc => absurd hc (by decide))
  refine VB_iload (q := 453) dL_law_451 11 rfl rfl ?_
  refine VB_bipush (q := 455) dL_law_453 (by decide) rfl ?_
  refine VB_icmp_ge (q := 458) (tgt := 603) dL_law_455 (by decide) (by decide) (by decide) (fun _ => ?_) (fun hc => absurd hc (by decide))
  refine VB_iload (q := 605) dL_law_603 11 rfl rfl ?_
  refine VB_bipush (q := 607) dL_law_605 (by decide) rfl ?_
  refine VB_icmp_ge (q := 610) (tgt := 633) dL_law_607 (by decide) (by decide) (by decide) (fun _ => ?_) (fun hc => absurd hc (by decide))
  refine VB_iload (q := 635) dL_law_633 11 rfl rfl ?_
  refine VB_bipush (q := 637) dL_law_635 (by decide) rfl ?_
  refine VB_icmp_ge (q := 640) (tgt := 677) dL_law_637 (by decide) (by decide) (by decide) (fun _ => ?_) (fun hc => absurd hc (by decide))
  refine VB_iload (q := 679) dL_law_677 11 rfl rfl ?_
  refine VB_bipush (q := 681) dL_law_679 (by decide) rfl ?_
  refine VB_icmp_ne (q := 684) (tgt := 783) dL_law_681 (by decide) (by decide) (by decide) (fun _ => ?_) (fun hc => absurd hc (by decide))
  refine VB_loc (lv' := [(0, _), (1, _), (2, _), (3, _), (4, _), (5, _), (6, _), (7, _), (8, _), (9, _), (10, _)]) [0, 1, 2, 3, 4, 5, 6, 7, 8, 9, 10] rfl ?_
  exact VB_widen (by omega) (by omega) (ck20 hL h16 hx S F g hI (hK (by decide)) hg)
