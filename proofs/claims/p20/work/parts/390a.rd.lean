/-! the law's rounds on a script of 31s: four things are added, then nothing is done; each round makes two exceptions and more -/
theorem wr0 {S : St} {F : Nat → Nat → Int32} {m0 : Nat} (h : Iv S F m0) (h0 : 0 < m0) (hK : sK S 0 = 0) : wrZ S 0 0 (-1) = 2 := by
  have h1 : hasZ S 0 = true := iv_has h (k := 0) h0
  have h2 : kdZ S 0 0 = true := by
    unfold kdZ
    rw [h1, show (0 : Int).toNat = 0 from rfl, hK]
    rfl
  have h3 : kdZ S 0 1 = false := by
    unfold kdZ
    rw [h1, show (0 : Int).toNat = 0 from rfl, hK]
    rfl
  unfold wrZ
  rw [h1, h2, h3]
  rfl
theorem iv_add {S : St} {F F' : Nat → Nat → Int32} {n : Nat} (hI : Iv S F n) (h4 : n < 4) {k c w m r : Int} (hc : cAdd S k c w m r = 0) (hF4 : F' 4 0 = iZ ((n + 1 : Nat) : Int)) (hF0 : ∀ k, k < n → F' 0 (5 * k + 1) = F 0 (5 * k + 1)) (hFn : F' 0 (5 * n + 1) = iZ 0) : Iv (uA S k.toNat c.toNat w.toNat m.toNat r.toNat) F' (n + 1) := by
  obtain ⟨ho, hn, hm4, hM0, hG, hC⟩ := id hI
  refine ⟨ok_add ho hc, by show sN S + 1 = n + 1; rw [hn], by omega, hF4, fun k hk => ?_, fun k hk => ?_⟩
  · show sG S k = false
    rcases Nat.lt_or_ge k n with h | h
    · exact hG k h
    · exact ho.2.2.2.2.2.2.2.2.2.2 k (by rw [hn]; exact h)
  · rcases Nat.lt_or_ge k n with h | h
    · rw [hF0 k h]
      exact hC k h
    · rw [show k = n by omega]
      exact ⟨0, by decide, hFn⟩
set_option maxRecDepth 100000 in
set_option maxHeartbeats 8000000 in
theorem ck79 {s0 L : Nat} {xs : Nat → Int32} {a : Nat → Nat} {c : Nat → ClassId} {b : Nat → Nat} {d : Nat → ClassId} (hL : L ≤ 260) (h16 : 80 ≤ L) (hx : ∀ j, j < 80 → xs j = 31) : ∀ (S : St) (F : Nat → Nat → Int32) (g : Nat → Nat), Iv S F 4 → sK S 0 = 0 → (∀ j, g j < 4096) → VB 123 RL cL_law 17 (some .boolean) wsL_law roomB (vXL s0 L xs) (tyl c d) (qF 123) (10062) (60372 + 1250) (wal a c S b d F g) 783 [(0, .ref (s0)), (1, .ref (a 0)), (2, .ref (b 0)), (3, .ref (b 1)), (4, .ref (b 2)), (5, .ref (b 3)), (6, .ref (b 4)), (7, .int (iZ 1)), (8, .int (iZ 79)), (9, .int (iZ 31)), (10, .int (iZ 0))] [] := by
  intro S F g hI hK hg
  obtain ⟨ho, hn, hm4, hM0, hG, hC⟩ := id hI
  refine VB_iload (q := 785) dL_law_783 7 rfl rfl ?_
  refine VB_if_eq (q := 788) (tgt := 968) dL_law_785 (by decide) (by decide) (fun hc => absurd hc (by decide)) (fun _ => ?_)
  refine VB_aload_n (q := 789) dL_law_788 1 rfl rfl ?_
  refine VB_aload_n (q := 790) dL_law_789 2 rfl rfl ?_
  refine VB_aload_n (q := 791) dL_law_790 3 rfl rfl ?_
  refine VB_aload (q := 793) dL_law_791 6 rfl rfl ?_
  refine VB_callU (q := 796) dL_law_793 (u_areThings (a := a) (c := c) (S := S) (b := b) (d := d) (F := F) hI hg) yv_L_areThings rfl gL_law_L_areThings xU_L rfl (Nat.le_of_ble_eq_true rfl) (by decide) ⟨by show _ ≤ 20000; omega, by show _ ≤ 130000; omega⟩ (fun x793 g793 hP793 hg793 => ?_)
  refine VB_lo (lo' := 123) (Nat.le_add_right _ _) ?_
  have J968 : ∀ (gj968 : Nat → Nat), (∀ j, gj968 j < 4096) → VB 123 RL cL_law 17 (some .boolean) wsL_law roomB (vXL s0 L xs) (tyl c d) (qF 123) (10082) (60492 + 1250) (wal a c S b d F gj968) 968 [(0, .ref (s0)), (1, .ref (a 0)), (2, .ref (b 0)), (3, .ref (b 1)), (4, .ref (b 2)), (5, .ref (b 3)), (6, .ref (b 4)), (7, .int (iZ 1)), (8, .int (iZ 79)), (9, .int (iZ 31)), (10, .int (iZ 0))] [] := by
    intro gj968 hgj968
    refine VB_iconst (q := 969) dL_law_968 rfl ?_
    refine VB_istore (q := 971) (lv' := [(0, _), (1, _), (2, _), (3, _), (4, _), (5, _), (6, _), (7, _), (8, _), (9, _), (10, _)]) dL_law_969 (by decide) rfl rfl ?_
    refine VB_iinc (q := 974) (y := 80) (lv' := [(0, _), (1, _), (2, _), (3, _), (4, _), (5, _), (6, _), (7, _), (8, _), (9, _), (10, _)]) dL_law_971 8 rfl (by omega) (by decide) rfl rfl ?_
    refine VB_goto (tgt := 64) dL_law_974 (by decide) ?_
    refine VB_iload (q := 66) dL_law_64 8 rfl rfl ?_
    refine VB_bipush (q := 68) dL_law_66 (by decide) rfl ?_
    refine VB_icmp_ge (q := 71) (tgt := 977) dL_law_68 (by decide) (by decide) (by decide) (fun _ => ?_) (fun hc => absurd hc (by decide))
    refine VB_iload (q := 979) dL_law_977 7 rfl rfl ?_
    exact VB_ret0 dL_law_979 rfl
  refine VB_uif_eq (q := 799) (tgt := 968) dL_law_796 (by decide) ?_ ?_
  · skip
    exact VB_widen (by omega) (by omega) (J968 g793 hg793)
  · skip
    refine VB_iload (q := 801) dL_law_799 8 rfl rfl ?_
    refine VB_iconst (q := 802) dL_law_801 rfl ?_
    refine VB_irem (q := 803) (a := 79) (b := 2) dL_law_802 (by omega) (by decide) (by decide) rfl ?_
    refine VB_top (y := iZ 1) rfl ?_
    refine VB_if_gt (q := 806) (tgt := 833) dL_law_803 (by decide) (by decide) (fun _ => ?_) (fun hc => absurd hc (by decide))
    refine VB_aload_n (q := 834) dL_law_833 1 rfl rfl ?_
    refine VB_aload_n (q := 835) dL_law_834 2 rfl rfl ?_
    refine VB_aload_n (q := 836) dL_law_835 3 rfl rfl ?_
    refine VB_aload (q := 838) dL_law_836 4 rfl rfl ?_
    refine VB_aload (q := 840) dL_law_838 6 rfl rfl ?_
    refine VB_callU (q := 843) dL_law_840 (u_isMissing (a := a) (c := c) (S := S) (b := b) (d := d) (F := F) hI hg793) yv_L_isMissing rfl gL_law_L_isMissing xU_L rfl (Nat.le_of_ble_eq_true rfl) (by decide) ⟨by show _ ≤ 20000; omega, by show _ ≤ 130000; omega⟩ (fun x840 g840 hP840 hg840 => ?_)
    refine VB_lo (lo' := 123) (Nat.le_add_right _ _) ?_
    refine VB_uif_eq (q := 846) (tgt := 968) dL_law_843 (by decide) ?_ ?_
    · skip
      exact VB_widen (by omega) (by omega) (J968 g840 hg840)
    · skip
      refine VB_aload_n (q := 847) dL_law_846 1 rfl rfl ?_
      refine VB_aload_n (q := 848) dL_law_847 2 rfl rfl ?_
      refine VB_aload (q := 850) dL_law_848 6 rfl rfl ?_
      refine VB_iload (q := 852) dL_law_850 10 rfl rfl ?_
      refine VB_aload (q := 854) dL_law_852 6 rfl rfl ?_
      refine VB_iconst (q := 855) dL_law_854 rfl ?_
      refine VB_iald (q := 856) (v := (iZ 4)) dL_law_855 13 12 rfl rfl (0) (by omega) (by omega) (by decide) (hM0) rfl ?_
      refine VB_iconst (q := 857) dL_law_856 rfl ?_
      refine VB_iadd (q := 858) dL_law_857 rfl ?_
      refine VB_top (y := iZ 5) rfl ?_
      refine VB_irem (q := 859) (a := 0) (b := 5) dL_law_858 (by omega) (by decide) (by decide) rfl ?_
      refine VB_top (y := iZ 0) rfl ?_
      refine VB_iload (q := 861) dL_law_859 10 rfl rfl ?_
      refine VB_bipush (q := 863) dL_law_861 (by decide) rfl ?_
      refine VB_idiv (q := 864) (a := 0) (b := 13) dL_law_863 (by omega) (by decide) (by decide) rfl ?_
      refine VB_top (y := iZ 0) rfl ?_
      refine VB_aload (q := 866) dL_law_864 6 rfl rfl ?_
      refine VB_iconst (q := 867) dL_law_866 rfl ?_
      refine VB_iald (q := 868) (v := (iZ 4)) dL_law_867 13 12 rfl rfl (0) (by omega) (by omega) (by decide) (hM0) rfl ?_
      refine VB_iconst (q := 869) dL_law_868 rfl ?_
      refine VB_iadd (q := 870) dL_law_869 rfl ?_
      refine VB_top (y := iZ 5) rfl ?_
      refine VB_irem (q := 871) (a := 0) (b := 5) dL_law_870 (by omega) (by decide) (by decide) rfl ?_
      refine VB_top (y := iZ 0) rfl ?_
      refine VB_iload (q := 873) dL_law_871 10 rfl rfl ?_
      refine VB_sipush (q := 876) dL_law_873 (by decide) rfl ?_
      refine VB_idiv (q := 877) (a := 0) (b := 169) dL_law_876 (by omega) (by decide) (by decide) rfl ?_
      refine VB_top (y := iZ 0) rfl ?_
      refine VB_aload (q := 879) dL_law_877 6 rfl rfl ?_
      refine VB_iconst (q := 880) dL_law_879 rfl ?_
      refine VB_iald (q := 881) (v := (iZ 4)) dL_law_880 13 12 rfl rfl (0) (by omega) (by omega) (by decide) (hM0) rfl ?_
      refine VB_iconst (q := 882) dL_law_881 rfl ?_
      refine VB_iadd (q := 883) dL_law_882 rfl ?_
      refine VB_top (y := iZ 6) rfl ?_
      refine VB_irem (q := 884) (a := 0) (b := 6) dL_law_883 (by omega) (by decide) (by decide) rfl ?_
      refine VB_top (y := iZ 0) rfl ?_
      refine VB_iconst (q := 885) dL_law_884 rfl ?_
      refine VB_isub (q := 886) dL_law_885 rfl ?_
      refine VB_top (y := iZ (-1)) rfl ?_
      refine VB_callU (q := 889) dL_law_886 (u_isWrong (a := a) (c := c) (S := S) (b := b) (d := d) (F := F) hI (wr0 hI (by decide) hK) hg840) yv_L_isWrong rfl gL_law_L_isWrong xU_L rfl (Nat.le_of_ble_eq_true rfl) (by decide) ⟨by show _ ≤ 20000; omega, by show _ ≤ 130000; omega⟩ (fun x886 g886 hP886 hg886 => ?_)
      refine VB_em (x := x886) (fun e886 => VB_lo (lo' := 123) (Nat.le_add_right _ _) (VB_top (y := iZ 0) e886 ?_)) (fun e886 => VB_lo (lo' := 125) (by show 125 ≤ 123 + (if x886 = 0 then 0 else 2); rw [if_neg e886]; omega) ?_)
      · skip
        refine VB_if_eq (q := 892) (tgt := 968) dL_law_889 (by decide) (by decide) (fun _ => ?_) (fun hc => absurd hc (by decide))
        exact VB_widen (by omega) (by omega) (J968 g886 hg886)
      · skip
        refine VB_uif_eq (q := 892) (tgt := 968) dL_law_889 (by decide) ?_ ?_
        · skip
          refine VB_lo (lo' := 123) (by omega) ?_
          exact VB_widen (by omega) (by omega) (J968 g886 hg886)
        · skip
          refine VB_iload (q := 894) dL_law_892 8 rfl rfl ?_
          refine VB_bipush (q := 896) dL_law_894 (by decide) rfl ?_
          refine VB_irem (q := 897) (a := 79) (b := 16) dL_law_896 (by omega) (by decide) (by decide) rfl ?_
          refine VB_top (y := iZ 15) rfl ?_
          refine VB_if_gt (q := 900) (tgt := 943) dL_law_897 (by decide) (by decide) (fun _ => ?_) (fun hc => absurd hc (by decide))
          refine VB_iload (q := 945) dL_law_943 8 rfl rfl ?_
          refine VB_bipush (q := 947) dL_law_945 (by decide) rfl ?_
          refine VB_irem (q := 948) (a := 79) (b := 20) dL_law_947 (by omega) (by decide) (by decide) rfl ?_
          refine VB_top (y := iZ 19) rfl ?_
          refine VB_if_gt (q := 951) (tgt := 964) dL_law_948 (by decide) (by decide) (fun _ => ?_) (fun hc => absurd hc (by decide))
          refine VB_iconst (q := 965) dL_law_964 rfl ?_
          refine VB_goto (tgt := 969) dL_law_965 (by decide) ?_
          refine VB_istore (q := 971) (lv' := [(0, _), (1, _), (2, _), (3, _), (4, _), (5, _), (6, _), (7, _), (8, _), (9, _), (10, _)]) dL_law_969 (by decide) rfl rfl ?_
          refine VB_iinc (q := 974) (y := 80) (lv' := [(0, _), (1, _), (2, _), (3, _), (4, _), (5, _), (6, _), (7, _), (8, _), (9, _), (10, _)]) dL_law_971 8 rfl (by omega) (by decide) rfl rfl ?_
          refine VB_goto (tgt := 64) dL_law_974 (by decide) ?_
          refine VB_iload (q := 66) dL_law_64 8 rfl rfl ?_
          refine VB_bipush (q := 68) dL_law_66 (by decide) rfl ?_
          refine VB_icmp_ge (q := 71) (tgt := 977) dL_law_68 (by decide) (by decide) (by decide) (fun _ => ?_) (fun hc => absurd hc (by decide))
          refine VB_iload (q := 979) dL_law_977 7 rfl rfl ?_
          exact VB_ret1 (by omega) dL_law_979 rfl
set_option maxRecDepth 100000 in
set_option maxHeartbeats 8000000 in
theorem rd79 {s0 L : Nat} {xs : Nat → Int32} {a : Nat → Nat} {c : Nat → ClassId} {b : Nat → Nat} {d : Nat → ClassId} (hL : L ≤ 260) (h16 : 80 ≤ L) (hx : ∀ j, j < 80 → xs j = 31) : ∀ (S : St) (F : Nat → Nat → Int32) (g : Nat → Nat), Iv S F 4 → (0 < 79 → sK S 0 = 0) → (∀ j, g j < 4096) → VB 123 RL cL_law 17 (some .boolean) wsL_law roomB (vXL s0 L xs) (tyl c d) (qF 123) (10062) (60372 + 1250) (wal a c S b d F g) 64 [(0, .ref (s0)), (1, .ref (a 0)), (2, .ref (b 0)), (3, .ref (b 1)), (4, .ref (b 2)), (5, .ref (b 3)), (6, .ref (b 4)), (7, .int (iZ 1)), (8, .int (iZ 79))] [] := by
  intro S F g hI hK hg
  obtain ⟨ho, hn, hm4, hM0, hG, hC⟩ := id hI
  refine VB_iload (q := 66) dL_law_64 8 rfl rfl ?_
  refine VB_bipush (q := 68) dL_law_66 (by decide) rfl ?_
  refine VB_icmp_ge (q := 71) (tgt := 977) dL_law_68 (by decide) (by decide) (by decide) (fun hc => absurd hc (by decide)) (fun _ => ?_)
  refine VB_iload (q := 73) dL_law_71 7 rfl rfl ?_
  refine VB_if_eq (q := 76) (tgt := 977) dL_law_73 (by decide) (by decide) (fun hc => absurd hc (by decide)) (fun _ => ?_)
  refine VB_aload_n (q := 77) dL_law_76 0 rfl rfl ?_
  refine VB_iload (q := 79) dL_law_77 8 rfl rfl ?_
  refine VB_callD (q := 82) dL_law_79 (u_dice (b := s0) (L := L) (xs := xs) 79 (by omega) hL (hx 79 (by omega))) yv_L_dice rfl gL_law_L_dice xL_s rfl (Nat.le_of_ble_eq_true rfl) (by decide) ⟨by show _ ≤ 20000; omega, by show _ ≤ 130000; omega⟩ ?_
  refine VB_istore (q := 84) (lv' := [(0, _), (1, _), (2, _), (3, _), (4, _), (5, _), (6, _), (7, _), (8, _), (9, _)]) dL_law_82 (by decide) rfl rfl ?_
  refine VB_iload (q := 86) dL_law_84 9 rfl rfl ?_
  refine VB_bipush (q := 88) dL_law_86 (by decide) rfl ?_
  refine VB_idiv (q := 89) (a := 31) (b := 32) dL_law_88 (by omega) (by decide) (by decide) rfl ?_
  refine VB_top (y := iZ 0) rfl ?_
  refine VB_istore (q := 91) (lv' := [(0, _), (1, _), (2, _), (3, _), (4, _), (5, _), (6, _), (7, _), (8, _), (9, _), (10, _)]) dL_law_89 (by decide) rfl rfl ?_
  refine VB_iload (q := 93) dL_law_91 9 rfl rfl ?_
  refine VB_bipush (q := 95) dL_law_93 (by decide) rfl ?_
  refine VB_irem (q := 96) (a := 31) (b := 32) dL_law_95 (by omega) (by decide) (by decide) rfl ?_
  refine VB_top (y := iZ 31) rfl ?_
  refine VB_istore (q := 98) (lv' := [(0, _), (1, _), (2, _), (3, _), (4, _), (5, _), (6, _), (7, _), (8, _), (9, _), (10, _), (11, _)]) dL_law_96 (by decide) rfl rfl ?_
  refine VB_aload (q := 100) dL_law_98 6 rfl rfl ?_
  refine VB_iconst (q := 101) dL_law_100 rfl ?_
  refine VB_iald (q := 102) (v := (iZ 4)) dL_law_101 13 12 rfl rfl (0) (by omega) (by omega) (by decide) (hM0) rfl ?_
  refine VB_if_ne (q := 105) (tgt := 109) dL_law_102 (by decide) (by decide) (fun _ => ?_) (fun hc => absurd hc (by decide))
  refine VB_iload (q := 111) dL_law_109 10 rfl rfl ?_
  refine VB_aload (q := 113) dL_law_111 6 rfl rfl ?_
  refine VB_iconst (q := 114) dL_law_113 rfl ?_
  refine VB_iald (q := 115) (v := (iZ 4)) dL_law_114 13 12 rfl rfl (0) (by omega) (by omega) (by decide) (hM0) rfl ?_
  refine VB_irem (q := 116) (a := 0) (b := 4) dL_law_115 (by omega) (by decide) (by decide) rfl ?_
  refine VB_top (y := iZ 0) rfl ?_
  refine VB_istore (q := 118) (lv' := [(0, _), (1, _), (2, _), (3, _), (4, _), (5, _), (6, _), (7, _), (8, _), (9, _), (10, _), (11, _), (12, _)]) dL_law_116 (by decide) rfl rfl ?_
  refine VB_aload (q := 120) dL_law_118 6 rfl rfl ?_
  refine VB_iconst (q := 121) dL_law_120 rfl ?_
  refine VB_iald (q := 122) (v := (iZ 4)) dL_law_121 13 12 rfl rfl (0) (by omega) (by omega) (by decide) (hM0) rfl ?_
  refine VB_iconst (q := 123) dL_law_122 rfl ?_
  refine VB_icmp_lt (q := 126) (tgt := 141) dL_law_123 (by decide) (by decide) (by decide) (fun hc => absurd hc (by decide)) (fun _ => ?_)
  refine VB_iload (q := 128) dL_law_126 11 rfl rfl ?_
  refine VB_iconst (q := 129) dL_law_128 rfl ?_
  refine VB_icmp_ge (q := 132) (tgt := 326) dL_law_129 (by decide) (by decide) (by decide) (fun _ => ?_) (fun hc => absurd hc (by decide))
  refine VB_iload (q := 328) dL_law_326 11 rfl rfl ?_
  refine VB_bipush (q := 330) dL_law_328 (by decide) rfl ?_
  refine VB_icmp_ge (q := 333) (tgt := 451) dL_law_330 (by decide) (by decide) (by decide) (fun _ => ?_) (fun hc => absurd hc (by decide))
  refine VB_iload (q := 453) dL_law_451 11 rfl rfl ?_
  refine VB_bipush (q := 455) dL_law_453 (by decide) rfl ?_
  refine VB_icmp_ge (q := 458) (tgt := 603) dL_law_455 (by decide) (by decide) (by decide) (fun _ => ?_) (fun hc => absurd hc (by decide))
  refine VB_iload (q := 605) dL_law_603 11 rfl rfl ?_
  refine VB_bipush (q := 607) dL_law_605 (by decide) rfl ?_
  refine VB_icmp_ge (q := 610) (tgt := 633) dL_law_607 (by decide) (by decide) (by decide) (fun _ => ?_) (fun hc => absurd hc (by decide))
  refine VB_iload (q := 635) dL_law_633 11 rfl rfl ?_
  refine VB_bipush (q := 637) dL_law_635 (by decide) rfl ?_
  refine VB_icmp_ge (q := 640) (tgt := 677) dL_law_637 (by decide) (by decide) (by decide) (fun _ => ?_) (fun hc => absurd hc (by decide))
  refine VB_iload (q := 679) dL_law_677 11 rfl rfl ?_
  refine VB_bipush (q := 681) dL_law_679 (by decide) rfl ?_
  refine VB_icmp_ne (q := 684) (tgt := 783) dL_law_681 (by decide) (by decide) (by decide) (fun _ => ?_) (fun hc => absurd hc (by decide))
  refine VB_loc (lv' := [(0, _), (1, _), (2, _), (3, _), (4, _), (5, _), (6, _), (7, _), (8, _), (9, _), (10, _)]) [0, 1, 2, 3, 4, 5, 6, 7, 8, 9, 10] rfl ?_
  exact VB_widen (by omega) (by omega) (ck79 hL h16 hx S F g hI (hK (by decide)) hg)
set_option maxRecDepth 100000 in
set_option maxHeartbeats 8000000 in
theorem ck78 {s0 L : Nat} {xs : Nat → Int32} {a : Nat → Nat} {c : Nat → ClassId} {b : Nat → Nat} {d : Nat → ClassId} (hL : L ≤ 260) (h16 : 80 ≤ L) (hx : ∀ j, j < 80 → xs j = 31) : ∀ (S : St) (F : Nat → Nat → Int32) (g : Nat → Nat), Iv S F 4 → sK S 0 = 0 → (∀ j, g j < 4096) → VB 123 RL cL_law 17 (some .boolean) wsL_law roomB (vXL s0 L xs) (tyl c d) (qF 123) (9842) (59052 + 1250) (wal a c S b d F g) 783 [(0, .ref (s0)), (1, .ref (a 0)), (2, .ref (b 0)), (3, .ref (b 1)), (4, .ref (b 2)), (5, .ref (b 3)), (6, .ref (b 4)), (7, .int (iZ 1)), (8, .int (iZ 78)), (9, .int (iZ 31)), (10, .int (iZ 0))] [] := by
  intro S F g hI hK hg
  obtain ⟨ho, hn, hm4, hM0, hG, hC⟩ := id hI
  refine VB_iload (q := 785) dL_law_783 7 rfl rfl ?_
  refine VB_if_eq (q := 788) (tgt := 968) dL_law_785 (by decide) (by decide) (fun hc => absurd hc (by decide)) (fun _ => ?_)
  refine VB_aload_n (q := 789) dL_law_788 1 rfl rfl ?_
  refine VB_aload_n (q := 790) dL_law_789 2 rfl rfl ?_
  refine VB_aload_n (q := 791) dL_law_790 3 rfl rfl ?_
  refine VB_aload (q := 793) dL_law_791 6 rfl rfl ?_
  refine VB_callU (q := 796) dL_law_793 (u_areThings (a := a) (c := c) (S := S) (b := b) (d := d) (F := F) hI hg) yv_L_areThings rfl gL_law_L_areThings xU_L rfl (Nat.le_of_ble_eq_true rfl) (by decide) ⟨by show _ ≤ 20000; omega, by show _ ≤ 130000; omega⟩ (fun x793 g793 hP793 hg793 => ?_)
  refine VB_lo (lo' := 123) (Nat.le_add_right _ _) ?_
  have J968 : ∀ (gj968 : Nat → Nat), (∀ j, gj968 j < 4096) → VB 123 RL cL_law 17 (some .boolean) wsL_law roomB (vXL s0 L xs) (tyl c d) (qF 123) (10062) (60372 + 1250) (wal a c S b d F gj968) 968 [(0, .ref (s0)), (1, .ref (a 0)), (2, .ref (b 0)), (3, .ref (b 1)), (4, .ref (b 2)), (5, .ref (b 3)), (6, .ref (b 4)), (7, .int (iZ 1)), (8, .int (iZ 78)), (9, .int (iZ 31)), (10, .int (iZ 0))] [] := by
    intro gj968 hgj968
    refine VB_iconst (q := 969) dL_law_968 rfl ?_
    refine VB_istore (q := 971) (lv' := [(0, _), (1, _), (2, _), (3, _), (4, _), (5, _), (6, _), (7, _), (8, _), (9, _), (10, _)]) dL_law_969 (by decide) rfl rfl ?_
    refine VB_iinc (q := 974) (y := 79) (lv' := [(0, _), (1, _), (2, _), (3, _), (4, _), (5, _), (6, _), (7, _), (8, _), (9, _), (10, _)]) dL_law_971 8 rfl (by omega) (by decide) rfl rfl ?_
    refine VB_goto (tgt := 64) dL_law_974 (by decide) ?_
    refine VB_iload (q := 66) dL_law_64 8 rfl rfl ?_
    refine VB_bipush (q := 68) dL_law_66 (by decide) rfl ?_
    refine VB_icmp_ge (q := 71) (tgt := 977) dL_law_68 (by decide) (by decide) (by decide) (fun hc => absurd hc (by decide)) (fun _ => ?_)
    refine VB_iload (q := 73) dL_law_71 7 rfl rfl ?_
    refine VB_if_eq (q := 76) (tgt := 977) dL_law_73 (by decide) (by decide) (fun _ => ?_) (fun hc => absurd hc (by decide))
    refine VB_iload (q := 979) dL_law_977 7 rfl rfl ?_
    exact VB_ret0 dL_law_979 rfl
  refine VB_uif_eq (q := 799) (tgt := 968) dL_law_796 (by decide) ?_ ?_
  · skip
    exact VB_widen (by omega) (by omega) (J968 g793 hg793)
  · skip
    refine VB_iload (q := 801) dL_law_799 8 rfl rfl ?_
    refine VB_iconst (q := 802) dL_law_801 rfl ?_
    refine VB_irem (q := 803) (a := 78) (b := 2) dL_law_802 (by omega) (by decide) (by decide) rfl ?_
    refine VB_top (y := iZ 0) rfl ?_
    refine VB_if_gt (q := 806) (tgt := 833) dL_law_803 (by decide) (by decide) (fun hc => absurd hc (by decide)) (fun _ => ?_)
    refine VB_aload_n (q := 807) dL_law_806 1 rfl rfl ?_
    refine VB_aload_n (q := 808) dL_law_807 2 rfl rfl ?_
    refine VB_aload_n (q := 809) dL_law_808 3 rfl rfl ?_
    refine VB_aload (q := 811) dL_law_809 4 rfl rfl ?_
    refine VB_aload (q := 813) dL_law_811 6 rfl rfl ?_
    refine VB_iload (q := 815) dL_law_813 10 rfl rfl ?_
    refine VB_bipush (q := 817) dL_law_815 (by decide) rfl ?_
    refine VB_irem (q := 818) (a := 0) (b := 31) dL_law_817 (by omega) (by decide) (by decide) rfl ?_
    refine VB_top (y := iZ 0) rfl ?_
    refine VB_iload (q := 820) dL_law_818 10 rfl rfl ?_
    refine VB_bipush (q := 822) dL_law_820 (by decide) rfl ?_
    refine VB_idiv (q := 823) (a := 0) (b := 31) dL_law_822 (by omega) (by decide) (by decide) rfl ?_
    refine VB_top (y := iZ 0) rfl ?_
    refine VB_sipush (q := 826) dL_law_823 (by decide) rfl ?_
    refine VB_irem (q := 827) (a := 0) (b := 256) dL_law_826 (by omega) (by decide) (by decide) rfl ?_
    refine VB_top (y := iZ 0) rfl ?_
    refine VB_callU (q := 830) dL_law_827 (u_areOutfits (a := a) (c := c) (S := S) (b := b) (d := d) (F := F) hI hg793) yv_L_areOutfits rfl gL_law_L_areOutfits xU_L rfl (Nat.le_of_ble_eq_true rfl) (by decide) ⟨by show _ ≤ 20000; omega, by show _ ≤ 130000; omega⟩ (fun x827 g827 hP827 hg827 => ?_)
    refine VB_lo (lo' := 123) (Nat.le_add_right _ _) ?_
    refine VB_uif_eq (q := 833) (tgt := 968) dL_law_830 (by decide) ?_ ?_
    · skip
      exact VB_widen (by omega) (by omega) (J968 g827 hg827)
    · skip
      refine VB_aload_n (q := 834) dL_law_833 1 rfl rfl ?_
      refine VB_aload_n (q := 835) dL_law_834 2 rfl rfl ?_
      refine VB_aload_n (q := 836) dL_law_835 3 rfl rfl ?_
      refine VB_aload (q := 838) dL_law_836 4 rfl rfl ?_
      refine VB_aload (q := 840) dL_law_838 6 rfl rfl ?_
      refine VB_callU (q := 843) dL_law_840 (u_isMissing (a := a) (c := c) (S := S) (b := b) (d := d) (F := F) hI hg827) yv_L_isMissing rfl gL_law_L_isMissing xU_L rfl (Nat.le_of_ble_eq_true rfl) (by decide) ⟨by show _ ≤ 20000; omega, by show _ ≤ 130000; omega⟩ (fun x840 g840 hP840 hg840 => ?_)
      refine VB_lo (lo' := 123) (Nat.le_add_right _ _) ?_
      refine VB_uif_eq (q := 846) (tgt := 968) dL_law_843 (by decide) ?_ ?_
      · skip
        exact VB_widen (by omega) (by omega) (J968 g840 hg840)
      · skip
        refine VB_aload_n (q := 847) dL_law_846 1 rfl rfl ?_
        refine VB_aload_n (q := 848) dL_law_847 2 rfl rfl ?_
        refine VB_aload (q := 850) dL_law_848 6 rfl rfl ?_
        refine VB_iload (q := 852) dL_law_850 10 rfl rfl ?_
        refine VB_aload (q := 854) dL_law_852 6 rfl rfl ?_
        refine VB_iconst (q := 855) dL_law_854 rfl ?_
        refine VB_iald (q := 856) (v := (iZ 4)) dL_law_855 13 12 rfl rfl (0) (by omega) (by omega) (by decide) (hM0) rfl ?_
        refine VB_iconst (q := 857) dL_law_856 rfl ?_
        refine VB_iadd (q := 858) dL_law_857 rfl ?_
        refine VB_top (y := iZ 5) rfl ?_
        refine VB_irem (q := 859) (a := 0) (b := 5) dL_law_858 (by omega) (by decide) (by decide) rfl ?_
        refine VB_top (y := iZ 0) rfl ?_
        refine VB_iload (q := 861) dL_law_859 10 rfl rfl ?_
        refine VB_bipush (q := 863) dL_law_861 (by decide) rfl ?_
        refine VB_idiv (q := 864) (a := 0) (b := 13) dL_law_863 (by omega) (by decide) (by decide) rfl ?_
        refine VB_top (y := iZ 0) rfl ?_
        refine VB_aload (q := 866) dL_law_864 6 rfl rfl ?_
        refine VB_iconst (q := 867) dL_law_866 rfl ?_
        refine VB_iald (q := 868) (v := (iZ 4)) dL_law_867 13 12 rfl rfl (0) (by omega) (by omega) (by decide) (hM0) rfl ?_
        refine VB_iconst (q := 869) dL_law_868 rfl ?_
        refine VB_iadd (q := 870) dL_law_869 rfl ?_
        refine VB_top (y := iZ 5) rfl ?_
        refine VB_irem (q := 871) (a := 0) (b := 5) dL_law_870 (by omega) (by decide) (by decide) rfl ?_
        refine VB_top (y := iZ 0) rfl ?_
        refine VB_iload (q := 873) dL_law_871 10 rfl rfl ?_
        refine VB_sipush (q := 876) dL_law_873 (by decide) rfl ?_
        refine VB_idiv (q := 877) (a := 0) (b := 169) dL_law_876 (by omega) (by decide) (by decide) rfl ?_
        refine VB_top (y := iZ 0) rfl ?_
        refine VB_aload (q := 879) dL_law_877 6 rfl rfl ?_
        refine VB_iconst (q := 880) dL_law_879 rfl ?_
        refine VB_iald (q := 881) (v := (iZ 4)) dL_law_880 13 12 rfl rfl (0) (by omega) (by omega) (by decide) (hM0) rfl ?_
        refine VB_iconst (q := 882) dL_law_881 rfl ?_
        refine VB_iadd (q := 883) dL_law_882 rfl ?_
        refine VB_top (y := iZ 6) rfl ?_
        refine VB_irem (q := 884) (a := 0) (b := 6) dL_law_883 (by omega) (by decide) (by decide) rfl ?_
        refine VB_top (y := iZ 0) rfl ?_
        refine VB_iconst (q := 885) dL_law_884 rfl ?_
        refine VB_isub (q := 886) dL_law_885 rfl ?_
        refine VB_top (y := iZ (-1)) rfl ?_
        refine VB_callU (q := 889) dL_law_886 (u_isWrong (a := a) (c := c) (S := S) (b := b) (d := d) (F := F) hI (wr0 hI (by decide) hK) hg840) yv_L_isWrong rfl gL_law_L_isWrong xU_L rfl (Nat.le_of_ble_eq_true rfl) (by decide) ⟨by show _ ≤ 20000; omega, by show _ ≤ 130000; omega⟩ (fun x886 g886 hP886 hg886 => ?_)
        refine VB_em (x := x886) (fun e886 => VB_lo (lo' := 123) (Nat.le_add_right _ _) (VB_top (y := iZ 0) e886 ?_)) (fun e886 => VB_lo (lo' := 125) (by show 125 ≤ 123 + (if x886 = 0 then 0 else 2); rw [if_neg e886]; omega) ?_)
        · skip
          refine VB_if_eq (q := 892) (tgt := 968) dL_law_889 (by decide) (by decide) (fun _ => ?_) (fun hc => absurd hc (by decide))
          exact VB_widen (by omega) (by omega) (J968 g886 hg886)
        · skip
          refine VB_uif_eq (q := 892) (tgt := 968) dL_law_889 (by decide) ?_ ?_
          · skip
            refine VB_lo (lo' := 123) (by omega) ?_
            exact VB_widen (by omega) (by omega) (J968 g886 hg886)
          · skip
            refine VB_iload (q := 894) dL_law_892 8 rfl rfl ?_
            refine VB_bipush (q := 896) dL_law_894 (by decide) rfl ?_
            refine VB_irem (q := 897) (a := 78) (b := 16) dL_law_896 (by omega) (by decide) (by decide) rfl ?_
            refine VB_top (y := iZ 14) rfl ?_
            refine VB_if_gt (q := 900) (tgt := 943) dL_law_897 (by decide) (by decide) (fun _ => ?_) (fun hc => absurd hc (by decide))
            refine VB_iload (q := 945) dL_law_943 8 rfl rfl ?_
            refine VB_bipush (q := 947) dL_law_945 (by decide) rfl ?_
            refine VB_irem (q := 948) (a := 78) (b := 20) dL_law_947 (by omega) (by decide) (by decide) rfl ?_
            refine VB_top (y := iZ 18) rfl ?_
            refine VB_if_gt (q := 951) (tgt := 964) dL_law_948 (by decide) (by decide) (fun _ => ?_) (fun hc => absurd hc (by decide))
            refine VB_iconst (q := 965) dL_law_964 rfl ?_
            refine VB_goto (tgt := 969) dL_law_965 (by decide) ?_
            refine VB_istore (q := 971) (lv' := [(0, _), (1, _), (2, _), (3, _), (4, _), (5, _), (6, _), (7, _), (8, _), (9, _), (10, _)]) dL_law_969 (by decide) rfl rfl ?_
            refine VB_iinc (q := 974) (y := 79) (lv' := [(0, _), (1, _), (2, _), (3, _), (4, _), (5, _), (6, _), (7, _), (8, _), (9, _), (10, _)]) dL_law_971 8 rfl (by omega) (by decide) rfl rfl ?_
            refine VB_goto (tgt := 64) dL_law_974 (by decide) ?_
            refine VB_loc (lv' := [(0, _), (1, _), (2, _), (3, _), (4, _), (5, _), (6, _), (7, _), (8, _)]) [0, 1, 2, 3, 4, 5, 6, 7, 8] rfl ?_
            refine VB_lo (lo' := 123) (by omega) ?_
            exact VB_widen (by omega) (by omega) (rd79 hL h16 hx S F g886 hI (fun _ => hK) hg886)
set_option maxRecDepth 100000 in
set_option maxHeartbeats 8000000 in
theorem rd78 {s0 L : Nat} {xs : Nat → Int32} {a : Nat → Nat} {c : Nat → ClassId} {b : Nat → Nat} {d : Nat → ClassId} (hL : L ≤ 260) (h16 : 80 ≤ L) (hx : ∀ j, j < 80 → xs j = 31) : ∀ (S : St) (F : Nat → Nat → Int32) (g : Nat → Nat), Iv S F 4 → (0 < 78 → sK S 0 = 0) → (∀ j, g j < 4096) → VB 123 RL cL_law 17 (some .boolean) wsL_law roomB (vXL s0 L xs) (tyl c d) (qF 123) (9842) (59052 + 1250) (wal a c S b d F g) 64 [(0, .ref (s0)), (1, .ref (a 0)), (2, .ref (b 0)), (3, .ref (b 1)), (4, .ref (b 2)), (5, .ref (b 3)), (6, .ref (b 4)), (7, .int (iZ 1)), (8, .int (iZ 78))] [] := by
  intro S F g hI hK hg
  obtain ⟨ho, hn, hm4, hM0, hG, hC⟩ := id hI
  refine VB_iload (q := 66) dL_law_64 8 rfl rfl ?_
  refine VB_bipush (q := 68) dL_law_66 (by decide) rfl ?_
  refine VB_icmp_ge (q := 71) (tgt := 977) dL_law_68 (by decide) (by decide) (by decide) (fun hc => absurd hc (by decide)) (fun _ => ?_)
  refine VB_iload (q := 73) dL_law_71 7 rfl rfl ?_
  refine VB_if_eq (q := 76) (tgt := 977) dL_law_73 (by decide) (by decide) (fun hc => absurd hc (by decide)) (fun _ => ?_)
  refine VB_aload_n (q := 77) dL_law_76 0 rfl rfl ?_
  refine VB_iload (q := 79) dL_law_77 8 rfl rfl ?_
  refine VB_callD (q := 82) dL_law_79 (u_dice (b := s0) (L := L) (xs := xs) 78 (by omega) hL (hx 78 (by omega))) yv_L_dice rfl gL_law_L_dice xL_s rfl (Nat.le_of_ble_eq_true rfl) (by decide) ⟨by show _ ≤ 20000; omega, by show _ ≤ 130000; omega⟩ ?_
  refine VB_istore (q := 84) (lv' := [(0, _), (1, _), (2, _), (3, _), (4, _), (5, _), (6, _), (7, _), (8, _), (9, _)]) dL_law_82 (by decide) rfl rfl ?_
  refine VB_iload (q := 86) dL_law_84 9 rfl rfl ?_
  refine VB_bipush (q := 88) dL_law_86 (by decide) rfl ?_
  refine VB_idiv (q := 89) (a := 31) (b := 32) dL_law_88 (by omega) (by decide) (by decide) rfl ?_
  refine VB_top (y := iZ 0) rfl ?_
  refine VB_istore (q := 91) (lv' := [(0, _), (1, _), (2, _), (3, _), (4, _), (5, _), (6, _), (7, _), (8, _), (9, _), (10, _)]) dL_law_89 (by decide) rfl rfl ?_
  refine VB_iload (q := 93) dL_law_91 9 rfl rfl ?_
  refine VB_bipush (q := 95) dL_law_93 (by decide) rfl ?_
  refine VB_irem (q := 96) (a := 31) (b := 32) dL_law_95 (by omega) (by decide) (by decide) rfl ?_
  refine VB_top (y := iZ 31) rfl ?_
  refine VB_istore (q := 98) (lv' := [(0, _), (1, _), (2, _), (3, _), (4, _), (5, _), (6, _), (7, _), (8, _), (9, _), (10, _), (11, _)]) dL_law_96 (by decide) rfl rfl ?_
  refine VB_aload (q := 100) dL_law_98 6 rfl rfl ?_
  refine VB_iconst (q := 101) dL_law_100 rfl ?_
  refine VB_iald (q := 102) (v := (iZ 4)) dL_law_101 13 12 rfl rfl (0) (by omega) (by omega) (by decide) (hM0) rfl ?_
  refine VB_if_ne (q := 105) (tgt := 109) dL_law_102 (by decide) (by decide) (fun _ => ?_) (fun hc => absurd hc (by decide))
  refine VB_iload (q := 111) dL_law_109 10 rfl rfl ?_
  refine VB_aload (q := 113) dL_law_111 6 rfl rfl ?_
  refine VB_iconst (q := 114) dL_law_113 rfl ?_
  refine VB_iald (q := 115) (v := (iZ 4)) dL_law_114 13 12 rfl rfl (0) (by omega) (by omega) (by decide) (hM0) rfl ?_
  refine VB_irem (q := 116) (a := 0) (b := 4) dL_law_115 (by omega) (by decide) (by decide) rfl ?_
  refine VB_top (y := iZ 0) rfl ?_
  refine VB_istore (q := 118) (lv' := [(0, _), (1, _), (2, _), (3, _), (4, _), (5, _), (6, _), (7, _), (8, _), (9, _), (10, _), (11, _), (12, _)]) dL_law_116 (by decide) rfl rfl ?_
  refine VB_aload (q := 120) dL_law_118 6 rfl rfl ?_
  refine VB_iconst (q := 121) dL_law_120 rfl ?_
  refine VB_iald (q := 122) (v := (iZ 4)) dL_law_121 13 12 rfl rfl (0) (by omega) (by omega) (by decide) (hM0) rfl ?_
  refine VB_iconst (q := 123) dL_law_122 rfl ?_
  refine VB_icmp_lt (q := 126) (tgt := 141) dL_law_123 (by decide) (by decide) (by decide) (fun hc => absurd hc (by decide)) (fun _ => ?_)
  refine VB_iload (q := 128) dL_law_126 11 rfl rfl ?_
  refine VB_iconst (q := 129) dL_law_128 rfl ?_
  refine VB_icmp_ge (q := 132) (tgt := 326) dL_law_129 (by decide) (by decide) (by decide) (fun _ => ?_) (fun hc => absurd hc (by decide))
  refine VB_iload (q := 328) dL_law_326 11 rfl rfl ?_
  refine VB_bipush (q := 330) dL_law_328 (by decide) rfl ?_
  refine VB_icmp_ge (q := 333) (tgt := 451) dL_law_330 (by decide) (by decide) (by decide) (fun _ => ?_) (fun hc => absurd hc (by decide))
  refine VB_iload (q := 453) dL_law_451 11 rfl rfl ?_
  refine VB_bipush (q := 455) dL_law_453 (by decide) rfl ?_
  refine VB_icmp_ge (q := 458) (tgt := 603) dL_law_455 (by decide) (by decide) (by decide) (fun _ => ?_) (fun hc => absurd hc (by decide))
  refine VB_iload (q := 605) dL_law_603 11 rfl rfl ?_
  refine VB_bipush (q := 607) dL_law_605 (by decide) rfl ?_
  refine VB_icmp_ge (q := 610) (tgt := 633) dL_law_607 (by decide) (by decide) (by decide) (fun _ => ?_) (fun hc => absurd hc (by decide))
  refine VB_iload (q := 635) dL_law_633 11 rfl rfl ?_
  refine VB_bipush (q := 637) dL_law_635 (by decide) rfl ?_
  refine VB_icmp_ge (q := 640) (tgt := 677) dL_law_637 (by decide) (by decide) (by decide) (fun _ => ?_) (fun hc => absurd hc (by decide))
  refine VB_iload (q := 679) dL_law_677 11 rfl rfl ?_
  refine VB_bipush (q := 681) dL_law_679 (by decide) rfl ?_
  refine VB_icmp_ne (q := 684) (tgt := 783) dL_law_681 (by decide) (by decide) (by decide) (fun _ => ?_) (fun hc => absurd hc (by decide))
  refine VB_loc (lv' := [(0, _), (1, _), (2, _), (3, _), (4, _), (5, _), (6, _), (7, _), (8, _), (9, _), (10, _)]) [0, 1, 2, 3, 4, 5, 6, 7, 8, 9, 10] rfl ?_
  exact VB_widen (by omega) (by omega) (ck78 hL h16 hx S F g hI (hK (by decide)) hg)
set_option maxRecDepth 100000 in
set_option maxHeartbeats 8000000 in
theorem ck77 {s0 L : Nat} {xs : Nat → Int32} {a : Nat → Nat} {c : Nat → ClassId} {b : Nat → Nat} {d : Nat → ClassId} (hL : L ≤ 260) (h16 : 80 ≤ L) (hx : ∀ j, j < 80 → xs j = 31) : ∀ (S : St) (F : Nat → Nat → Int32) (g : Nat → Nat), Iv S F 4 → sK S 0 = 0 → (∀ j, g j < 4096) → VB 123 RL cL_law 17 (some .boolean) wsL_law roomB (vXL s0 L xs) (tyl c d) (qF 123) (9822) (58932 + 1250) (wal a c S b d F g) 783 [(0, .ref (s0)), (1, .ref (a 0)), (2, .ref (b 0)), (3, .ref (b 1)), (4, .ref (b 2)), (5, .ref (b 3)), (6, .ref (b 4)), (7, .int (iZ 1)), (8, .int (iZ 77)), (9, .int (iZ 31)), (10, .int (iZ 0))] [] := by
  intro S F g hI hK hg
  obtain ⟨ho, hn, hm4, hM0, hG, hC⟩ := id hI
  refine VB_iload (q := 785) dL_law_783 7 rfl rfl ?_
  refine VB_if_eq (q := 788) (tgt := 968) dL_law_785 (by decide) (by decide) (fun hc => absurd hc (by decide)) (fun _ => ?_)
  refine VB_aload_n (q := 789) dL_law_788 1 rfl rfl ?_
  refine VB_aload_n (q := 790) dL_law_789 2 rfl rfl ?_
  refine VB_aload_n (q := 791) dL_law_790 3 rfl rfl ?_
  refine VB_aload (q := 793) dL_law_791 6 rfl rfl ?_
  refine VB_callU (q := 796) dL_law_793 (u_areThings (a := a) (c := c) (S := S) (b := b) (d := d) (F := F) hI hg) yv_L_areThings rfl gL_law_L_areThings xU_L rfl (Nat.le_of_ble_eq_true rfl) (by decide) ⟨by show _ ≤ 20000; omega, by show _ ≤ 130000; omega⟩ (fun x793 g793 hP793 hg793 => ?_)
  refine VB_lo (lo' := 123) (Nat.le_add_right _ _) ?_
  have J968 : ∀ (gj968 : Nat → Nat), (∀ j, gj968 j < 4096) → VB 123 RL cL_law 17 (some .boolean) wsL_law roomB (vXL s0 L xs) (tyl c d) (qF 123) (9842) (59052 + 1250) (wal a c S b d F gj968) 968 [(0, .ref (s0)), (1, .ref (a 0)), (2, .ref (b 0)), (3, .ref (b 1)), (4, .ref (b 2)), (5, .ref (b 3)), (6, .ref (b 4)), (7, .int (iZ 1)), (8, .int (iZ 77)), (9, .int (iZ 31)), (10, .int (iZ 0))] [] := by
    intro gj968 hgj968
    refine VB_iconst (q := 969) dL_law_968 rfl ?_
    refine VB_istore (q := 971) (lv' := [(0, _), (1, _), (2, _), (3, _), (4, _), (5, _), (6, _), (7, _), (8, _), (9, _), (10, _)]) dL_law_969 (by decide) rfl rfl ?_
    refine VB_iinc (q := 974) (y := 78) (lv' := [(0, _), (1, _), (2, _), (3, _), (4, _), (5, _), (6, _), (7, _), (8, _), (9, _), (10, _)]) dL_law_971 8 rfl (by omega) (by decide) rfl rfl ?_
    refine VB_goto (tgt := 64) dL_law_974 (by decide) ?_
    refine VB_iload (q := 66) dL_law_64 8 rfl rfl ?_
    refine VB_bipush (q := 68) dL_law_66 (by decide) rfl ?_
    refine VB_icmp_ge (q := 71) (tgt := 977) dL_law_68 (by decide) (by decide) (by decide) (fun hc => absurd hc (by decide)) (fun _ => ?_)
    refine VB_iload (q := 73) dL_law_71 7 rfl rfl ?_
    refine VB_if_eq (q := 76) (tgt := 977) dL_law_73 (by decide) (by decide) (fun _ => ?_) (fun hc => absurd hc (by decide))
    refine VB_iload (q := 979) dL_law_977 7 rfl rfl ?_
    exact VB_ret0 dL_law_979 rfl
  refine VB_uif_eq (q := 799) (tgt := 968) dL_law_796 (by decide) ?_ ?_
  · skip
    exact VB_widen (by omega) (by omega) (J968 g793 hg793)
  · skip
    refine VB_iload (q := 801) dL_law_799 8 rfl rfl ?_
    refine VB_iconst (q := 802) dL_law_801 rfl ?_
    refine VB_irem (q := 803) (a := 77) (b := 2) dL_law_802 (by omega) (by decide) (by decide) rfl ?_
    refine VB_top (y := iZ 1) rfl ?_
    refine VB_if_gt (q := 806) (tgt := 833) dL_law_803 (by decide) (by decide) (fun _ => ?_) (fun hc => absurd hc (by decide))
    refine VB_aload_n (q := 834) dL_law_833 1 rfl rfl ?_
    refine VB_aload_n (q := 835) dL_law_834 2 rfl rfl ?_
    refine VB_aload_n (q := 836) dL_law_835 3 rfl rfl ?_
    refine VB_aload (q := 838) dL_law_836 4 rfl rfl ?_
    refine VB_aload (q := 840) dL_law_838 6 rfl rfl ?_
    refine VB_callU (q := 843) dL_law_840 (u_isMissing (a := a) (c := c) (S := S) (b := b) (d := d) (F := F) hI hg793) yv_L_isMissing rfl gL_law_L_isMissing xU_L rfl (Nat.le_of_ble_eq_true rfl) (by decide) ⟨by show _ ≤ 20000; omega, by show _ ≤ 130000; omega⟩ (fun x840 g840 hP840 hg840 => ?_)
    refine VB_lo (lo' := 123) (Nat.le_add_right _ _) ?_
    refine VB_uif_eq (q := 846) (tgt := 968) dL_law_843 (by decide) ?_ ?_
    · skip
      exact VB_widen (by omega) (by omega) (J968 g840 hg840)
    · skip
      refine VB_aload_n (q := 847) dL_law_846 1 rfl rfl ?_
      refine VB_aload_n (q := 848) dL_law_847 2 rfl rfl ?_
      refine VB_aload (q := 850) dL_law_848 6 rfl rfl ?_
      refine VB_iload (q := 852) dL_law_850 10 rfl rfl ?_
      refine VB_aload (q := 854) dL_law_852 6 rfl rfl ?_
      refine VB_iconst (q := 855) dL_law_854 rfl ?_
      refine VB_iald (q := 856) (v := (iZ 4)) dL_law_855 13 12 rfl rfl (0) (by omega) (by omega) (by decide) (hM0) rfl ?_
      refine VB_iconst (q := 857) dL_law_856 rfl ?_
      refine VB_iadd (q := 858) dL_law_857 rfl ?_
      refine VB_top (y := iZ 5) rfl ?_
      refine VB_irem (q := 859) (a := 0) (b := 5) dL_law_858 (by omega) (by decide) (by decide) rfl ?_
      refine VB_top (y := iZ 0) rfl ?_
      refine VB_iload (q := 861) dL_law_859 10 rfl rfl ?_
      refine VB_bipush (q := 863) dL_law_861 (by decide) rfl ?_
      refine VB_idiv (q := 864) (a := 0) (b := 13) dL_law_863 (by omega) (by decide) (by decide) rfl ?_
      refine VB_top (y := iZ 0) rfl ?_
      refine VB_aload (q := 866) dL_law_864 6 rfl rfl ?_
      refine VB_iconst (q := 867) dL_law_866 rfl ?_
      refine VB_iald (q := 868) (v := (iZ 4)) dL_law_867 13 12 rfl rfl (0) (by omega) (by omega) (by decide) (hM0) rfl ?_
      refine VB_iconst (q := 869) dL_law_868 rfl ?_
      refine VB_iadd (q := 870) dL_law_869 rfl ?_
      refine VB_top (y := iZ 5) rfl ?_
      refine VB_irem (q := 871) (a := 0) (b := 5) dL_law_870 (by omega) (by decide) (by decide) rfl ?_
      refine VB_top (y := iZ 0) rfl ?_
      refine VB_iload (q := 873) dL_law_871 10 rfl rfl ?_
      refine VB_sipush (q := 876) dL_law_873 (by decide) rfl ?_
      refine VB_idiv (q := 877) (a := 0) (b := 169) dL_law_876 (by omega) (by decide) (by decide) rfl ?_
      refine VB_top (y := iZ 0) rfl ?_
      refine VB_aload (q := 879) dL_law_877 6 rfl rfl ?_
      refine VB_iconst (q := 880) dL_law_879 rfl ?_
      refine VB_iald (q := 881) (v := (iZ 4)) dL_law_880 13 12 rfl rfl (0) (by omega) (by omega) (by decide) (hM0) rfl ?_
      refine VB_iconst (q := 882) dL_law_881 rfl ?_
      refine VB_iadd (q := 883) dL_law_882 rfl ?_
      refine VB_top (y := iZ 6) rfl ?_
      refine VB_irem (q := 884) (a := 0) (b := 6) dL_law_883 (by omega) (by decide) (by decide) rfl ?_
      refine VB_top (y := iZ 0) rfl ?_
      refine VB_iconst (q := 885) dL_law_884 rfl ?_
      refine VB_isub (q := 886) dL_law_885 rfl ?_
      refine VB_top (y := iZ (-1)) rfl ?_
      refine VB_callU (q := 889) dL_law_886 (u_isWrong (a := a) (c := c) (S := S) (b := b) (d := d) (F := F) hI (wr0 hI (by decide) hK) hg840) yv_L_isWrong rfl gL_law_L_isWrong xU_L rfl (Nat.le_of_ble_eq_true rfl) (by decide) ⟨by show _ ≤ 20000; omega, by show _ ≤ 130000; omega⟩ (fun x886 g886 hP886 hg886 => ?_)
      refine VB_em (x := x886) (fun e886 => VB_lo (lo' := 123) (Nat.le_add_right _ _) (VB_top (y := iZ 0) e886 ?_)) (fun e886 => VB_lo (lo' := 125) (by show 125 ≤ 123 + (if x886 = 0 then 0 else 2); rw [if_neg e886]; omega) ?_)
      · skip
        refine VB_if_eq (q := 892) (tgt := 968) dL_law_889 (by decide) (by decide) (fun _ => ?_) (fun hc => absurd hc (by decide))
        exact VB_widen (by omega) (by omega) (J968 g886 hg886)
      · skip
        refine VB_uif_eq (q := 892) (tgt := 968) dL_law_889 (by decide) ?_ ?_
        · skip
          refine VB_lo (lo' := 123) (by omega) ?_
          exact VB_widen (by omega) (by omega) (J968 g886 hg886)
        · skip
          refine VB_iload (q := 894) dL_law_892 8 rfl rfl ?_
          refine VB_bipush (q := 896) dL_law_894 (by decide) rfl ?_
          refine VB_irem (q := 897) (a := 77) (b := 16) dL_law_896 (by omega) (by decide) (by decide) rfl ?_
          refine VB_top (y := iZ 13) rfl ?_
          refine VB_if_gt (q := 900) (tgt := 943) dL_law_897 (by decide) (by decide) (fun _ => ?_) (fun hc => absurd hc (by decide))
          refine VB_iload (q := 945) dL_law_943 8 rfl rfl ?_
          refine VB_bipush (q := 947) dL_law_945 (by decide) rfl ?_
          refine VB_irem (q := 948) (a := 77) (b := 20) dL_law_947 (by omega) (by decide) (by decide) rfl ?_
          refine VB_top (y := iZ 17) rfl ?_
          refine VB_if_gt (q := 951) (tgt := 964) dL_law_948 (by decide) (by decide) (fun _ => ?_) (fun hc => absurd hc (by decide))
          refine VB_iconst (q := 965) dL_law_964 rfl ?_
          refine VB_goto (tgt := 969) dL_law_965 (by decide) ?_
          refine VB_istore (q := 971) (lv' := [(0, _), (1, _), (2, _), (3, _), (4, _), (5, _), (6, _), (7, _), (8, _), (9, _), (10, _)]) dL_law_969 (by decide) rfl rfl ?_
          refine VB_iinc (q := 974) (y := 78) (lv' := [(0, _), (1, _), (2, _), (3, _), (4, _), (5, _), (6, _), (7, _), (8, _), (9, _), (10, _)]) dL_law_971 8 rfl (by omega) (by decide) rfl rfl ?_
          refine VB_goto (tgt := 64) dL_law_974 (by decide) ?_
          refine VB_loc (lv' := [(0, _), (1, _), (2, _), (3, _), (4, _), (5, _), (6, _), (7, _), (8, _)]) [0, 1, 2, 3, 4, 5, 6, 7, 8] rfl ?_
          refine VB_lo (lo' := 123) (by omega) ?_
          exact VB_widen (by omega) (by omega) (rd78 hL h16 hx S F g886 hI (fun _ => hK) hg886)
set_option maxRecDepth 100000 in
set_option maxHeartbeats 8000000 in
theorem rd77 {s0 L : Nat} {xs : Nat → Int32} {a : Nat → Nat} {c : Nat → ClassId} {b : Nat → Nat} {d : Nat → ClassId} (hL : L ≤ 260) (h16 : 80 ≤ L) (hx : ∀ j, j < 80 → xs j = 31) : ∀ (S : St) (F : Nat → Nat → Int32) (g : Nat → Nat), Iv S F 4 → (0 < 77 → sK S 0 = 0) → (∀ j, g j < 4096) → VB 123 RL cL_law 17 (some .boolean) wsL_law roomB (vXL s0 L xs) (tyl c d) (qF 123) (9822) (58932 + 1250) (wal a c S b d F g) 64 [(0, .ref (s0)), (1, .ref (a 0)), (2, .ref (b 0)), (3, .ref (b 1)), (4, .ref (b 2)), (5, .ref (b 3)), (6, .ref (b 4)), (7, .int (iZ 1)), (8, .int (iZ 77))] [] := by
  intro S F g hI hK hg
  obtain ⟨ho, hn, hm4, hM0, hG, hC⟩ := id hI
  refine VB_iload (q := 66) dL_law_64 8 rfl rfl ?_
  refine VB_bipush (q := 68) dL_law_66 (by decide) rfl ?_
  refine VB_icmp_ge (q := 71) (tgt := 977) dL_law_68 (by decide) (by decide) (by decide) (fun hc => absurd hc (by decide)) (fun _ => ?_)
  refine VB_iload (q := 73) dL_law_71 7 rfl rfl ?_
  refine VB_if_eq (q := 76) (tgt := 977) dL_law_73 (by decide) (by decide) (fun hc => absurd hc (by decide)) (fun _ => ?_)
  refine VB_aload_n (q := 77) dL_law_76 0 rfl rfl ?_
  refine VB_iload (q := 79) dL_law_77 8 rfl rfl ?_
  refine VB_callD (q := 82) dL_law_79 (u_dice (b := s0) (L := L) (xs := xs) 77 (by omega) hL (hx 77 (by omega))) yv_L_dice rfl gL_law_L_dice xL_s rfl (Nat.le_of_ble_eq_true rfl) (by decide) ⟨by show _ ≤ 20000; omega, by show _ ≤ 130000; omega⟩ ?_
  refine VB_istore (q := 84) (lv' := [(0, _), (1, _), (2, _), (3, _), (4, _), (5, _), (6, _), (7, _), (8, _), (9, _)]) dL_law_82 (by decide) rfl rfl ?_
  refine VB_iload (q := 86) dL_law_84 9 rfl rfl ?_
  refine VB_bipush (q := 88) dL_law_86 (by decide) rfl ?_
  refine VB_idiv (q := 89) (a := 31) (b := 32) dL_law_88 (by omega) (by decide) (by decide) rfl ?_
  refine VB_top (y := iZ 0) rfl ?_
  refine VB_istore (q := 91) (lv' := [(0, _), (1, _), (2, _), (3, _), (4, _), (5, _), (6, _), (7, _), (8, _), (9, _), (10, _)]) dL_law_89 (by decide) rfl rfl ?_
  refine VB_iload (q := 93) dL_law_91 9 rfl rfl ?_
  refine VB_bipush (q := 95) dL_law_93 (by decide) rfl ?_
  refine VB_irem (q := 96) (a := 31) (b := 32) dL_law_95 (by omega) (by decide) (by decide) rfl ?_
  refine VB_top (y := iZ 31) rfl ?_
  refine VB_istore (q := 98) (lv' := [(0, _), (1, _), (2, _), (3, _), (4, _), (5, _), (6, _), (7, _), (8, _), (9, _), (10, _), (11, _)]) dL_law_96 (by decide) rfl rfl ?_
  refine VB_aload (q := 100) dL_law_98 6 rfl rfl ?_
  refine VB_iconst (q := 101) dL_law_100 rfl ?_
  refine VB_iald (q := 102) (v := (iZ 4)) dL_law_101 13 12 rfl rfl (0) (by omega) (by omega) (by decide) (hM0) rfl ?_
  refine VB_if_ne (q := 105) (tgt := 109) dL_law_102 (by decide) (by decide) (fun _ => ?_) (fun hc => absurd hc (by decide))
  refine VB_iload (q := 111) dL_law_109 10 rfl rfl ?_
  refine VB_aload (q := 113) dL_law_111 6 rfl rfl ?_
  refine VB_iconst (q := 114) dL_law_113 rfl ?_
  refine VB_iald (q := 115) (v := (iZ 4)) dL_law_114 13 12 rfl rfl (0) (by omega) (by omega) (by decide) (hM0) rfl ?_
  refine VB_irem (q := 116) (a := 0) (b := 4) dL_law_115 (by omega) (by decide) (by decide) rfl ?_
  refine VB_top (y := iZ 0) rfl ?_
  refine VB_istore (q := 118) (lv' := [(0, _), (1, _), (2, _), (3, _), (4, _), (5, _), (6, _), (7, _), (8, _), (9, _), (10, _), (11, _), (12, _)]) dL_law_116 (by decide) rfl rfl ?_
  refine VB_aload (q := 120) dL_law_118 6 rfl rfl ?_
  refine VB_iconst (q := 121) dL_law_120 rfl ?_
  refine VB_iald (q := 122) (v := (iZ 4)) dL_law_121 13 12 rfl rfl (0) (by omega) (by omega) (by decide) (hM0) rfl ?_
  refine VB_iconst (q := 123) dL_law_122 rfl ?_
  refine VB_icmp_lt (q := 126) (tgt := 141) dL_law_123 (by decide) (by decide) (by decide) (fun hc => absurd hc (by decide)) (fun _ => ?_)
  refine VB_iload (q := 128) dL_law_126 11 rfl rfl ?_
  refine VB_iconst (q := 129) dL_law_128 rfl ?_
  refine VB_icmp_ge (q := 132) (tgt := 326) dL_law_129 (by decide) (by decide) (by decide) (fun _ => ?_) (fun hc => absurd hc (by decide))
  refine VB_iload (q := 328) dL_law_326 11 rfl rfl ?_
  refine VB_bipush (q := 330) dL_law_328 (by decide) rfl ?_
  refine VB_icmp_ge (q := 333) (tgt := 451) dL_law_330 (by decide) (by decide) (by decide) (fun _ => ?_) (fun hc => absurd hc (by decide))
  refine VB_iload (q := 453) dL_law_451 11 rfl rfl ?_
  refine VB_bipush (q := 455) dL_law_453 (by decide) rfl ?_
  refine VB_icmp_ge (q := 458) (tgt := 603) dL_law_455 (by decide) (by decide) (by decide) (fun _ => ?_) (fun hc => absurd hc (by decide))
  refine VB_iload (q := 605) dL_law_603 11 rfl rfl ?_
  refine VB_bipush (q := 607) dL_law_605 (by decide) rfl ?_
  refine VB_icmp_ge (q := 610) (tgt := 633) dL_law_607 (by decide) (by decide) (by decide) (fun _ => ?_) (fun hc => absurd hc (by decide))
  refine VB_iload (q := 635) dL_law_633 11 rfl rfl ?_
  refine VB_bipush (q := 637) dL_law_635 (by decide) rfl ?_
  refine VB_icmp_ge (q := 640) (tgt := 677) dL_law_637 (by decide) (by decide) (by decide) (fun _ => ?_) (fun hc => absurd hc (by decide))
  refine VB_iload (q := 679) dL_law_677 11 rfl rfl ?_
  refine VB_bipush (q := 681) dL_law_679 (by decide) rfl ?_
  refine VB_icmp_ne (q := 684) (tgt := 783) dL_law_681 (by decide) (by decide) (by decide) (fun _ => ?_) (fun hc => absurd hc (by decide))
  refine VB_loc (lv' := [(0, _), (1, _), (2, _), (3, _), (4, _), (5, _), (6, _), (7, _), (8, _), (9, _), (10, _)]) [0, 1, 2, 3, 4, 5, 6, 7, 8, 9, 10] rfl ?_
  exact VB_widen (by omega) (by omega) (ck77 hL h16 hx S F g hI (hK (by decide)) hg)
set_option maxRecDepth 100000 in
set_option maxHeartbeats 8000000 in
theorem ck76 {s0 L : Nat} {xs : Nat → Int32} {a : Nat → Nat} {c : Nat → ClassId} {b : Nat → Nat} {d : Nat → ClassId} (hL : L ≤ 260) (h16 : 80 ≤ L) (hx : ∀ j, j < 80 → xs j = 31) : ∀ (S : St) (F : Nat → Nat → Int32) (g : Nat → Nat), Iv S F 4 → sK S 0 = 0 → (∀ j, g j < 4096) → VB 123 RL cL_law 17 (some .boolean) wsL_law roomB (vXL s0 L xs) (tyl c d) (qF 123) (9602) (57612 + 1250) (wal a c S b d F g) 783 [(0, .ref (s0)), (1, .ref (a 0)), (2, .ref (b 0)), (3, .ref (b 1)), (4, .ref (b 2)), (5, .ref (b 3)), (6, .ref (b 4)), (7, .int (iZ 1)), (8, .int (iZ 76)), (9, .int (iZ 31)), (10, .int (iZ 0))] [] := by
  intro S F g hI hK hg
  obtain ⟨ho, hn, hm4, hM0, hG, hC⟩ := id hI
  refine VB_iload (q := 785) dL_law_783 7 rfl rfl ?_
  refine VB_if_eq (q := 788) (tgt := 968) dL_law_785 (by decide) (by decide) (fun hc => absurd hc (by decide)) (fun _ => ?_)
  refine VB_aload_n (q := 789) dL_law_788 1 rfl rfl ?_
  refine VB_aload_n (q := 790) dL_law_789 2 rfl rfl ?_
  refine VB_aload_n (q := 791) dL_law_790 3 rfl rfl ?_
  refine VB_aload (q := 793) dL_law_791 6 rfl rfl ?_
  refine VB_callU (q := 796) dL_law_793 (u_areThings (a := a) (c := c) (S := S) (b := b) (d := d) (F := F) hI hg) yv_L_areThings rfl gL_law_L_areThings xU_L rfl (Nat.le_of_ble_eq_true rfl) (by decide) ⟨by show _ ≤ 20000; omega, by show _ ≤ 130000; omega⟩ (fun x793 g793 hP793 hg793 => ?_)
  refine VB_lo (lo' := 123) (Nat.le_add_right _ _) ?_
  have J968 : ∀ (gj968 : Nat → Nat), (∀ j, gj968 j < 4096) → VB 123 RL cL_law 17 (some .boolean) wsL_law roomB (vXL s0 L xs) (tyl c d) (qF 123) (9822) (58932 + 1250) (wal a c S b d F gj968) 968 [(0, .ref (s0)), (1, .ref (a 0)), (2, .ref (b 0)), (3, .ref (b 1)), (4, .ref (b 2)), (5, .ref (b 3)), (6, .ref (b 4)), (7, .int (iZ 1)), (8, .int (iZ 76)), (9, .int (iZ 31)), (10, .int (iZ 0))] [] := by
    intro gj968 hgj968
    refine VB_iconst (q := 969) dL_law_968 rfl ?_
    refine VB_istore (q := 971) (lv' := [(0, _), (1, _), (2, _), (3, _), (4, _), (5, _), (6, _), (7, _), (8, _), (9, _), (10, _)]) dL_law_969 (by decide) rfl rfl ?_
    refine VB_iinc (q := 974) (y := 77) (lv' := [(0, _), (1, _), (2, _), (3, _), (4, _), (5, _), (6, _), (7, _), (8, _), (9, _), (10, _)]) dL_law_971 8 rfl (by omega) (by decide) rfl rfl ?_
    refine VB_goto (tgt := 64) dL_law_974 (by decide) ?_
    refine VB_iload (q := 66) dL_law_64 8 rfl rfl ?_
    refine VB_bipush (q := 68) dL_law_66 (by decide) rfl ?_
    refine VB_icmp_ge (q := 71) (tgt := 977) dL_law_68 (by decide) (by decide) (by decide) (fun hc => absurd hc (by decide)) (fun _ => ?_)
    refine VB_iload (q := 73) dL_law_71 7 rfl rfl ?_
    refine VB_if_eq (q := 76) (tgt := 977) dL_law_73 (by decide) (by decide) (fun _ => ?_) (fun hc => absurd hc (by decide))
    refine VB_iload (q := 979) dL_law_977 7 rfl rfl ?_
    exact VB_ret0 dL_law_979 rfl
  refine VB_uif_eq (q := 799) (tgt := 968) dL_law_796 (by decide) ?_ ?_
  · skip
    exact VB_widen (by omega) (by omega) (J968 g793 hg793)
  · skip
    refine VB_iload (q := 801) dL_law_799 8 rfl rfl ?_
    refine VB_iconst (q := 802) dL_law_801 rfl ?_
    refine VB_irem (q := 803) (a := 76) (b := 2) dL_law_802 (by omega) (by decide) (by decide) rfl ?_
    refine VB_top (y := iZ 0) rfl ?_
    refine VB_if_gt (q := 806) (tgt := 833) dL_law_803 (by decide) (by decide) (fun hc => absurd hc (by decide)) (fun _ => ?_)
    refine VB_aload_n (q := 807) dL_law_806 1 rfl rfl ?_
    refine VB_aload_n (q := 808) dL_law_807 2 rfl rfl ?_
    refine VB_aload_n (q := 809) dL_law_808 3 rfl rfl ?_
    refine VB_aload (q := 811) dL_law_809 4 rfl rfl ?_
    refine VB_aload (q := 813) dL_law_811 6 rfl rfl ?_
    refine VB_iload (q := 815) dL_law_813 10 rfl rfl ?_
    refine VB_bipush (q := 817) dL_law_815 (by decide) rfl ?_
    refine VB_irem (q := 818) (a := 0) (b := 31) dL_law_817 (by omega) (by decide) (by decide) rfl ?_
    refine VB_top (y := iZ 0) rfl ?_
    refine VB_iload (q := 820) dL_law_818 10 rfl rfl ?_
    refine VB_bipush (q := 822) dL_law_820 (by decide) rfl ?_
    refine VB_idiv (q := 823) (a := 0) (b := 31) dL_law_822 (by omega) (by decide) (by decide) rfl ?_
    refine VB_top (y := iZ 0) rfl ?_
    refine VB_sipush (q := 826) dL_law_823 (by decide) rfl ?_
    refine VB_irem (q := 827) (a := 0) (b := 256) dL_law_826 (by omega) (by decide) (by decide) rfl ?_
    refine VB_top (y := iZ 0) rfl ?_
    refine VB_callU (q := 830) dL_law_827 (u_areOutfits (a := a) (c := c) (S := S) (b := b) (d := d) (F := F) hI hg793) yv_L_areOutfits rfl gL_law_L_areOutfits xU_L rfl (Nat.le_of_ble_eq_true rfl) (by decide) ⟨by show _ ≤ 20000; omega, by show _ ≤ 130000; omega⟩ (fun x827 g827 hP827 hg827 => ?_)
    refine VB_lo (lo' := 123) (Nat.le_add_right _ _) ?_
    refine VB_uif_eq (q := 833) (tgt := 968) dL_law_830 (by decide) ?_ ?_
    · skip
      exact VB_widen (by omega) (by omega) (J968 g827 hg827)
    · skip
      refine VB_aload_n (q := 834) dL_law_833 1 rfl rfl ?_
      refine VB_aload_n (q := 835) dL_law_834 2 rfl rfl ?_
      refine VB_aload_n (q := 836) dL_law_835 3 rfl rfl ?_
      refine VB_aload (q := 838) dL_law_836 4 rfl rfl ?_
      refine VB_aload (q := 840) dL_law_838 6 rfl rfl ?_
      refine VB_callU (q := 843) dL_law_840 (u_isMissing (a := a) (c := c) (S := S) (b := b) (d := d) (F := F) hI hg827) yv_L_isMissing rfl gL_law_L_isMissing xU_L rfl (Nat.le_of_ble_eq_true rfl) (by decide) ⟨by show _ ≤ 20000; omega, by show _ ≤ 130000; omega⟩ (fun x840 g840 hP840 hg840 => ?_)
      refine VB_lo (lo' := 123) (Nat.le_add_right _ _) ?_
      refine VB_uif_eq (q := 846) (tgt := 968) dL_law_843 (by decide) ?_ ?_
      · skip
        exact VB_widen (by omega) (by omega) (J968 g840 hg840)
      · skip
        refine VB_aload_n (q := 847) dL_law_846 1 rfl rfl ?_
        refine VB_aload_n (q := 848) dL_law_847 2 rfl rfl ?_
        refine VB_aload (q := 850) dL_law_848 6 rfl rfl ?_
        refine VB_iload (q := 852) dL_law_850 10 rfl rfl ?_
        refine VB_aload (q := 854) dL_law_852 6 rfl rfl ?_
        refine VB_iconst (q := 855) dL_law_854 rfl ?_
        refine VB_iald (q := 856) (v := (iZ 4)) dL_law_855 13 12 rfl rfl (0) (by omega) (by omega) (by decide) (hM0) rfl ?_
        refine VB_iconst (q := 857) dL_law_856 rfl ?_
        refine VB_iadd (q := 858) dL_law_857 rfl ?_
        refine VB_top (y := iZ 5) rfl ?_
        refine VB_irem (q := 859) (a := 0) (b := 5) dL_law_858 (by omega) (by decide) (by decide) rfl ?_
        refine VB_top (y := iZ 0) rfl ?_
        refine VB_iload (q := 861) dL_law_859 10 rfl rfl ?_
        refine VB_bipush (q := 863) dL_law_861 (by decide) rfl ?_
        refine VB_idiv (q := 864) (a := 0) (b := 13) dL_law_863 (by omega) (by decide) (by decide) rfl ?_
        refine VB_top (y := iZ 0) rfl ?_
        refine VB_aload (q := 866) dL_law_864 6 rfl rfl ?_
        refine VB_iconst (q := 867) dL_law_866 rfl ?_
        refine VB_iald (q := 868) (v := (iZ 4)) dL_law_867 13 12 rfl rfl (0) (by omega) (by omega) (by decide) (hM0) rfl ?_
        refine VB_iconst (q := 869) dL_law_868 rfl ?_
        refine VB_iadd (q := 870) dL_law_869 rfl ?_
        refine VB_top (y := iZ 5) rfl ?_
        refine VB_irem (q := 871) (a := 0) (b := 5) dL_law_870 (by omega) (by decide) (by decide) rfl ?_
        refine VB_top (y := iZ 0) rfl ?_
        refine VB_iload (q := 873) dL_law_871 10 rfl rfl ?_
        refine VB_sipush (q := 876) dL_law_873 (by decide) rfl ?_
        refine VB_idiv (q := 877) (a := 0) (b := 169) dL_law_876 (by omega) (by decide) (by decide) rfl ?_
        refine VB_top (y := iZ 0) rfl ?_
        refine VB_aload (q := 879) dL_law_877 6 rfl rfl ?_
        refine VB_iconst (q := 880) dL_law_879 rfl ?_
        refine VB_iald (q := 881) (v := (iZ 4)) dL_law_880 13 12 rfl rfl (0) (by omega) (by omega) (by decide) (hM0) rfl ?_
        refine VB_iconst (q := 882) dL_law_881 rfl ?_
        refine VB_iadd (q := 883) dL_law_882 rfl ?_
        refine VB_top (y := iZ 6) rfl ?_
        refine VB_irem (q := 884) (a := 0) (b := 6) dL_law_883 (by omega) (by decide) (by decide) rfl ?_
        refine VB_top (y := iZ 0) rfl ?_
        refine VB_iconst (q := 885) dL_law_884 rfl ?_
        refine VB_isub (q := 886) dL_law_885 rfl ?_
        refine VB_top (y := iZ (-1)) rfl ?_
        refine VB_callU (q := 889) dL_law_886 (u_isWrong (a := a) (c := c) (S := S) (b := b) (d := d) (F := F) hI (wr0 hI (by decide) hK) hg840) yv_L_isWrong rfl gL_law_L_isWrong xU_L rfl (Nat.le_of_ble_eq_true rfl) (by decide) ⟨by show _ ≤ 20000; omega, by show _ ≤ 130000; omega⟩ (fun x886 g886 hP886 hg886 => ?_)
        refine VB_em (x := x886) (fun e886 => VB_lo (lo' := 123) (Nat.le_add_right _ _) (VB_top (y := iZ 0) e886 ?_)) (fun e886 => VB_lo (lo' := 125) (by show 125 ≤ 123 + (if x886 = 0 then 0 else 2); rw [if_neg e886]; omega) ?_)
        · skip
          refine VB_if_eq (q := 892) (tgt := 968) dL_law_889 (by decide) (by decide) (fun _ => ?_) (fun hc => absurd hc (by decide))
          exact VB_widen (by omega) (by omega) (J968 g886 hg886)
        · skip
          refine VB_uif_eq (q := 892) (tgt := 968) dL_law_889 (by decide) ?_ ?_
          · skip
            refine VB_lo (lo' := 123) (by omega) ?_
            exact VB_widen (by omega) (by omega) (J968 g886 hg886)
          · skip
            refine VB_iload (q := 894) dL_law_892 8 rfl rfl ?_
            refine VB_bipush (q := 896) dL_law_894 (by decide) rfl ?_
            refine VB_irem (q := 897) (a := 76) (b := 16) dL_law_896 (by omega) (by decide) (by decide) rfl ?_
            refine VB_top (y := iZ 12) rfl ?_
            refine VB_if_gt (q := 900) (tgt := 943) dL_law_897 (by decide) (by decide) (fun _ => ?_) (fun hc => absurd hc (by decide))
            refine VB_iload (q := 945) dL_law_943 8 rfl rfl ?_
            refine VB_bipush (q := 947) dL_law_945 (by decide) rfl ?_
            refine VB_irem (q := 948) (a := 76) (b := 20) dL_law_947 (by omega) (by decide) (by decide) rfl ?_
            refine VB_top (y := iZ 16) rfl ?_
            refine VB_if_gt (q := 951) (tgt := 964) dL_law_948 (by decide) (by decide) (fun _ => ?_) (fun hc => absurd hc (by decide))
            refine VB_iconst (q := 965) dL_law_964 rfl ?_
            refine VB_goto (tgt := 969) dL_law_965 (by decide) ?_
            refine VB_istore (q := 971) (lv' := [(0, _), (1, _), (2, _), (3, _), (4, _), (5, _), (6, _), (7, _), (8, _), (9, _), (10, _)]) dL_law_969 (by decide) rfl rfl ?_
            refine VB_iinc (q := 974) (y := 77) (lv' := [(0, _), (1, _), (2, _), (3, _), (4, _), (5, _), (6, _), (7, _), (8, _), (9, _), (10, _)]) dL_law_971 8 rfl (by omega) (by decide) rfl rfl ?_
            refine VB_goto (tgt := 64) dL_law_974 (by decide) ?_
            refine VB_loc (lv' := [(0, _), (1, _), (2, _), (3, _), (4, _), (5, _), (6, _), (7, _), (8, _)]) [0, 1, 2, 3, 4, 5, 6, 7, 8] rfl ?_
            refine VB_lo (lo' := 123) (by omega) ?_
            exact VB_widen (by omega) (by omega) (rd77 hL h16 hx S F g886 hI (fun _ => hK) hg886)
set_option maxRecDepth 100000 in
set_option maxHeartbeats 8000000 in
theorem rd76 {s0 L : Nat} {xs : Nat → Int32} {a : Nat → Nat} {c : Nat → ClassId} {b : Nat → Nat} {d : Nat → ClassId} (hL : L ≤ 260) (h16 : 80 ≤ L) (hx : ∀ j, j < 80 → xs j = 31) : ∀ (S : St) (F : Nat → Nat → Int32) (g : Nat → Nat), Iv S F 4 → (0 < 76 → sK S 0 = 0) → (∀ j, g j < 4096) → VB 123 RL cL_law 17 (some .boolean) wsL_law roomB (vXL s0 L xs) (tyl c d) (qF 123) (9602) (57612 + 1250) (wal a c S b d F g) 64 [(0, .ref (s0)), (1, .ref (a 0)), (2, .ref (b 0)), (3, .ref (b 1)), (4, .ref (b 2)), (5, .ref (b 3)), (6, .ref (b 4)), (7, .int (iZ 1)), (8, .int (iZ 76))] [] := by
  intro S F g hI hK hg
  obtain ⟨ho, hn, hm4, hM0, hG, hC⟩ := id hI
  refine VB_iload (q := 66) dL_law_64 8 rfl rfl ?_
  refine VB_bipush (q := 68) dL_law_66 (by decide) rfl ?_
  refine VB_icmp_ge (q := 71) (tgt := 977) dL_law_68 (by decide) (by decide) (by decide) (fun hc => absurd hc (by decide)) (fun _ => ?_)
  refine VB_iload (q := 73) dL_law_71 7 rfl rfl ?_
  refine VB_if_eq (q := 76) (tgt := 977) dL_law_73 (by decide) (by decide) (fun hc => absurd hc (by decide)) (fun _ => ?_)
  refine VB_aload_n (q := 77) dL_law_76 0 rfl rfl ?_
  refine VB_iload (q := 79) dL_law_77 8 rfl rfl ?_
  refine VB_callD (q := 82) dL_law_79 (u_dice (b := s0) (L := L) (xs := xs) 76 (by omega) hL (hx 76 (by omega))) yv_L_dice rfl gL_law_L_dice xL_s rfl (Nat.le_of_ble_eq_true rfl) (by decide) ⟨by show _ ≤ 20000; omega, by show _ ≤ 130000; omega⟩ ?_
  refine VB_istore (q := 84) (lv' := [(0, _), (1, _), (2, _), (3, _), (4, _), (5, _), (6, _), (7, _), (8, _), (9, _)]) dL_law_82 (by decide) rfl rfl ?_
  refine VB_iload (q := 86) dL_law_84 9 rfl rfl ?_
  refine VB_bipush (q := 88) dL_law_86 (by decide) rfl ?_
  refine VB_idiv (q := 89) (a := 31) (b := 32) dL_law_88 (by omega) (by decide) (by decide) rfl ?_
  refine VB_top (y := iZ 0) rfl ?_
  refine VB_istore (q := 91) (lv' := [(0, _), (1, _), (2, _), (3, _), (4, _), (5, _), (6, _), (7, _), (8, _), (9, _), (10, _)]) dL_law_89 (by decide) rfl rfl ?_
  refine VB_iload (q := 93) dL_law_91 9 rfl rfl ?_
  refine VB_bipush (q := 95) dL_law_93 (by decide) rfl ?_
  refine VB_irem (q := 96) (a := 31) (b := 32) dL_law_95 (by omega) (by decide) (by decide) rfl ?_
  refine VB_top (y := iZ 31) rfl ?_
  refine VB_istore (q := 98) (lv' := [(0, _), (1, _), (2, _), (3, _), (4, _), (5, _), (6, _), (7, _), (8, _), (9, _), (10, _), (11, _)]) dL_law_96 (by decide) rfl rfl ?_
  refine VB_aload (q := 100) dL_law_98 6 rfl rfl ?_
  refine VB_iconst (q := 101) dL_law_100 rfl ?_
  refine VB_iald (q := 102) (v := (iZ 4)) dL_law_101 13 12 rfl rfl (0) (by omega) (by omega) (by decide) (hM0) rfl ?_
  refine VB_if_ne (q := 105) (tgt := 109) dL_law_102 (by decide) (by decide) (fun _ => ?_) (fun hc => absurd hc (by decide))
  refine VB_iload (q := 111) dL_law_109 10 rfl rfl ?_
  refine VB_aload (q := 113) dL_law_111 6 rfl rfl ?_
  refine VB_iconst (q := 114) dL_law_113 rfl ?_
  refine VB_iald (q := 115) (v := (iZ 4)) dL_law_114 13 12 rfl rfl (0) (by omega) (by omega) (by decide) (hM0) rfl ?_
  refine VB_irem (q := 116) (a := 0) (b := 4) dL_law_115 (by omega) (by decide) (by decide) rfl ?_
  refine VB_top (y := iZ 0) rfl ?_
  refine VB_istore (q := 118) (lv' := [(0, _), (1, _), (2, _), (3, _), (4, _), (5, _), (6, _), (7, _), (8, _), (9, _), (10, _), (11, _), (12, _)]) dL_law_116 (by decide) rfl rfl ?_
  refine VB_aload (q := 120) dL_law_118 6 rfl rfl ?_
  refine VB_iconst (q := 121) dL_law_120 rfl ?_
  refine VB_iald (q := 122) (v := (iZ 4)) dL_law_121 13 12 rfl rfl (0) (by omega) (by omega) (by decide) (hM0) rfl ?_
  refine VB_iconst (q := 123) dL_law_122 rfl ?_
  refine VB_icmp_lt (q := 126) (tgt := 141) dL_law_123 (by decide) (by decide) (by decide) (fun hc => absurd hc (by decide)) (fun _ => ?_)
  refine VB_iload (q := 128) dL_law_126 11 rfl rfl ?_
  refine VB_iconst (q := 129) dL_law_128 rfl ?_
  refine VB_icmp_ge (q := 132) (tgt := 326) dL_law_129 (by decide) (by decide) (by decide) (fun _ => ?_) (fun hc => absurd hc (by decide))
  refine VB_iload (q := 328) dL_law_326 11 rfl rfl ?_
  refine VB_bipush (q := 330) dL_law_328 (by decide) rfl ?_
  refine VB_icmp_ge (q := 333) (tgt := 451) dL_law_330 (by decide) (by decide) (by decide) (fun _ => ?_) (fun hc => absurd hc (by decide))
  refine VB_iload (q := 453) dL_law_451 11 rfl rfl ?_
  refine VB_bipush (q := 455) dL_law_453 (by decide) rfl ?_
  refine VB_icmp_ge (q := 458) (tgt := 603) dL_law_455 (by decide) (by decide) (by decide) (fun _ => ?_) (fun hc => absurd hc (by decide))
  refine VB_iload (q := 605) dL_law_603 11 rfl rfl ?_
  refine VB_bipush (q := 607) dL_law_605 (by decide) rfl ?_
  refine VB_icmp_ge (q := 610) (tgt := 633) dL_law_607 (by decide) (by decide) (by decide) (fun _ => ?_) (fun hc => absurd hc (by decide))
  refine VB_iload (q := 635) dL_law_633 11 rfl rfl ?_
  refine VB_bipush (q := 637) dL_law_635 (by decide) rfl ?_
  refine VB_icmp_ge (q := 640) (tgt := 677) dL_law_637 (by decide) (by decide) (by decide) (fun _ => ?_) (fun hc => absurd hc (by decide))
  refine VB_iload (q := 679) dL_law_677 11 rfl rfl ?_
  refine VB_bipush (q := 681) dL_law_679 (by decide) rfl ?_
  refine VB_icmp_ne (q := 684) (tgt := 783) dL_law_681 (by decide) (by decide) (by decide) (fun _ => ?_) (fun hc => absurd hc (by decide))
  refine VB_loc (lv' := [(0, _), (1, _), (2, _), (3, _), (4, _), (5, _), (6, _), (7, _), (8, _), (9, _), (10, _)]) [0, 1, 2, 3, 4, 5, 6, 7, 8, 9, 10] rfl ?_
  exact VB_widen (by omega) (by omega) (ck76 hL h16 hx S F g hI (hK (by decide)) hg)
set_option maxRecDepth 100000 in
set_option maxHeartbeats 8000000 in
theorem ck75 {s0 L : Nat} {xs : Nat → Int32} {a : Nat → Nat} {c : Nat → ClassId} {b : Nat → Nat} {d : Nat → ClassId} (hL : L ≤ 260) (h16 : 80 ≤ L) (hx : ∀ j, j < 80 → xs j = 31) : ∀ (S : St) (F : Nat → Nat → Int32) (g : Nat → Nat), Iv S F 4 → sK S 0 = 0 → (∀ j, g j < 4096) → VB 123 RL cL_law 17 (some .boolean) wsL_law roomB (vXL s0 L xs) (tyl c d) (qF 123) (9582) (57492 + 1250) (wal a c S b d F g) 783 [(0, .ref (s0)), (1, .ref (a 0)), (2, .ref (b 0)), (3, .ref (b 1)), (4, .ref (b 2)), (5, .ref (b 3)), (6, .ref (b 4)), (7, .int (iZ 1)), (8, .int (iZ 75)), (9, .int (iZ 31)), (10, .int (iZ 0))] [] := by
  intro S F g hI hK hg
  obtain ⟨ho, hn, hm4, hM0, hG, hC⟩ := id hI
  refine VB_iload (q := 785) dL_law_783 7 rfl rfl ?_
  refine VB_if_eq (q := 788) (tgt := 968) dL_law_785 (by decide) (by decide) (fun hc => absurd hc (by decide)) (fun _ => ?_)
  refine VB_aload_n (q := 789) dL_law_788 1 rfl rfl ?_
  refine VB_aload_n (q := 790) dL_law_789 2 rfl rfl ?_
  refine VB_aload_n (q := 791) dL_law_790 3 rfl rfl ?_
  refine VB_aload (q := 793) dL_law_791 6 rfl rfl ?_
  refine VB_callU (q := 796) dL_law_793 (u_areThings (a := a) (c := c) (S := S) (b := b) (d := d) (F := F) hI hg) yv_L_areThings rfl gL_law_L_areThings xU_L rfl (Nat.le_of_ble_eq_true rfl) (by decide) ⟨by show _ ≤ 20000; omega, by show _ ≤ 130000; omega⟩ (fun x793 g793 hP793 hg793 => ?_)
  refine VB_lo (lo' := 123) (Nat.le_add_right _ _) ?_
  have J968 : ∀ (gj968 : Nat → Nat), (∀ j, gj968 j < 4096) → VB 123 RL cL_law 17 (some .boolean) wsL_law roomB (vXL s0 L xs) (tyl c d) (qF 123) (9602) (57612 + 1250) (wal a c S b d F gj968) 968 [(0, .ref (s0)), (1, .ref (a 0)), (2, .ref (b 0)), (3, .ref (b 1)), (4, .ref (b 2)), (5, .ref (b 3)), (6, .ref (b 4)), (7, .int (iZ 1)), (8, .int (iZ 75)), (9, .int (iZ 31)), (10, .int (iZ 0))] [] := by
    intro gj968 hgj968
    refine VB_iconst (q := 969) dL_law_968 rfl ?_
    refine VB_istore (q := 971) (lv' := [(0, _), (1, _), (2, _), (3, _), (4, _), (5, _), (6, _), (7, _), (8, _), (9, _), (10, _)]) dL_law_969 (by decide) rfl rfl ?_
    refine VB_iinc (q := 974) (y := 76) (lv' := [(0, _), (1, _), (2, _), (3, _), (4, _), (5, _), (6, _), (7, _), (8, _), (9, _), (10, _)]) dL_law_971 8 rfl (by omega) (by decide) rfl rfl ?_
    refine VB_goto (tgt := 64) dL_law_974 (by decide) ?_
    refine VB_iload (q := 66) dL_law_64 8 rfl rfl ?_
    refine VB_bipush (q := 68) dL_law_66 (by decide) rfl ?_
    refine VB_icmp_ge (q := 71) (tgt := 977) dL_law_68 (by decide) (by decide) (by decide) (fun hc => absurd hc (by decide)) (fun _ => ?_)
    refine VB_iload (q := 73) dL_law_71 7 rfl rfl ?_
    refine VB_if_eq (q := 76) (tgt := 977) dL_law_73 (by decide) (by decide) (fun _ => ?_) (fun hc => absurd hc (by decide))
    refine VB_iload (q := 979) dL_law_977 7 rfl rfl ?_
    exact VB_ret0 dL_law_979 rfl
  refine VB_uif_eq (q := 799) (tgt := 968) dL_law_796 (by decide) ?_ ?_
  · skip
    exact VB_widen (by omega) (by omega) (J968 g793 hg793)
  · skip
    refine VB_iload (q := 801) dL_law_799 8 rfl rfl ?_
    refine VB_iconst (q := 802) dL_law_801 rfl ?_
    refine VB_irem (q := 803) (a := 75) (b := 2) dL_law_802 (by omega) (by decide) (by decide) rfl ?_
    refine VB_top (y := iZ 1) rfl ?_
    refine VB_if_gt (q := 806) (tgt := 833) dL_law_803 (by decide) (by decide) (fun _ => ?_) (fun hc => absurd hc (by decide))
    refine VB_aload_n (q := 834) dL_law_833 1 rfl rfl ?_
    refine VB_aload_n (q := 835) dL_law_834 2 rfl rfl ?_
    refine VB_aload_n (q := 836) dL_law_835 3 rfl rfl ?_
    refine VB_aload (q := 838) dL_law_836 4 rfl rfl ?_
    refine VB_aload (q := 840) dL_law_838 6 rfl rfl ?_
    refine VB_callU (q := 843) dL_law_840 (u_isMissing (a := a) (c := c) (S := S) (b := b) (d := d) (F := F) hI hg793) yv_L_isMissing rfl gL_law_L_isMissing xU_L rfl (Nat.le_of_ble_eq_true rfl) (by decide) ⟨by show _ ≤ 20000; omega, by show _ ≤ 130000; omega⟩ (fun x840 g840 hP840 hg840 => ?_)
    refine VB_lo (lo' := 123) (Nat.le_add_right _ _) ?_
    refine VB_uif_eq (q := 846) (tgt := 968) dL_law_843 (by decide) ?_ ?_
    · skip
      exact VB_widen (by omega) (by omega) (J968 g840 hg840)
    · skip
      refine VB_aload_n (q := 847) dL_law_846 1 rfl rfl ?_
      refine VB_aload_n (q := 848) dL_law_847 2 rfl rfl ?_
      refine VB_aload (q := 850) dL_law_848 6 rfl rfl ?_
      refine VB_iload (q := 852) dL_law_850 10 rfl rfl ?_
      refine VB_aload (q := 854) dL_law_852 6 rfl rfl ?_
      refine VB_iconst (q := 855) dL_law_854 rfl ?_
      refine VB_iald (q := 856) (v := (iZ 4)) dL_law_855 13 12 rfl rfl (0) (by omega) (by omega) (by decide) (hM0) rfl ?_
      refine VB_iconst (q := 857) dL_law_856 rfl ?_
      refine VB_iadd (q := 858) dL_law_857 rfl ?_
      refine VB_top (y := iZ 5) rfl ?_
      refine VB_irem (q := 859) (a := 0) (b := 5) dL_law_858 (by omega) (by decide) (by decide) rfl ?_
      refine VB_top (y := iZ 0) rfl ?_
      refine VB_iload (q := 861) dL_law_859 10 rfl rfl ?_
      refine VB_bipush (q := 863) dL_law_861 (by decide) rfl ?_
      refine VB_idiv (q := 864) (a := 0) (b := 13) dL_law_863 (by omega) (by decide) (by decide) rfl ?_
      refine VB_top (y := iZ 0) rfl ?_
      refine VB_aload (q := 866) dL_law_864 6 rfl rfl ?_
      refine VB_iconst (q := 867) dL_law_866 rfl ?_
      refine VB_iald (q := 868) (v := (iZ 4)) dL_law_867 13 12 rfl rfl (0) (by omega) (by omega) (by decide) (hM0) rfl ?_
      refine VB_iconst (q := 869) dL_law_868 rfl ?_
      refine VB_iadd (q := 870) dL_law_869 rfl ?_
      refine VB_top (y := iZ 5) rfl ?_
      refine VB_irem (q := 871) (a := 0) (b := 5) dL_law_870 (by omega) (by decide) (by decide) rfl ?_
      refine VB_top (y := iZ 0) rfl ?_
      refine VB_iload (q := 873) dL_law_871 10 rfl rfl ?_
      refine VB_sipush (q := 876) dL_law_873 (by decide) rfl ?_
      refine VB_idiv (q := 877) (a := 0) (b := 169) dL_law_876 (by omega) (by decide) (by decide) rfl ?_
      refine VB_top (y := iZ 0) rfl ?_
      refine VB_aload (q := 879) dL_law_877 6 rfl rfl ?_
      refine VB_iconst (q := 880) dL_law_879 rfl ?_
      refine VB_iald (q := 881) (v := (iZ 4)) dL_law_880 13 12 rfl rfl (0) (by omega) (by omega) (by decide) (hM0) rfl ?_
      refine VB_iconst (q := 882) dL_law_881 rfl ?_
      refine VB_iadd (q := 883) dL_law_882 rfl ?_
      refine VB_top (y := iZ 6) rfl ?_
      refine VB_irem (q := 884) (a := 0) (b := 6) dL_law_883 (by omega) (by decide) (by decide) rfl ?_
      refine VB_top (y := iZ 0) rfl ?_
      refine VB_iconst (q := 885) dL_law_884 rfl ?_
      refine VB_isub (q := 886) dL_law_885 rfl ?_
      refine VB_top (y := iZ (-1)) rfl ?_
      refine VB_callU (q := 889) dL_law_886 (u_isWrong (a := a) (c := c) (S := S) (b := b) (d := d) (F := F) hI (wr0 hI (by decide) hK) hg840) yv_L_isWrong rfl gL_law_L_isWrong xU_L rfl (Nat.le_of_ble_eq_true rfl) (by decide) ⟨by show _ ≤ 20000; omega, by show _ ≤ 130000; omega⟩ (fun x886 g886 hP886 hg886 => ?_)
      refine VB_em (x := x886) (fun e886 => VB_lo (lo' := 123) (Nat.le_add_right _ _) (VB_top (y := iZ 0) e886 ?_)) (fun e886 => VB_lo (lo' := 125) (by show 125 ≤ 123 + (if x886 = 0 then 0 else 2); rw [if_neg e886]; omega) ?_)
      · skip
        refine VB_if_eq (q := 892) (tgt := 968) dL_law_889 (by decide) (by decide) (fun _ => ?_) (fun hc => absurd hc (by decide))
        exact VB_widen (by omega) (by omega) (J968 g886 hg886)
      · skip
        refine VB_uif_eq (q := 892) (tgt := 968) dL_law_889 (by decide) ?_ ?_
        · skip
          refine VB_lo (lo' := 123) (by omega) ?_
          exact VB_widen (by omega) (by omega) (J968 g886 hg886)
        · skip
          refine VB_iload (q := 894) dL_law_892 8 rfl rfl ?_
          refine VB_bipush (q := 896) dL_law_894 (by decide) rfl ?_
          refine VB_irem (q := 897) (a := 75) (b := 16) dL_law_896 (by omega) (by decide) (by decide) rfl ?_
          refine VB_top (y := iZ 11) rfl ?_
          refine VB_if_gt (q := 900) (tgt := 943) dL_law_897 (by decide) (by decide) (fun _ => ?_) (fun hc => absurd hc (by decide))
          refine VB_iload (q := 945) dL_law_943 8 rfl rfl ?_
          refine VB_bipush (q := 947) dL_law_945 (by decide) rfl ?_
          refine VB_irem (q := 948) (a := 75) (b := 20) dL_law_947 (by omega) (by decide) (by decide) rfl ?_
          refine VB_top (y := iZ 15) rfl ?_
          refine VB_if_gt (q := 951) (tgt := 964) dL_law_948 (by decide) (by decide) (fun _ => ?_) (fun hc => absurd hc (by decide))
          refine VB_iconst (q := 965) dL_law_964 rfl ?_
          refine VB_goto (tgt := 969) dL_law_965 (by decide) ?_
          refine VB_istore (q := 971) (lv' := [(0, _), (1, _), (2, _), (3, _), (4, _), (5, _), (6, _), (7, _), (8, _), (9, _), (10, _)]) dL_law_969 (by decide) rfl rfl ?_
          refine VB_iinc (q := 974) (y := 76) (lv' := [(0, _), (1, _), (2, _), (3, _), (4, _), (5, _), (6, _), (7, _), (8, _), (9, _), (10, _)]) dL_law_971 8 rfl (by omega) (by decide) rfl rfl ?_
          refine VB_goto (tgt := 64) dL_law_974 (by decide) ?_
          refine VB_loc (lv' := [(0, _), (1, _), (2, _), (3, _), (4, _), (5, _), (6, _), (7, _), (8, _)]) [0, 1, 2, 3, 4, 5, 6, 7, 8] rfl ?_
          refine VB_lo (lo' := 123) (by omega) ?_
          exact VB_widen (by omega) (by omega) (rd76 hL h16 hx S F g886 hI (fun _ => hK) hg886)
set_option maxRecDepth 100000 in
set_option maxHeartbeats 8000000 in
theorem rd75 {s0 L : Nat} {xs : Nat → Int32} {a : Nat → Nat} {c : Nat → ClassId} {b : Nat → Nat} {d : Nat → ClassId} (hL : L ≤ 260) (h16 : 80 ≤ L) (hx : ∀ j, j < 80 → xs j = 31) : ∀ (S : St) (F : Nat → Nat → Int32) (g : Nat → Nat), Iv S F 4 → (0 < 75 → sK S 0 = 0) → (∀ j, g j < 4096) → VB 123 RL cL_law 17 (some .boolean) wsL_law roomB (vXL s0 L xs) (tyl c d) (qF 123) (9582) (57492 + 1250) (wal a c S b d F g) 64 [(0, .ref (s0)), (1, .ref (a 0)), (2, .ref (b 0)), (3, .ref (b 1)), (4, .ref (b 2)), (5, .ref (b 3)), (6, .ref (b 4)), (7, .int (iZ 1)), (8, .int (iZ 75))] [] := by
  intro S F g hI hK hg
  obtain ⟨ho, hn, hm4, hM0, hG, hC⟩ := id hI
  refine VB_iload (q := 66) dL_law_64 8 rfl rfl ?_
  refine VB_bipush (q := 68) dL_law_66 (by decide) rfl ?_
  refine VB_icmp_ge (q := 71) (tgt := 977) dL_law_68 (by decide) (by decide) (by decide) (fun hc => absurd hc (by decide)) (fun _ => ?_)
  refine VB_iload (q := 73) dL_law_71 7 rfl rfl ?_
  refine VB_if_eq (q := 76) (tgt := 977) dL_law_73 (by decide) (by decide) (fun hc => absurd hc (by decide)) (fun _ => ?_)
  refine VB_aload_n (q := 77) dL_law_76 0 rfl rfl ?_
  refine VB_iload (q := 79) dL_law_77 8 rfl rfl ?_
  refine VB_callD (q := 82) dL_law_79 (u_dice (b := s0) (L := L) (xs := xs) 75 (by omega) hL (hx 75 (by omega))) yv_L_dice rfl gL_law_L_dice xL_s rfl (Nat.le_of_ble_eq_true rfl) (by decide) ⟨by show _ ≤ 20000; omega, by show _ ≤ 130000; omega⟩ ?_
  refine VB_istore (q := 84) (lv' := [(0, _), (1, _), (2, _), (3, _), (4, _), (5, _), (6, _), (7, _), (8, _), (9, _)]) dL_law_82 (by decide) rfl rfl ?_
  refine VB_iload (q := 86) dL_law_84 9 rfl rfl ?_
  refine VB_bipush (q := 88) dL_law_86 (by decide) rfl ?_
  refine VB_idiv (q := 89) (a := 31) (b := 32) dL_law_88 (by omega) (by decide) (by decide) rfl ?_
  refine VB_top (y := iZ 0) rfl ?_
  refine VB_istore (q := 91) (lv' := [(0, _), (1, _), (2, _), (3, _), (4, _), (5, _), (6, _), (7, _), (8, _), (9, _), (10, _)]) dL_law_89 (by decide) rfl rfl ?_
  refine VB_iload (q := 93) dL_law_91 9 rfl rfl ?_
  refine VB_bipush (q := 95) dL_law_93 (by decide) rfl ?_
  refine VB_irem (q := 96) (a := 31) (b := 32) dL_law_95 (by omega) (by decide) (by decide) rfl ?_
  refine VB_top (y := iZ 31) rfl ?_
  refine VB_istore (q := 98) (lv' := [(0, _), (1, _), (2, _), (3, _), (4, _), (5, _), (6, _), (7, _), (8, _), (9, _), (10, _), (11, _)]) dL_law_96 (by decide) rfl rfl ?_
  refine VB_aload (q := 100) dL_law_98 6 rfl rfl ?_
  refine VB_iconst (q := 101) dL_law_100 rfl ?_
  refine VB_iald (q := 102) (v := (iZ 4)) dL_law_101 13 12 rfl rfl (0) (by omega) (by omega) (by decide) (hM0) rfl ?_
  refine VB_if_ne (q := 105) (tgt := 109) dL_law_102 (by decide) (by decide) (fun _ => ?_) (fun hc => absurd hc (by decide))
  refine VB_iload (q := 111) dL_law_109 10 rfl rfl ?_
  refine VB_aload (q := 113) dL_law_111 6 rfl rfl ?_
  refine VB_iconst (q := 114) dL_law_113 rfl ?_
  refine VB_iald (q := 115) (v := (iZ 4)) dL_law_114 13 12 rfl rfl (0) (by omega) (by omega) (by decide) (hM0) rfl ?_
  refine VB_irem (q := 116) (a := 0) (b := 4) dL_law_115 (by omega) (by decide) (by decide) rfl ?_
  refine VB_top (y := iZ 0) rfl ?_
  refine VB_istore (q := 118) (lv' := [(0, _), (1, _), (2, _), (3, _), (4, _), (5, _), (6, _), (7, _), (8, _), (9, _), (10, _), (11, _), (12, _)]) dL_law_116 (by decide) rfl rfl ?_
  refine VB_aload (q := 120) dL_law_118 6 rfl rfl ?_
  refine VB_iconst (q := 121) dL_law_120 rfl ?_
  refine VB_iald (q := 122) (v := (iZ 4)) dL_law_121 13 12 rfl rfl (0) (by omega) (by omega) (by decide) (hM0) rfl ?_
  refine VB_iconst (q := 123) dL_law_122 rfl ?_
  refine VB_icmp_lt (q := 126) (tgt := 141) dL_law_123 (by decide) (by decide) (by decide) (fun hc => absurd hc (by decide)) (fun _ => ?_)
  refine VB_iload (q := 128) dL_law_126 11 rfl rfl ?_
  refine VB_iconst (q := 129) dL_law_128 rfl ?_
  refine VB_icmp_ge (q := 132) (tgt := 326) dL_law_129 (by decide) (by decide) (by decide) (fun _ => ?_) (fun hc => absurd hc (by decide))
  refine VB_iload (q := 328) dL_law_326 11 rfl rfl ?_
  refine VB_bipush (q := 330) dL_law_328 (by decide) rfl ?_
  refine VB_icmp_ge (q := 333) (tgt := 451) dL_law_330 (by decide) (by decide) (by decide) (fun _ => ?_) (fun hc => absurd hc (by decide))
  refine VB_iload (q := 453) dL_law_451 11 rfl rfl ?_
  refine VB_bipush (q := 455) dL_law_453 (by decide) rfl ?_
  refine VB_icmp_ge (q := 458) (tgt := 603) dL_law_455 (by decide) (by decide) (by decide) (fun _ => ?_) (fun hc => absurd hc (by decide))
  refine VB_iload (q := 605) dL_law_603 11 rfl rfl ?_
  refine VB_bipush (q := 607) dL_law_605 (by decide) rfl ?_
  refine VB_icmp_ge (q := 610) (tgt := 633) dL_law_607 (by decide) (by decide) (by decide) (fun _ => ?_) (fun hc => absurd hc (by decide))
  refine VB_iload (q := 635) dL_law_633 11 rfl rfl ?_
  refine VB_bipush (q := 637) dL_law_635 (by decide) rfl ?_
  refine VB_icmp_ge (q := 640) (tgt := 677) dL_law_637 (by decide) (by decide) (by decide) (fun _ => ?_) (fun hc => absurd hc (by decide))
  refine VB_iload (q := 679) dL_law_677 11 rfl rfl ?_
  refine VB_bipush (q := 681) dL_law_679 (by decide) rfl ?_
  refine VB_icmp_ne (q := 684) (tgt := 783) dL_law_681 (by decide) (by decide) (by decide) (fun _ => ?_) (fun hc => absurd hc (by decide))
  refine VB_loc (lv' := [(0, _), (1, _), (2, _), (3, _), (4, _), (5, _), (6, _), (7, _), (8, _), (9, _), (10, _)]) [0, 1, 2, 3, 4, 5, 6, 7, 8, 9, 10] rfl ?_
  exact VB_widen (by omega) (by omega) (ck75 hL h16 hx S F g hI (hK (by decide)) hg)
set_option maxRecDepth 100000 in
set_option maxHeartbeats 8000000 in
theorem ck74 {s0 L : Nat} {xs : Nat → Int32} {a : Nat → Nat} {c : Nat → ClassId} {b : Nat → Nat} {d : Nat → ClassId} (hL : L ≤ 260) (h16 : 80 ≤ L) (hx : ∀ j, j < 80 → xs j = 31) : ∀ (S : St) (F : Nat → Nat → Int32) (g : Nat → Nat), Iv S F 4 → sK S 0 = 0 → (∀ j, g j < 4096) → VB 123 RL cL_law 17 (some .boolean) wsL_law roomB (vXL s0 L xs) (tyl c d) (qF 123) (9362) (56172 + 1250) (wal a c S b d F g) 783 [(0, .ref (s0)), (1, .ref (a 0)), (2, .ref (b 0)), (3, .ref (b 1)), (4, .ref (b 2)), (5, .ref (b 3)), (6, .ref (b 4)), (7, .int (iZ 1)), (8, .int (iZ 74)), (9, .int (iZ 31)), (10, .int (iZ 0))] [] := by
  intro S F g hI hK hg
  obtain ⟨ho, hn, hm4, hM0, hG, hC⟩ := id hI
  refine VB_iload (q := 785) dL_law_783 7 rfl rfl ?_
  refine VB_if_eq (q := 788) (tgt := 968) dL_law_785 (by decide) (by decide) (fun hc => absurd hc (by decide)) (fun _ => ?_)
  refine VB_aload_n (q := 789) dL_law_788 1 rfl rfl ?_
  refine VB_aload_n (q := 790) dL_law_789 2 rfl rfl ?_
  refine VB_aload_n (q := 791) dL_law_790 3 rfl rfl ?_
  refine VB_aload (q := 793) dL_law_791 6 rfl rfl ?_
  refine VB_callU (q := 796) dL_law_793 (u_areThings (a := a) (c := c) (S := S) (b := b) (d := d) (F := F) hI hg) yv_L_areThings rfl gL_law_L_areThings xU_L rfl (Nat.le_of_ble_eq_true rfl) (by decide) ⟨by show _ ≤ 20000; omega, by show _ ≤ 130000; omega⟩ (fun x793 g793 hP793 hg793 => ?_)
  refine VB_lo (lo' := 123) (Nat.le_add_right _ _) ?_
  have J968 : ∀ (gj968 : Nat → Nat), (∀ j, gj968 j < 4096) → VB 123 RL cL_law 17 (some .boolean) wsL_law roomB (vXL s0 L xs) (tyl c d) (qF 123) (9582) (57492 + 1250) (wal a c S b d F gj968) 968 [(0, .ref (s0)), (1, .ref (a 0)), (2, .ref (b 0)), (3, .ref (b 1)), (4, .ref (b 2)), (5, .ref (b 3)), (6, .ref (b 4)), (7, .int (iZ 1)), (8, .int (iZ 74)), (9, .int (iZ 31)), (10, .int (iZ 0))] [] := by
    intro gj968 hgj968
    refine VB_iconst (q := 969) dL_law_968 rfl ?_
    refine VB_istore (q := 971) (lv' := [(0, _), (1, _), (2, _), (3, _), (4, _), (5, _), (6, _), (7, _), (8, _), (9, _), (10, _)]) dL_law_969 (by decide) rfl rfl ?_
    refine VB_iinc (q := 974) (y := 75) (lv' := [(0, _), (1, _), (2, _), (3, _), (4, _), (5, _), (6, _), (7, _), (8, _), (9, _), (10, _)]) dL_law_971 8 rfl (by omega) (by decide) rfl rfl ?_
    refine VB_goto (tgt := 64) dL_law_974 (by decide) ?_
    refine VB_iload (q := 66) dL_law_64 8 rfl rfl ?_
    refine VB_bipush (q := 68) dL_law_66 (by decide) rfl ?_
    refine VB_icmp_ge (q := 71) (tgt := 977) dL_law_68 (by decide) (by decide) (by decide) (fun hc => absurd hc (by decide)) (fun _ => ?_)
    refine VB_iload (q := 73) dL_law_71 7 rfl rfl ?_
    refine VB_if_eq (q := 76) (tgt := 977) dL_law_73 (by decide) (by decide) (fun _ => ?_) (fun hc => absurd hc (by decide))
    refine VB_iload (q := 979) dL_law_977 7 rfl rfl ?_
    exact VB_ret0 dL_law_979 rfl
  refine VB_uif_eq (q := 799) (tgt := 968) dL_law_796 (by decide) ?_ ?_
  · skip
    exact VB_widen (by omega) (by omega) (J968 g793 hg793)
  · skip
    refine VB_iload (q := 801) dL_law_799 8 rfl rfl ?_
    refine VB_iconst (q := 802) dL_law_801 rfl ?_
    refine VB_irem (q := 803) (a := 74) (b := 2) dL_law_802 (by omega) (by decide) (by decide) rfl ?_
    refine VB_top (y := iZ 0) rfl ?_
    refine VB_if_gt (q := 806) (tgt := 833) dL_law_803 (by decide) (by decide) (fun hc => absurd hc (by decide)) (fun _ => ?_)
    refine VB_aload_n (q := 807) dL_law_806 1 rfl rfl ?_
    refine VB_aload_n (q := 808) dL_law_807 2 rfl rfl ?_
    refine VB_aload_n (q := 809) dL_law_808 3 rfl rfl ?_
    refine VB_aload (q := 811) dL_law_809 4 rfl rfl ?_
    refine VB_aload (q := 813) dL_law_811 6 rfl rfl ?_
    refine VB_iload (q := 815) dL_law_813 10 rfl rfl ?_
    refine VB_bipush (q := 817) dL_law_815 (by decide) rfl ?_
    refine VB_irem (q := 818) (a := 0) (b := 31) dL_law_817 (by omega) (by decide) (by decide) rfl ?_
    refine VB_top (y := iZ 0) rfl ?_
    refine VB_iload (q := 820) dL_law_818 10 rfl rfl ?_
    refine VB_bipush (q := 822) dL_law_820 (by decide) rfl ?_
    refine VB_idiv (q := 823) (a := 0) (b := 31) dL_law_822 (by omega) (by decide) (by decide) rfl ?_
    refine VB_top (y := iZ 0) rfl ?_
    refine VB_sipush (q := 826) dL_law_823 (by decide) rfl ?_
    refine VB_irem (q := 827) (a := 0) (b := 256) dL_law_826 (by omega) (by decide) (by decide) rfl ?_
    refine VB_top (y := iZ 0) rfl ?_
    refine VB_callU (q := 830) dL_law_827 (u_areOutfits (a := a) (c := c) (S := S) (b := b) (d := d) (F := F) hI hg793) yv_L_areOutfits rfl gL_law_L_areOutfits xU_L rfl (Nat.le_of_ble_eq_true rfl) (by decide) ⟨by show _ ≤ 20000; omega, by show _ ≤ 130000; omega⟩ (fun x827 g827 hP827 hg827 => ?_)
    refine VB_lo (lo' := 123) (Nat.le_add_right _ _) ?_
    refine VB_uif_eq (q := 833) (tgt := 968) dL_law_830 (by decide) ?_ ?_
    · skip
      exact VB_widen (by omega) (by omega) (J968 g827 hg827)
    · skip
      refine VB_aload_n (q := 834) dL_law_833 1 rfl rfl ?_
      refine VB_aload_n (q := 835) dL_law_834 2 rfl rfl ?_
      refine VB_aload_n (q := 836) dL_law_835 3 rfl rfl ?_
      refine VB_aload (q := 838) dL_law_836 4 rfl rfl ?_
      refine VB_aload (q := 840) dL_law_838 6 rfl rfl ?_
      refine VB_callU (q := 843) dL_law_840 (u_isMissing (a := a) (c := c) (S := S) (b := b) (d := d) (F := F) hI hg827) yv_L_isMissing rfl gL_law_L_isMissing xU_L rfl (Nat.le_of_ble_eq_true rfl) (by decide) ⟨by show _ ≤ 20000; omega, by show _ ≤ 130000; omega⟩ (fun x840 g840 hP840 hg840 => ?_)
      refine VB_lo (lo' := 123) (Nat.le_add_right _ _) ?_
      refine VB_uif_eq (q := 846) (tgt := 968) dL_law_843 (by decide) ?_ ?_
      · skip
        exact VB_widen (by omega) (by omega) (J968 g840 hg840)
      · skip
        refine VB_aload_n (q := 847) dL_law_846 1 rfl rfl ?_
        refine VB_aload_n (q := 848) dL_law_847 2 rfl rfl ?_
        refine VB_aload (q := 850) dL_law_848 6 rfl rfl ?_
        refine VB_iload (q := 852) dL_law_850 10 rfl rfl ?_
        refine VB_aload (q := 854) dL_law_852 6 rfl rfl ?_
        refine VB_iconst (q := 855) dL_law_854 rfl ?_
        refine VB_iald (q := 856) (v := (iZ 4)) dL_law_855 13 12 rfl rfl (0) (by omega) (by omega) (by decide) (hM0) rfl ?_
        refine VB_iconst (q := 857) dL_law_856 rfl ?_
        refine VB_iadd (q := 858) dL_law_857 rfl ?_
        refine VB_top (y := iZ 5) rfl ?_
        refine VB_irem (q := 859) (a := 0) (b := 5) dL_law_858 (by omega) (by decide) (by decide) rfl ?_
        refine VB_top (y := iZ 0) rfl ?_
        refine VB_iload (q := 861) dL_law_859 10 rfl rfl ?_
        refine VB_bipush (q := 863) dL_law_861 (by decide) rfl ?_
        refine VB_idiv (q := 864) (a := 0) (b := 13) dL_law_863 (by omega) (by decide) (by decide) rfl ?_
        refine VB_top (y := iZ 0) rfl ?_
        refine VB_aload (q := 866) dL_law_864 6 rfl rfl ?_
        refine VB_iconst (q := 867) dL_law_866 rfl ?_
        refine VB_iald (q := 868) (v := (iZ 4)) dL_law_867 13 12 rfl rfl (0) (by omega) (by omega) (by decide) (hM0) rfl ?_
        refine VB_iconst (q := 869) dL_law_868 rfl ?_
        refine VB_iadd (q := 870) dL_law_869 rfl ?_
        refine VB_top (y := iZ 5) rfl ?_
        refine VB_irem (q := 871) (a := 0) (b := 5) dL_law_870 (by omega) (by decide) (by decide) rfl ?_
        refine VB_top (y := iZ 0) rfl ?_
        refine VB_iload (q := 873) dL_law_871 10 rfl rfl ?_
        refine VB_sipush (q := 876) dL_law_873 (by decide) rfl ?_
        refine VB_idiv (q := 877) (a := 0) (b := 169) dL_law_876 (by omega) (by decide) (by decide) rfl ?_
        refine VB_top (y := iZ 0) rfl ?_
        refine VB_aload (q := 879) dL_law_877 6 rfl rfl ?_
        refine VB_iconst (q := 880) dL_law_879 rfl ?_
        refine VB_iald (q := 881) (v := (iZ 4)) dL_law_880 13 12 rfl rfl (0) (by omega) (by omega) (by decide) (hM0) rfl ?_
        refine VB_iconst (q := 882) dL_law_881 rfl ?_
        refine VB_iadd (q := 883) dL_law_882 rfl ?_
        refine VB_top (y := iZ 6) rfl ?_
        refine VB_irem (q := 884) (a := 0) (b := 6) dL_law_883 (by omega) (by decide) (by decide) rfl ?_
        refine VB_top (y := iZ 0) rfl ?_
        refine VB_iconst (q := 885) dL_law_884 rfl ?_
        refine VB_isub (q := 886) dL_law_885 rfl ?_
        refine VB_top (y := iZ (-1)) rfl ?_
        refine VB_callU (q := 889) dL_law_886 (u_isWrong (a := a) (c := c) (S := S) (b := b) (d := d) (F := F) hI (wr0 hI (by decide) hK) hg840) yv_L_isWrong rfl gL_law_L_isWrong xU_L rfl (Nat.le_of_ble_eq_true rfl) (by decide) ⟨by show _ ≤ 20000; omega, by show _ ≤ 130000; omega⟩ (fun x886 g886 hP886 hg886 => ?_)
        refine VB_em (x := x886) (fun e886 => VB_lo (lo' := 123) (Nat.le_add_right _ _) (VB_top (y := iZ 0) e886 ?_)) (fun e886 => VB_lo (lo' := 125) (by show 125 ≤ 123 + (if x886 = 0 then 0 else 2); rw [if_neg e886]; omega) ?_)
        · skip
          refine VB_if_eq (q := 892) (tgt := 968) dL_law_889 (by decide) (by decide) (fun _ => ?_) (fun hc => absurd hc (by decide))
          exact VB_widen (by omega) (by omega) (J968 g886 hg886)
        · skip
          refine VB_uif_eq (q := 892) (tgt := 968) dL_law_889 (by decide) ?_ ?_
          · skip
            refine VB_lo (lo' := 123) (by omega) ?_
            exact VB_widen (by omega) (by omega) (J968 g886 hg886)
          · skip
            refine VB_iload (q := 894) dL_law_892 8 rfl rfl ?_
            refine VB_bipush (q := 896) dL_law_894 (by decide) rfl ?_
            refine VB_irem (q := 897) (a := 74) (b := 16) dL_law_896 (by omega) (by decide) (by decide) rfl ?_
            refine VB_top (y := iZ 10) rfl ?_
            refine VB_if_gt (q := 900) (tgt := 943) dL_law_897 (by decide) (by decide) (fun _ => ?_) (fun hc => absurd hc (by decide))
            refine VB_iload (q := 945) dL_law_943 8 rfl rfl ?_
            refine VB_bipush (q := 947) dL_law_945 (by decide) rfl ?_
            refine VB_irem (q := 948) (a := 74) (b := 20) dL_law_947 (by omega) (by decide) (by decide) rfl ?_
            refine VB_top (y := iZ 14) rfl ?_
            refine VB_if_gt (q := 951) (tgt := 964) dL_law_948 (by decide) (by decide) (fun _ => ?_) (fun hc => absurd hc (by decide))
            refine VB_iconst (q := 965) dL_law_964 rfl ?_
            refine VB_goto (tgt := 969) dL_law_965 (by decide) ?_
            refine VB_istore (q := 971) (lv' := [(0, _), (1, _), (2, _), (3, _), (4, _), (5, _), (6, _), (7, _), (8, _), (9, _), (10, _)]) dL_law_969 (by decide) rfl rfl ?_
            refine VB_iinc (q := 974) (y := 75) (lv' := [(0, _), (1, _), (2, _), (3, _), (4, _), (5, _), (6, _), (7, _), (8, _), (9, _), (10, _)]) dL_law_971 8 rfl (by omega) (by decide) rfl rfl ?_
            refine VB_goto (tgt := 64) dL_law_974 (by decide) ?_
            refine VB_loc (lv' := [(0, _), (1, _), (2, _), (3, _), (4, _), (5, _), (6, _), (7, _), (8, _)]) [0, 1, 2, 3, 4, 5, 6, 7, 8] rfl ?_
            refine VB_lo (lo' := 123) (by omega) ?_
            exact VB_widen (by omega) (by omega) (rd75 hL h16 hx S F g886 hI (fun _ => hK) hg886)
set_option maxRecDepth 100000 in
set_option maxHeartbeats 8000000 in
theorem rd74 {s0 L : Nat} {xs : Nat → Int32} {a : Nat → Nat} {c : Nat → ClassId} {b : Nat → Nat} {d : Nat → ClassId} (hL : L ≤ 260) (h16 : 80 ≤ L) (hx : ∀ j, j < 80 → xs j = 31) : ∀ (S : St) (F : Nat → Nat → Int32) (g : Nat → Nat), Iv S F 4 → (0 < 74 → sK S 0 = 0) → (∀ j, g j < 4096) → VB 123 RL cL_law 17 (some .boolean) wsL_law roomB (vXL s0 L xs) (tyl c d) (qF 123) (9362) (56172 + 1250) (wal a c S b d F g) 64 [(0, .ref (s0)), (1, .ref (a 0)), (2, .ref (b 0)), (3, .ref (b 1)), (4, .ref (b 2)), (5, .ref (b 3)), (6, .ref (b 4)), (7, .int (iZ 1)), (8, .int (iZ 74))] [] := by
  intro S F g hI hK hg
  obtain ⟨ho, hn, hm4, hM0, hG, hC⟩ := id hI
  refine VB_iload (q := 66) dL_law_64 8 rfl rfl ?_
  refine VB_bipush (q := 68) dL_law_66 (by decide) rfl ?_
  refine VB_icmp_ge (q := 71) (tgt := 977) dL_law_68 (by decide) (by decide) (by decide) (fun hc => absurd hc (by decide)) (fun _ => ?_)
  refine VB_iload (q := 73) dL_law_71 7 rfl rfl ?_
  refine VB_if_eq (q := 76) (tgt := 977) dL_law_73 (by decide) (by decide) (fun hc => absurd hc (by decide)) (fun _ => ?_)
  refine VB_aload_n (q := 77) dL_law_76 0 rfl rfl ?_
  refine VB_iload (q := 79) dL_law_77 8 rfl rfl ?_
  refine VB_callD (q := 82) dL_law_79 (u_dice (b := s0) (L := L) (xs := xs) 74 (by omega) hL (hx 74 (by omega))) yv_L_dice rfl gL_law_L_dice xL_s rfl (Nat.le_of_ble_eq_true rfl) (by decide) ⟨by show _ ≤ 20000; omega, by show _ ≤ 130000; omega⟩ ?_
  refine VB_istore (q := 84) (lv' := [(0, _), (1, _), (2, _), (3, _), (4, _), (5, _), (6, _), (7, _), (8, _), (9, _)]) dL_law_82 (by decide) rfl rfl ?_
  refine VB_iload (q := 86) dL_law_84 9 rfl rfl ?_
  refine VB_bipush (q := 88) dL_law_86 (by decide) rfl ?_
  refine VB_idiv (q := 89) (a := 31) (b := 32) dL_law_88 (by omega) (by decide) (by decide) rfl ?_
  refine VB_top (y := iZ 0) rfl ?_
  refine VB_istore (q := 91) (lv' := [(0, _), (1, _), (2, _), (3, _), (4, _), (5, _), (6, _), (7, _), (8, _), (9, _), (10, _)]) dL_law_89 (by decide) rfl rfl ?_
  refine VB_iload (q := 93) dL_law_91 9 rfl rfl ?_
  refine VB_bipush (q := 95) dL_law_93 (by decide) rfl ?_
  refine VB_irem (q := 96) (a := 31) (b := 32) dL_law_95 (by omega) (by decide) (by decide) rfl ?_
  refine VB_top (y := iZ 31) rfl ?_
  refine VB_istore (q := 98) (lv' := [(0, _), (1, _), (2, _), (3, _), (4, _), (5, _), (6, _), (7, _), (8, _), (9, _), (10, _), (11, _)]) dL_law_96 (by decide) rfl rfl ?_
  refine VB_aload (q := 100) dL_law_98 6 rfl rfl ?_
  refine VB_iconst (q := 101) dL_law_100 rfl ?_
  refine VB_iald (q := 102) (v := (iZ 4)) dL_law_101 13 12 rfl rfl (0) (by omega) (by omega) (by decide) (hM0) rfl ?_
  refine VB_if_ne (q := 105) (tgt := 109) dL_law_102 (by decide) (by decide) (fun _ => ?_) (fun hc => absurd hc (by decide))
  refine VB_iload (q := 111) dL_law_109 10 rfl rfl ?_
  refine VB_aload (q := 113) dL_law_111 6 rfl rfl ?_
  refine VB_iconst (q := 114) dL_law_113 rfl ?_
  refine VB_iald (q := 115) (v := (iZ 4)) dL_law_114 13 12 rfl rfl (0) (by omega) (by omega) (by decide) (hM0) rfl ?_
  refine VB_irem (q := 116) (a := 0) (b := 4) dL_law_115 (by omega) (by decide) (by decide) rfl ?_
  refine VB_top (y := iZ 0) rfl ?_
  refine VB_istore (q := 118) (lv' := [(0, _), (1, _), (2, _), (3, _), (4, _), (5, _), (6, _), (7, _), (8, _), (9, _), (10, _), (11, _), (12, _)]) dL_law_116 (by decide) rfl rfl ?_
  refine VB_aload (q := 120) dL_law_118 6 rfl rfl ?_
  refine VB_iconst (q := 121) dL_law_120 rfl ?_
  refine VB_iald (q := 122) (v := (iZ 4)) dL_law_121 13 12 rfl rfl (0) (by omega) (by omega) (by decide) (hM0) rfl ?_
  refine VB_iconst (q := 123) dL_law_122 rfl ?_
  refine VB_icmp_lt (q := 126) (tgt := 141) dL_law_123 (by decide) (by decide) (by decide) (fun hc => absurd hc (by decide)) (fun _ => ?_)
  refine VB_iload (q := 128) dL_law_126 11 rfl rfl ?_
  refine VB_iconst (q := 129) dL_law_128 rfl ?_
  refine VB_icmp_ge (q := 132) (tgt := 326) dL_law_129 (by decide) (by decide) (by decide) (fun _ => ?_) (fun hc => absurd hc (by decide))
  refine VB_iload (q := 328) dL_law_326 11 rfl rfl ?_
  refine VB_bipush (q := 330) dL_law_328 (by decide) rfl ?_
  refine VB_icmp_ge (q := 333) (tgt := 451) dL_law_330 (by decide) (by decide) (by decide) (fun _ => ?_) (fun hc => absurd hc (by decide))
  refine VB_iload (q := 453) dL_law_451 11 rfl rfl ?_
  refine VB_bipush (q := 455) dL_law_453 (by decide) rfl ?_
  refine VB_icmp_ge (q := 458) (tgt := 603) dL_law_455 (by decide) (by decide) (by decide) (fun _ => ?_) (fun hc => absurd hc (by decide))
  refine VB_iload (q := 605) dL_law_603 11 rfl rfl ?_
  refine VB_bipush (q := 607) dL_law_605 (by decide) rfl ?_
  refine VB_icmp_ge (q := 610) (tgt := 633) dL_law_607 (by decide) (by decide) (by decide) (fun _ => ?_) (fun hc => absurd hc (by decide))
  refine VB_iload (q := 635) dL_law_633 11 rfl rfl ?_
  refine VB_bipush (q := 637) dL_law_635 (by decide) rfl ?_
  refine VB_icmp_ge (q := 640) (tgt := 677) dL_law_637 (by decide) (by decide) (by decide) (fun _ => ?_) (fun hc => absurd hc (by decide))
  refine VB_iload (q := 679) dL_law_677 11 rfl rfl ?_
  refine VB_bipush (q := 681) dL_law_679 (by decide) rfl ?_
  refine VB_icmp_ne (q := 684) (tgt := 783) dL_law_681 (by decide) (by decide) (by decide) (fun _ => ?_) (fun hc => absurd hc (by decide))
  refine VB_loc (lv' := [(0, _), (1, _), (2, _), (3, _), (4, _), (5, _), (6, _), (7, _), (8, _), (9, _), (10, _)]) [0, 1, 2, 3, 4, 5, 6, 7, 8, 9, 10] rfl ?_
  exact VB_widen (by omega) (by omega) (ck74 hL h16 hx S F g hI (hK (by decide)) hg)
set_option maxRecDepth 100000 in
set_option maxHeartbeats 8000000 in
theorem ck73 {s0 L : Nat} {xs : Nat → Int32} {a : Nat → Nat} {c : Nat → ClassId} {b : Nat → Nat} {d : Nat → ClassId} (hL : L ≤ 260) (h16 : 80 ≤ L) (hx : ∀ j, j < 80 → xs j = 31) : ∀ (S : St) (F : Nat → Nat → Int32) (g : Nat → Nat), Iv S F 4 → sK S 0 = 0 → (∀ j, g j < 4096) → VB 123 RL cL_law 17 (some .boolean) wsL_law roomB (vXL s0 L xs) (tyl c d) (qF 123) (9342) (56052 + 1250) (wal a c S b d F g) 783 [(0, .ref (s0)), (1, .ref (a 0)), (2, .ref (b 0)), (3, .ref (b 1)), (4, .ref (b 2)), (5, .ref (b 3)), (6, .ref (b 4)), (7, .int (iZ 1)), (8, .int (iZ 73)), (9, .int (iZ 31)), (10, .int (iZ 0))] [] := by
  intro S F g hI hK hg
  obtain ⟨ho, hn, hm4, hM0, hG, hC⟩ := id hI
  refine VB_iload (q := 785) dL_law_783 7 rfl rfl ?_
  refine VB_if_eq (q := 788) (tgt := 968) dL_law_785 (by decide) (by decide) (fun hc => absurd hc (by decide)) (fun _ => ?_)
  refine VB_aload_n (q := 789) dL_law_788 1 rfl rfl ?_
  refine VB_aload_n (q := 790) dL_law_789 2 rfl rfl ?_
  refine VB_aload_n (q := 791) dL_law_790 3 rfl rfl ?_
  refine VB_aload (q := 793) dL_law_791 6 rfl rfl ?_
  refine VB_callU (q := 796) dL_law_793 (u_areThings (a := a) (c := c) (S := S) (b := b) (d := d) (F := F) hI hg) yv_L_areThings rfl gL_law_L_areThings xU_L rfl (Nat.le_of_ble_eq_true rfl) (by decide) ⟨by show _ ≤ 20000; omega, by show _ ≤ 130000; omega⟩ (fun x793 g793 hP793 hg793 => ?_)
  refine VB_lo (lo' := 123) (Nat.le_add_right _ _) ?_
  have J968 : ∀ (gj968 : Nat → Nat), (∀ j, gj968 j < 4096) → VB 123 RL cL_law 17 (some .boolean) wsL_law roomB (vXL s0 L xs) (tyl c d) (qF 123) (9362) (56172 + 1250) (wal a c S b d F gj968) 968 [(0, .ref (s0)), (1, .ref (a 0)), (2, .ref (b 0)), (3, .ref (b 1)), (4, .ref (b 2)), (5, .ref (b 3)), (6, .ref (b 4)), (7, .int (iZ 1)), (8, .int (iZ 73)), (9, .int (iZ 31)), (10, .int (iZ 0))] [] := by
    intro gj968 hgj968
    refine VB_iconst (q := 969) dL_law_968 rfl ?_
    refine VB_istore (q := 971) (lv' := [(0, _), (1, _), (2, _), (3, _), (4, _), (5, _), (6, _), (7, _), (8, _), (9, _), (10, _)]) dL_law_969 (by decide) rfl rfl ?_
    refine VB_iinc (q := 974) (y := 74) (lv' := [(0, _), (1, _), (2, _), (3, _), (4, _), (5, _), (6, _), (7, _), (8, _), (9, _), (10, _)]) dL_law_971 8 rfl (by omega) (by decide) rfl rfl ?_
    refine VB_goto (tgt := 64) dL_law_974 (by decide) ?_
    refine VB_iload (q := 66) dL_law_64 8 rfl rfl ?_
    refine VB_bipush (q := 68) dL_law_66 (by decide) rfl ?_
    refine VB_icmp_ge (q := 71) (tgt := 977) dL_law_68 (by decide) (by decide) (by decide) (fun hc => absurd hc (by decide)) (fun _ => ?_)
    refine VB_iload (q := 73) dL_law_71 7 rfl rfl ?_
    refine VB_if_eq (q := 76) (tgt := 977) dL_law_73 (by decide) (by decide) (fun _ => ?_) (fun hc => absurd hc (by decide))
    refine VB_iload (q := 979) dL_law_977 7 rfl rfl ?_
    exact VB_ret0 dL_law_979 rfl
  refine VB_uif_eq (q := 799) (tgt := 968) dL_law_796 (by decide) ?_ ?_
  · skip
    exact VB_widen (by omega) (by omega) (J968 g793 hg793)
  · skip
    refine VB_iload (q := 801) dL_law_799 8 rfl rfl ?_
    refine VB_iconst (q := 802) dL_law_801 rfl ?_
    refine VB_irem (q := 803) (a := 73) (b := 2) dL_law_802 (by omega) (by decide) (by decide) rfl ?_
    refine VB_top (y := iZ 1) rfl ?_
    refine VB_if_gt (q := 806) (tgt := 833) dL_law_803 (by decide) (by decide) (fun _ => ?_) (fun hc => absurd hc (by decide))
    refine VB_aload_n (q := 834) dL_law_833 1 rfl rfl ?_
    refine VB_aload_n (q := 835) dL_law_834 2 rfl rfl ?_
    refine VB_aload_n (q := 836) dL_law_835 3 rfl rfl ?_
    refine VB_aload (q := 838) dL_law_836 4 rfl rfl ?_
    refine VB_aload (q := 840) dL_law_838 6 rfl rfl ?_
    refine VB_callU (q := 843) dL_law_840 (u_isMissing (a := a) (c := c) (S := S) (b := b) (d := d) (F := F) hI hg793) yv_L_isMissing rfl gL_law_L_isMissing xU_L rfl (Nat.le_of_ble_eq_true rfl) (by decide) ⟨by show _ ≤ 20000; omega, by show _ ≤ 130000; omega⟩ (fun x840 g840 hP840 hg840 => ?_)
    refine VB_lo (lo' := 123) (Nat.le_add_right _ _) ?_
    refine VB_uif_eq (q := 846) (tgt := 968) dL_law_843 (by decide) ?_ ?_
    · skip
      exact VB_widen (by omega) (by omega) (J968 g840 hg840)
    · skip
      refine VB_aload_n (q := 847) dL_law_846 1 rfl rfl ?_
      refine VB_aload_n (q := 848) dL_law_847 2 rfl rfl ?_
      refine VB_aload (q := 850) dL_law_848 6 rfl rfl ?_
      refine VB_iload (q := 852) dL_law_850 10 rfl rfl ?_
      refine VB_aload (q := 854) dL_law_852 6 rfl rfl ?_
      refine VB_iconst (q := 855) dL_law_854 rfl ?_
      refine VB_iald (q := 856) (v := (iZ 4)) dL_law_855 13 12 rfl rfl (0) (by omega) (by omega) (by decide) (hM0) rfl ?_
      refine VB_iconst (q := 857) dL_law_856 rfl ?_
      refine VB_iadd (q := 858) dL_law_857 rfl ?_
      refine VB_top (y := iZ 5) rfl ?_
      refine VB_irem (q := 859) (a := 0) (b := 5) dL_law_858 (by omega) (by decide) (by decide) rfl ?_
      refine VB_top (y := iZ 0) rfl ?_
      refine VB_iload (q := 861) dL_law_859 10 rfl rfl ?_
      refine VB_bipush (q := 863) dL_law_861 (by decide) rfl ?_
      refine VB_idiv (q := 864) (a := 0) (b := 13) dL_law_863 (by omega) (by decide) (by decide) rfl ?_
      refine VB_top (y := iZ 0) rfl ?_
      refine VB_aload (q := 866) dL_law_864 6 rfl rfl ?_
      refine VB_iconst (q := 867) dL_law_866 rfl ?_
      refine VB_iald (q := 868) (v := (iZ 4)) dL_law_867 13 12 rfl rfl (0) (by omega) (by omega) (by decide) (hM0) rfl ?_
      refine VB_iconst (q := 869) dL_law_868 rfl ?_
      refine VB_iadd (q := 870) dL_law_869 rfl ?_
      refine VB_top (y := iZ 5) rfl ?_
      refine VB_irem (q := 871) (a := 0) (b := 5) dL_law_870 (by omega) (by decide) (by decide) rfl ?_
      refine VB_top (y := iZ 0) rfl ?_
      refine VB_iload (q := 873) dL_law_871 10 rfl rfl ?_
      refine VB_sipush (q := 876) dL_law_873 (by decide) rfl ?_
      refine VB_idiv (q := 877) (a := 0) (b := 169) dL_law_876 (by omega) (by decide) (by decide) rfl ?_
      refine VB_top (y := iZ 0) rfl ?_
      refine VB_aload (q := 879) dL_law_877 6 rfl rfl ?_
      refine VB_iconst (q := 880) dL_law_879 rfl ?_
      refine VB_iald (q := 881) (v := (iZ 4)) dL_law_880 13 12 rfl rfl (0) (by omega) (by omega) (by decide) (hM0) rfl ?_
      refine VB_iconst (q := 882) dL_law_881 rfl ?_
      refine VB_iadd (q := 883) dL_law_882 rfl ?_
      refine VB_top (y := iZ 6) rfl ?_
      refine VB_irem (q := 884) (a := 0) (b := 6) dL_law_883 (by omega) (by decide) (by decide) rfl ?_
      refine VB_top (y := iZ 0) rfl ?_
      refine VB_iconst (q := 885) dL_law_884 rfl ?_
      refine VB_isub (q := 886) dL_law_885 rfl ?_
      refine VB_top (y := iZ (-1)) rfl ?_
      refine VB_callU (q := 889) dL_law_886 (u_isWrong (a := a) (c := c) (S := S) (b := b) (d := d) (F := F) hI (wr0 hI (by decide) hK) hg840) yv_L_isWrong rfl gL_law_L_isWrong xU_L rfl (Nat.le_of_ble_eq_true rfl) (by decide) ⟨by show _ ≤ 20000; omega, by show _ ≤ 130000; omega⟩ (fun x886 g886 hP886 hg886 => ?_)
      refine VB_em (x := x886) (fun e886 => VB_lo (lo' := 123) (Nat.le_add_right _ _) (VB_top (y := iZ 0) e886 ?_)) (fun e886 => VB_lo (lo' := 125) (by show 125 ≤ 123 + (if x886 = 0 then 0 else 2); rw [if_neg e886]; omega) ?_)
      · skip
        refine VB_if_eq (q := 892) (tgt := 968) dL_law_889 (by decide) (by decide) (fun _ => ?_) (fun hc => absurd hc (by decide))
        exact VB_widen (by omega) (by omega) (J968 g886 hg886)
      · skip
        refine VB_uif_eq (q := 892) (tgt := 968) dL_law_889 (by decide) ?_ ?_
        · skip
          refine VB_lo (lo' := 123) (by omega) ?_
          exact VB_widen (by omega) (by omega) (J968 g886 hg886)
        · skip
          refine VB_iload (q := 894) dL_law_892 8 rfl rfl ?_
          refine VB_bipush (q := 896) dL_law_894 (by decide) rfl ?_
          refine VB_irem (q := 897) (a := 73) (b := 16) dL_law_896 (by omega) (by decide) (by decide) rfl ?_
          refine VB_top (y := iZ 9) rfl ?_
          refine VB_if_gt (q := 900) (tgt := 943) dL_law_897 (by decide) (by decide) (fun _ => ?_) (fun hc => absurd hc (by decide))
          refine VB_iload (q := 945) dL_law_943 8 rfl rfl ?_
          refine VB_bipush (q := 947) dL_law_945 (by decide) rfl ?_
          refine VB_irem (q := 948) (a := 73) (b := 20) dL_law_947 (by omega) (by decide) (by decide) rfl ?_
          refine VB_top (y := iZ 13) rfl ?_
          refine VB_if_gt (q := 951) (tgt := 964) dL_law_948 (by decide) (by decide) (fun _ => ?_) (fun hc => absurd hc (by decide))
          refine VB_iconst (q := 965) dL_law_964 rfl ?_
          refine VB_goto (tgt := 969) dL_law_965 (by decide) ?_
          refine VB_istore (q := 971) (lv' := [(0, _), (1, _), (2, _), (3, _), (4, _), (5, _), (6, _), (7, _), (8, _), (9, _), (10, _)]) dL_law_969 (by decide) rfl rfl ?_
          refine VB_iinc (q := 974) (y := 74) (lv' := [(0, _), (1, _), (2, _), (3, _), (4, _), (5, _), (6, _), (7, _), (8, _), (9, _), (10, _)]) dL_law_971 8 rfl (by omega) (by decide) rfl rfl ?_
          refine VB_goto (tgt := 64) dL_law_974 (by decide) ?_
          refine VB_loc (lv' := [(0, _), (1, _), (2, _), (3, _), (4, _), (5, _), (6, _), (7, _), (8, _)]) [0, 1, 2, 3, 4, 5, 6, 7, 8] rfl ?_
          refine VB_lo (lo' := 123) (by omega) ?_
          exact VB_widen (by omega) (by omega) (rd74 hL h16 hx S F g886 hI (fun _ => hK) hg886)
set_option maxRecDepth 100000 in
set_option maxHeartbeats 8000000 in
theorem rd73 {s0 L : Nat} {xs : Nat → Int32} {a : Nat → Nat} {c : Nat → ClassId} {b : Nat → Nat} {d : Nat → ClassId} (hL : L ≤ 260) (h16 : 80 ≤ L) (hx : ∀ j, j < 80 → xs j = 31) : ∀ (S : St) (F : Nat → Nat → Int32) (g : Nat → Nat), Iv S F 4 → (0 < 73 → sK S 0 = 0) → (∀ j, g j < 4096) → VB 123 RL cL_law 17 (some .boolean) wsL_law roomB (vXL s0 L xs) (tyl c d) (qF 123) (9342) (56052 + 1250) (wal a c S b d F g) 64 [(0, .ref (s0)), (1, .ref (a 0)), (2, .ref (b 0)), (3, .ref (b 1)), (4, .ref (b 2)), (5, .ref (b 3)), (6, .ref (b 4)), (7, .int (iZ 1)), (8, .int (iZ 73))] [] := by
  intro S F g hI hK hg
  obtain ⟨ho, hn, hm4, hM0, hG, hC⟩ := id hI
  refine VB_iload (q := 66) dL_law_64 8 rfl rfl ?_
  refine VB_bipush (q := 68) dL_law_66 (by decide) rfl ?_
  refine VB_icmp_ge (q := 71) (tgt := 977) dL_law_68 (by decide) (by decide) (by decide) (fun hc => absurd hc (by decide)) (fun _ => ?_)
  refine VB_iload (q := 73) dL_law_71 7 rfl rfl ?_
  refine VB_if_eq (q := 76) (tgt := 977) dL_law_73 (by decide) (by decide) (fun hc => absurd hc (by decide)) (fun _ => ?_)
  refine VB_aload_n (q := 77) dL_law_76 0 rfl rfl ?_
  refine VB_iload (q := 79) dL_law_77 8 rfl rfl ?_
  refine VB_callD (q := 82) dL_law_79 (u_dice (b := s0) (L := L) (xs := xs) 73 (by omega) hL (hx 73 (by omega))) yv_L_dice rfl gL_law_L_dice xL_s rfl (Nat.le_of_ble_eq_true rfl) (by decide) ⟨by show _ ≤ 20000; omega, by show _ ≤ 130000; omega⟩ ?_
  refine VB_istore (q := 84) (lv' := [(0, _), (1, _), (2, _), (3, _), (4, _), (5, _), (6, _), (7, _), (8, _), (9, _)]) dL_law_82 (by decide) rfl rfl ?_
  refine VB_iload (q := 86) dL_law_84 9 rfl rfl ?_
  refine VB_bipush (q := 88) dL_law_86 (by decide) rfl ?_
  refine VB_idiv (q := 89) (a := 31) (b := 32) dL_law_88 (by omega) (by decide) (by decide) rfl ?_
  refine VB_top (y := iZ 0) rfl ?_
  refine VB_istore (q := 91) (lv' := [(0, _), (1, _), (2, _), (3, _), (4, _), (5, _), (6, _), (7, _), (8, _), (9, _), (10, _)]) dL_law_89 (by decide) rfl rfl ?_
  refine VB_iload (q := 93) dL_law_91 9 rfl rfl ?_
  refine VB_bipush (q := 95) dL_law_93 (by decide) rfl ?_
  refine VB_irem (q := 96) (a := 31) (b := 32) dL_law_95 (by omega) (by decide) (by decide) rfl ?_
  refine VB_top (y := iZ 31) rfl ?_
  refine VB_istore (q := 98) (lv' := [(0, _), (1, _), (2, _), (3, _), (4, _), (5, _), (6, _), (7, _), (8, _), (9, _), (10, _), (11, _)]) dL_law_96 (by decide) rfl rfl ?_
  refine VB_aload (q := 100) dL_law_98 6 rfl rfl ?_
  refine VB_iconst (q := 101) dL_law_100 rfl ?_
  refine VB_iald (q := 102) (v := (iZ 4)) dL_law_101 13 12 rfl rfl (0) (by omega) (by omega) (by decide) (hM0) rfl ?_
  refine VB_if_ne (q := 105) (tgt := 109) dL_law_102 (by decide) (by decide) (fun _ => ?_) (fun hc => absurd hc (by decide))
  refine VB_iload (q := 111) dL_law_109 10 rfl rfl ?_
  refine VB_aload (q := 113) dL_law_111 6 rfl rfl ?_
  refine VB_iconst (q := 114) dL_law_113 rfl ?_
  refine VB_iald (q := 115) (v := (iZ 4)) dL_law_114 13 12 rfl rfl (0) (by omega) (by omega) (by decide) (hM0) rfl ?_
  refine VB_irem (q := 116) (a := 0) (b := 4) dL_law_115 (by omega) (by decide) (by decide) rfl ?_
  refine VB_top (y := iZ 0) rfl ?_
  refine VB_istore (q := 118) (lv' := [(0, _), (1, _), (2, _), (3, _), (4, _), (5, _), (6, _), (7, _), (8, _), (9, _), (10, _), (11, _), (12, _)]) dL_law_116 (by decide) rfl rfl ?_
  refine VB_aload (q := 120) dL_law_118 6 rfl rfl ?_
  refine VB_iconst (q := 121) dL_law_120 rfl ?_
  refine VB_iald (q := 122) (v := (iZ 4)) dL_law_121 13 12 rfl rfl (0) (by omega) (by omega) (by decide) (hM0) rfl ?_
  refine VB_iconst (q := 123) dL_law_122 rfl ?_
  refine VB_icmp_lt (q := 126) (tgt := 141) dL_law_123 (by decide) (by decide) (by decide) (fun hc => absurd hc (by decide)) (fun _ => ?_)
  refine VB_iload (q := 128) dL_law_126 11 rfl rfl ?_
  refine VB_iconst (q := 129) dL_law_128 rfl ?_
  refine VB_icmp_ge (q := 132) (tgt := 326) dL_law_129 (by decide) (by decide) (by decide) (fun _ => ?_) (fun hc => absurd hc (by decide))
  refine VB_iload (q := 328) dL_law_326 11 rfl rfl ?_
  refine VB_bipush (q := 330) dL_law_328 (by decide) rfl ?_
  refine VB_icmp_ge (q := 333) (tgt := 451) dL_law_330 (by decide) (by decide) (by decide) (fun _ => ?_) (fun hc => absurd hc (by decide))
  refine VB_iload (q := 453) dL_law_451 11 rfl rfl ?_
  refine VB_bipush (q := 455) dL_law_453 (by decide) rfl ?_
  refine VB_icmp_ge (q := 458) (tgt := 603) dL_law_455 (by decide) (by decide) (by decide) (fun _ => ?_) (fun hc => absurd hc (by decide))
  refine VB_iload (q := 605) dL_law_603 11 rfl rfl ?_
  refine VB_bipush (q := 607) dL_law_605 (by decide) rfl ?_
  refine VB_icmp_ge (q := 610) (tgt := 633) dL_law_607 (by decide) (by decide) (by decide) (fun _ => ?_) (fun hc => absurd hc (by decide))
  refine VB_iload (q := 635) dL_law_633 11 rfl rfl ?_
  refine VB_bipush (q := 637) dL_law_635 (by decide) rfl ?_
  refine VB_icmp_ge (q := 640) (tgt := 677) dL_law_637 (by decide) (by decide) (by decide) (fun _ => ?_) (fun hc => absurd hc (by decide))
  refine VB_iload (q := 679) dL_law_677 11 rfl rfl ?_
  refine VB_bipush (q := 681) dL_law_679 (by decide) rfl ?_
  refine VB_icmp_ne (q := 684) (tgt := 783) dL_law_681 (by decide) (by decide) (by decide) (fun _ => ?_) (fun hc => absurd hc (by decide))
  refine VB_loc (lv' := [(0, _), (1, _), (2, _), (3, _), (4, _), (5, _), (6, _), (7, _), (8, _), (9, _), (10, _)]) [0, 1, 2, 3, 4, 5, 6, 7, 8, 9, 10] rfl ?_
  exact VB_widen (by omega) (by omega) (ck73 hL h16 hx S F g hI (hK (by decide)) hg)
set_option maxRecDepth 100000 in
set_option maxHeartbeats 8000000 in
theorem ck72 {s0 L : Nat} {xs : Nat → Int32} {a : Nat → Nat} {c : Nat → ClassId} {b : Nat → Nat} {d : Nat → ClassId} (hL : L ≤ 260) (h16 : 80 ≤ L) (hx : ∀ j, j < 80 → xs j = 31) : ∀ (S : St) (F : Nat → Nat → Int32) (g : Nat → Nat), Iv S F 4 → sK S 0 = 0 → (∀ j, g j < 4096) → VB 123 RL cL_law 17 (some .boolean) wsL_law roomB (vXL s0 L xs) (tyl c d) (qF 123) (9122) (54732 + 1250) (wal a c S b d F g) 783 [(0, .ref (s0)), (1, .ref (a 0)), (2, .ref (b 0)), (3, .ref (b 1)), (4, .ref (b 2)), (5, .ref (b 3)), (6, .ref (b 4)), (7, .int (iZ 1)), (8, .int (iZ 72)), (9, .int (iZ 31)), (10, .int (iZ 0))] [] := by
  intro S F g hI hK hg
  obtain ⟨ho, hn, hm4, hM0, hG, hC⟩ := id hI
  refine VB_iload (q := 785) dL_law_783 7 rfl rfl ?_
  refine VB_if_eq (q := 788) (tgt := 968) dL_law_785 (by decide) (by decide) (fun hc => absurd hc (by decide)) (fun _ => ?_)
  refine VB_aload_n (q := 789) dL_law_788 1 rfl rfl ?_
  refine VB_aload_n (q := 790) dL_law_789 2 rfl rfl ?_
  refine VB_aload_n (q := 791) dL_law_790 3 rfl rfl ?_
  refine VB_aload (q := 793) dL_law_791 6 rfl rfl ?_
  refine VB_callU (q := 796) dL_law_793 (u_areThings (a := a) (c := c) (S := S) (b := b) (d := d) (F := F) hI hg) yv_L_areThings rfl gL_law_L_areThings xU_L rfl (Nat.le_of_ble_eq_true rfl) (by decide) ⟨by show _ ≤ 20000; omega, by show _ ≤ 130000; omega⟩ (fun x793 g793 hP793 hg793 => ?_)
  refine VB_lo (lo' := 123) (Nat.le_add_right _ _) ?_
  have J968 : ∀ (gj968 : Nat → Nat), (∀ j, gj968 j < 4096) → VB 123 RL cL_law 17 (some .boolean) wsL_law roomB (vXL s0 L xs) (tyl c d) (qF 123) (9342) (56052 + 1250) (wal a c S b d F gj968) 968 [(0, .ref (s0)), (1, .ref (a 0)), (2, .ref (b 0)), (3, .ref (b 1)), (4, .ref (b 2)), (5, .ref (b 3)), (6, .ref (b 4)), (7, .int (iZ 1)), (8, .int (iZ 72)), (9, .int (iZ 31)), (10, .int (iZ 0))] [] := by
    intro gj968 hgj968
    refine VB_iconst (q := 969) dL_law_968 rfl ?_
    refine VB_istore (q := 971) (lv' := [(0, _), (1, _), (2, _), (3, _), (4, _), (5, _), (6, _), (7, _), (8, _), (9, _), (10, _)]) dL_law_969 (by decide) rfl rfl ?_
    refine VB_iinc (q := 974) (y := 73) (lv' := [(0, _), (1, _), (2, _), (3, _), (4, _), (5, _), (6, _), (7, _), (8, _), (9, _), (10, _)]) dL_law_971 8 rfl (by omega) (by decide) rfl rfl ?_
    refine VB_goto (tgt := 64) dL_law_974 (by decide) ?_
    refine VB_iload (q := 66) dL_law_64 8 rfl rfl ?_
    refine VB_bipush (q := 68) dL_law_66 (by decide) rfl ?_
    refine VB_icmp_ge (q := 71) (tgt := 977) dL_law_68 (by decide) (by decide) (by decide) (fun hc => absurd hc (by decide)) (fun _ => ?_)
    refine VB_iload (q := 73) dL_law_71 7 rfl rfl ?_
    refine VB_if_eq (q := 76) (tgt := 977) dL_law_73 (by decide) (by decide) (fun _ => ?_) (fun hc => absurd hc (by decide))
    refine VB_iload (q := 979) dL_law_977 7 rfl rfl ?_
    exact VB_ret0 dL_law_979 rfl
  refine VB_uif_eq (q := 799) (tgt := 968) dL_law_796 (by decide) ?_ ?_
  · skip
    exact VB_widen (by omega) (by omega) (J968 g793 hg793)
  · skip
    refine VB_iload (q := 801) dL_law_799 8 rfl rfl ?_
    refine VB_iconst (q := 802) dL_law_801 rfl ?_
    refine VB_irem (q := 803) (a := 72) (b := 2) dL_law_802 (by omega) (by decide) (by decide) rfl ?_
    refine VB_top (y := iZ 0) rfl ?_
    refine VB_if_gt (q := 806) (tgt := 833) dL_law_803 (by decide) (by decide) (fun hc => absurd hc (by decide)) (fun _ => ?_)
    refine VB_aload_n (q := 807) dL_law_806 1 rfl rfl ?_
    refine VB_aload_n (q := 808) dL_law_807 2 rfl rfl ?_
    refine VB_aload_n (q := 809) dL_law_808 3 rfl rfl ?_
    refine VB_aload (q := 811) dL_law_809 4 rfl rfl ?_
    refine VB_aload (q := 813) dL_law_811 6 rfl rfl ?_
    refine VB_iload (q := 815) dL_law_813 10 rfl rfl ?_
    refine VB_bipush (q := 817) dL_law_815 (by decide) rfl ?_
    refine VB_irem (q := 818) (a := 0) (b := 31) dL_law_817 (by omega) (by decide) (by decide) rfl ?_
    refine VB_top (y := iZ 0) rfl ?_
    refine VB_iload (q := 820) dL_law_818 10 rfl rfl ?_
    refine VB_bipush (q := 822) dL_law_820 (by decide) rfl ?_
    refine VB_idiv (q := 823) (a := 0) (b := 31) dL_law_822 (by omega) (by decide) (by decide) rfl ?_
    refine VB_top (y := iZ 0) rfl ?_
    refine VB_sipush (q := 826) dL_law_823 (by decide) rfl ?_
    refine VB_irem (q := 827) (a := 0) (b := 256) dL_law_826 (by omega) (by decide) (by decide) rfl ?_
    refine VB_top (y := iZ 0) rfl ?_
    refine VB_callU (q := 830) dL_law_827 (u_areOutfits (a := a) (c := c) (S := S) (b := b) (d := d) (F := F) hI hg793) yv_L_areOutfits rfl gL_law_L_areOutfits xU_L rfl (Nat.le_of_ble_eq_true rfl) (by decide) ⟨by show _ ≤ 20000; omega, by show _ ≤ 130000; omega⟩ (fun x827 g827 hP827 hg827 => ?_)
    refine VB_lo (lo' := 123) (Nat.le_add_right _ _) ?_
    refine VB_uif_eq (q := 833) (tgt := 968) dL_law_830 (by decide) ?_ ?_
    · skip
      exact VB_widen (by omega) (by omega) (J968 g827 hg827)
    · skip
      refine VB_aload_n (q := 834) dL_law_833 1 rfl rfl ?_
      refine VB_aload_n (q := 835) dL_law_834 2 rfl rfl ?_
      refine VB_aload_n (q := 836) dL_law_835 3 rfl rfl ?_
      refine VB_aload (q := 838) dL_law_836 4 rfl rfl ?_
      refine VB_aload (q := 840) dL_law_838 6 rfl rfl ?_
      refine VB_callU (q := 843) dL_law_840 (u_isMissing (a := a) (c := c) (S := S) (b := b) (d := d) (F := F) hI hg827) yv_L_isMissing rfl gL_law_L_isMissing xU_L rfl (Nat.le_of_ble_eq_true rfl) (by decide) ⟨by show _ ≤ 20000; omega, by show _ ≤ 130000; omega⟩ (fun x840 g840 hP840 hg840 => ?_)
      refine VB_lo (lo' := 123) (Nat.le_add_right _ _) ?_
      refine VB_uif_eq (q := 846) (tgt := 968) dL_law_843 (by decide) ?_ ?_
      · skip
        exact VB_widen (by omega) (by omega) (J968 g840 hg840)
      · skip
        refine VB_aload_n (q := 847) dL_law_846 1 rfl rfl ?_
        refine VB_aload_n (q := 848) dL_law_847 2 rfl rfl ?_
        refine VB_aload (q := 850) dL_law_848 6 rfl rfl ?_
        refine VB_iload (q := 852) dL_law_850 10 rfl rfl ?_
        refine VB_aload (q := 854) dL_law_852 6 rfl rfl ?_
        refine VB_iconst (q := 855) dL_law_854 rfl ?_
        refine VB_iald (q := 856) (v := (iZ 4)) dL_law_855 13 12 rfl rfl (0) (by omega) (by omega) (by decide) (hM0) rfl ?_
        refine VB_iconst (q := 857) dL_law_856 rfl ?_
        refine VB_iadd (q := 858) dL_law_857 rfl ?_
        refine VB_top (y := iZ 5) rfl ?_
        refine VB_irem (q := 859) (a := 0) (b := 5) dL_law_858 (by omega) (by decide) (by decide) rfl ?_
        refine VB_top (y := iZ 0) rfl ?_
        refine VB_iload (q := 861) dL_law_859 10 rfl rfl ?_
        refine VB_bipush (q := 863) dL_law_861 (by decide) rfl ?_
        refine VB_idiv (q := 864) (a := 0) (b := 13) dL_law_863 (by omega) (by decide) (by decide) rfl ?_
        refine VB_top (y := iZ 0) rfl ?_
        refine VB_aload (q := 866) dL_law_864 6 rfl rfl ?_
        refine VB_iconst (q := 867) dL_law_866 rfl ?_
        refine VB_iald (q := 868) (v := (iZ 4)) dL_law_867 13 12 rfl rfl (0) (by omega) (by omega) (by decide) (hM0) rfl ?_
        refine VB_iconst (q := 869) dL_law_868 rfl ?_
        refine VB_iadd (q := 870) dL_law_869 rfl ?_
        refine VB_top (y := iZ 5) rfl ?_
        refine VB_irem (q := 871) (a := 0) (b := 5) dL_law_870 (by omega) (by decide) (by decide) rfl ?_
        refine VB_top (y := iZ 0) rfl ?_
        refine VB_iload (q := 873) dL_law_871 10 rfl rfl ?_
        refine VB_sipush (q := 876) dL_law_873 (by decide) rfl ?_
        refine VB_idiv (q := 877) (a := 0) (b := 169) dL_law_876 (by omega) (by decide) (by decide) rfl ?_
        refine VB_top (y := iZ 0) rfl ?_
        refine VB_aload (q := 879) dL_law_877 6 rfl rfl ?_
        refine VB_iconst (q := 880) dL_law_879 rfl ?_
        refine VB_iald (q := 881) (v := (iZ 4)) dL_law_880 13 12 rfl rfl (0) (by omega) (by omega) (by decide) (hM0) rfl ?_
        refine VB_iconst (q := 882) dL_law_881 rfl ?_
        refine VB_iadd (q := 883) dL_law_882 rfl ?_
        refine VB_top (y := iZ 6) rfl ?_
        refine VB_irem (q := 884) (a := 0) (b := 6) dL_law_883 (by omega) (by decide) (by decide) rfl ?_
        refine VB_top (y := iZ 0) rfl ?_
        refine VB_iconst (q := 885) dL_law_884 rfl ?_
        refine VB_isub (q := 886) dL_law_885 rfl ?_
        refine VB_top (y := iZ (-1)) rfl ?_
        refine VB_callU (q := 889) dL_law_886 (u_isWrong (a := a) (c := c) (S := S) (b := b) (d := d) (F := F) hI (wr0 hI (by decide) hK) hg840) yv_L_isWrong rfl gL_law_L_isWrong xU_L rfl (Nat.le_of_ble_eq_true rfl) (by decide) ⟨by show _ ≤ 20000; omega, by show _ ≤ 130000; omega⟩ (fun x886 g886 hP886 hg886 => ?_)
        refine VB_em (x := x886) (fun e886 => VB_lo (lo' := 123) (Nat.le_add_right _ _) (VB_top (y := iZ 0) e886 ?_)) (fun e886 => VB_lo (lo' := 125) (by show 125 ≤ 123 + (if x886 = 0 then 0 else 2); rw [if_neg e886]; omega) ?_)
        · skip
          refine VB_if_eq (q := 892) (tgt := 968) dL_law_889 (by decide) (by decide) (fun _ => ?_) (fun hc => absurd hc (by decide))
          exact VB_widen (by omega) (by omega) (J968 g886 hg886)
        · skip
          refine VB_uif_eq (q := 892) (tgt := 968) dL_law_889 (by decide) ?_ ?_
          · skip
            refine VB_lo (lo' := 123) (by omega) ?_
            exact VB_widen (by omega) (by omega) (J968 g886 hg886)
          · skip
            refine VB_iload (q := 894) dL_law_892 8 rfl rfl ?_
            refine VB_bipush (q := 896) dL_law_894 (by decide) rfl ?_
            refine VB_irem (q := 897) (a := 72) (b := 16) dL_law_896 (by omega) (by decide) (by decide) rfl ?_
            refine VB_top (y := iZ 8) rfl ?_
            refine VB_if_gt (q := 900) (tgt := 943) dL_law_897 (by decide) (by decide) (fun _ => ?_) (fun hc => absurd hc (by decide))
            refine VB_iload (q := 945) dL_law_943 8 rfl rfl ?_
            refine VB_bipush (q := 947) dL_law_945 (by decide) rfl ?_
            refine VB_irem (q := 948) (a := 72) (b := 20) dL_law_947 (by omega) (by decide) (by decide) rfl ?_
            refine VB_top (y := iZ 12) rfl ?_
            refine VB_if_gt (q := 951) (tgt := 964) dL_law_948 (by decide) (by decide) (fun _ => ?_) (fun hc => absurd hc (by decide))
            refine VB_iconst (q := 965) dL_law_964 rfl ?_
            refine VB_goto (tgt := 969) dL_law_965 (by decide) ?_
            refine VB_istore (q := 971) (lv' := [(0, _), (1, _), (2, _), (3, _), (4, _), (5, _), (6, _), (7, _), (8, _), (9, _), (10, _)]) dL_law_969 (by decide) rfl rfl ?_
            refine VB_iinc (q := 974) (y := 73) (lv' := [(0, _), (1, _), (2, _), (3, _), (4, _), (5, _), (6, _), (7, _), (8, _), (9, _), (10, _)]) dL_law_971 8 rfl (by omega) (by decide) rfl rfl ?_
            refine VB_goto (tgt := 64) dL_law_974 (by decide) ?_
            refine VB_loc (lv' := [(0, _), (1, _), (2, _), (3, _), (4, _), (5, _), (6, _), (7, _), (8, _)]) [0, 1, 2, 3, 4, 5, 6, 7, 8] rfl ?_
            refine VB_lo (lo' := 123) (by omega) ?_
            exact VB_widen (by omega) (by omega) (rd73 hL h16 hx S F g886 hI (fun _ => hK) hg886)
set_option maxRecDepth 100000 in
set_option maxHeartbeats 8000000 in
theorem rd72 {s0 L : Nat} {xs : Nat → Int32} {a : Nat → Nat} {c : Nat → ClassId} {b : Nat → Nat} {d : Nat → ClassId} (hL : L ≤ 260) (h16 : 80 ≤ L) (hx : ∀ j, j < 80 → xs j = 31) : ∀ (S : St) (F : Nat → Nat → Int32) (g : Nat → Nat), Iv S F 4 → (0 < 72 → sK S 0 = 0) → (∀ j, g j < 4096) → VB 123 RL cL_law 17 (some .boolean) wsL_law roomB (vXL s0 L xs) (tyl c d) (qF 123) (9122) (54732 + 1250) (wal a c S b d F g) 64 [(0, .ref (s0)), (1, .ref (a 0)), (2, .ref (b 0)), (3, .ref (b 1)), (4, .ref (b 2)), (5, .ref (b 3)), (6, .ref (b 4)), (7, .int (iZ 1)), (8, .int (iZ 72))] [] := by
  intro S F g hI hK hg
  obtain ⟨ho, hn, hm4, hM0, hG, hC⟩ := id hI
  refine VB_iload (q := 66) dL_law_64 8 rfl rfl ?_
  refine VB_bipush (q := 68) dL_law_66 (by decide) rfl ?_
  refine VB_icmp_ge (q := 71) (tgt := 977) dL_law_68 (by decide) (by decide) (by decide) (fun hc => absurd hc (by decide)) (fun _ => ?_)
  refine VB_iload (q := 73) dL_law_71 7 rfl rfl ?_
  refine VB_if_eq (q := 76) (tgt := 977) dL_law_73 (by decide) (by decide) (fun hc => absurd hc (by decide)) (fun _ => ?_)
  refine VB_aload_n (q := 77) dL_law_76 0 rfl rfl ?_
  refine VB_iload (q := 79) dL_law_77 8 rfl rfl ?_
  refine VB_callD (q := 82) dL_law_79 (u_dice (b := s0) (L := L) (xs := xs) 72 (by omega) hL (hx 72 (by omega))) yv_L_dice rfl gL_law_L_dice xL_s rfl (Nat.le_of_ble_eq_true rfl) (by decide) ⟨by show _ ≤ 20000; omega, by show _ ≤ 130000; omega⟩ ?_
  refine VB_istore (q := 84) (lv' := [(0, _), (1, _), (2, _), (3, _), (4, _), (5, _), (6, _), (7, _), (8, _), (9, _)]) dL_law_82 (by decide) rfl rfl ?_
  refine VB_iload (q := 86) dL_law_84 9 rfl rfl ?_
  refine VB_bipush (q := 88) dL_law_86 (by decide) rfl ?_
  refine VB_idiv (q := 89) (a := 31) (b := 32) dL_law_88 (by omega) (by decide) (by decide) rfl ?_
  refine VB_top (y := iZ 0) rfl ?_
  refine VB_istore (q := 91) (lv' := [(0, _), (1, _), (2, _), (3, _), (4, _), (5, _), (6, _), (7, _), (8, _), (9, _), (10, _)]) dL_law_89 (by decide) rfl rfl ?_
  refine VB_iload (q := 93) dL_law_91 9 rfl rfl ?_
  refine VB_bipush (q := 95) dL_law_93 (by decide) rfl ?_
  refine VB_irem (q := 96) (a := 31) (b := 32) dL_law_95 (by omega) (by decide) (by decide) rfl ?_
  refine VB_top (y := iZ 31) rfl ?_
  refine VB_istore (q := 98) (lv' := [(0, _), (1, _), (2, _), (3, _), (4, _), (5, _), (6, _), (7, _), (8, _), (9, _), (10, _), (11, _)]) dL_law_96 (by decide) rfl rfl ?_
  refine VB_aload (q := 100) dL_law_98 6 rfl rfl ?_
  refine VB_iconst (q := 101) dL_law_100 rfl ?_
  refine VB_iald (q := 102) (v := (iZ 4)) dL_law_101 13 12 rfl rfl (0) (by omega) (by omega) (by decide) (hM0) rfl ?_
  refine VB_if_ne (q := 105) (tgt := 109) dL_law_102 (by decide) (by decide) (fun _ => ?_) (fun hc => absurd hc (by decide))
  refine VB_iload (q := 111) dL_law_109 10 rfl rfl ?_
  refine VB_aload (q := 113) dL_law_111 6 rfl rfl ?_
  refine VB_iconst (q := 114) dL_law_113 rfl ?_
  refine VB_iald (q := 115) (v := (iZ 4)) dL_law_114 13 12 rfl rfl (0) (by omega) (by omega) (by decide) (hM0) rfl ?_
  refine VB_irem (q := 116) (a := 0) (b := 4) dL_law_115 (by omega) (by decide) (by decide) rfl ?_
  refine VB_top (y := iZ 0) rfl ?_
  refine VB_istore (q := 118) (lv' := [(0, _), (1, _), (2, _), (3, _), (4, _), (5, _), (6, _), (7, _), (8, _), (9, _), (10, _), (11, _), (12, _)]) dL_law_116 (by decide) rfl rfl ?_
  refine VB_aload (q := 120) dL_law_118 6 rfl rfl ?_
  refine VB_iconst (q := 121) dL_law_120 rfl ?_
  refine VB_iald (q := 122) (v := (iZ 4)) dL_law_121 13 12 rfl rfl (0) (by omega) (by omega) (by decide) (hM0) rfl ?_
  refine VB_iconst (q := 123) dL_law_122 rfl ?_
  refine VB_icmp_lt (q := 126) (tgt := 141) dL_law_123 (by decide) (by decide) (by decide) (fun hc => absurd hc (by decide)) (fun _ => ?_)
  refine VB_iload (q := 128) dL_law_126 11 rfl rfl ?_
  refine VB_iconst (q := 129) dL_law_128 rfl ?_
  refine VB_icmp_ge (q := 132) (tgt := 326) dL_law_129 (by decide) (by decide) (by decide) (fun _ => ?_) (fun hc => absurd hc (by decide))
  refine VB_iload (q := 328) dL_law_326 11 rfl rfl ?_
  refine VB_bipush (q := 330) dL_law_328 (by decide) rfl ?_
  refine VB_icmp_ge (q := 333) (tgt := 451) dL_law_330 (by decide) (by decide) (by decide) (fun _ => ?_) (fun hc => absurd hc (by decide))
  refine VB_iload (q := 453) dL_law_451 11 rfl rfl ?_
  refine VB_bipush (q := 455) dL_law_453 (by decide) rfl ?_
  refine VB_icmp_ge (q := 458) (tgt := 603) dL_law_455 (by decide) (by decide) (by decide) (fun _ => ?_) (fun hc => absurd hc (by decide))
  refine VB_iload (q := 605) dL_law_603 11 rfl rfl ?_
  refine VB_bipush (q := 607) dL_law_605 (by decide) rfl ?_
  refine VB_icmp_ge (q := 610) (tgt := 633) dL_law_607 (by decide) (by decide) (by decide) (fun _ => ?_) (fun hc => absurd hc (by decide))
  refine VB_iload (q := 635) dL_law_633 11 rfl rfl ?_
  refine VB_bipush (q := 637) dL_law_635 (by decide) rfl ?_
  refine VB_icmp_ge (q := 640) (tgt := 677) dL_law_637 (by decide) (by decide) (by decide) (fun _ => ?_) (fun hc => absurd hc (by decide))
  refine VB_iload (q := 679) dL_law_677 11 rfl rfl ?_
  refine VB_bipush (q := 681) dL_law_679 (by decide) rfl ?_
  refine VB_icmp_ne (q := 684) (tgt := 783) dL_law_681 (by decide) (by decide) (by decide) (fun _ => ?_) (fun hc => absurd hc (by decide))
  refine VB_loc (lv' := [(0, _), (1, _), (2, _), (3, _), (4, _), (5, _), (6, _), (7, _), (8, _), (9, _), (10, _)]) [0, 1, 2, 3, 4, 5, 6, 7, 8, 9, 10] rfl ?_
  exact VB_widen (by omega) (by omega) (ck72 hL h16 hx S F g hI (hK (by decide)) hg)
set_option maxRecDepth 100000 in
set_option maxHeartbeats 8000000 in
theorem ck71 {s0 L : Nat} {xs : Nat → Int32} {a : Nat → Nat} {c : Nat → ClassId} {b : Nat → Nat} {d : Nat → ClassId} (hL : L ≤ 260) (h16 : 80 ≤ L) (hx : ∀ j, j < 80 → xs j = 31) : ∀ (S : St) (F : Nat → Nat → Int32) (g : Nat → Nat), Iv S F 4 → sK S 0 = 0 → (∀ j, g j < 4096) → VB 123 RL cL_law 17 (some .boolean) wsL_law roomB (vXL s0 L xs) (tyl c d) (qF 123) (9102) (54612 + 1250) (wal a c S b d F g) 783 [(0, .ref (s0)), (1, .ref (a 0)), (2, .ref (b 0)), (3, .ref (b 1)), (4, .ref (b 2)), (5, .ref (b 3)), (6, .ref (b 4)), (7, .int (iZ 1)), (8, .int (iZ 71)), (9, .int (iZ 31)), (10, .int (iZ 0))] [] := by
  intro S F g hI hK hg
  obtain ⟨ho, hn, hm4, hM0, hG, hC⟩ := id hI
  refine VB_iload (q := 785) dL_law_783 7 rfl rfl ?_
  refine VB_if_eq (q := 788) (tgt := 968) dL_law_785 (by decide) (by decide) (fun hc => absurd hc (by decide)) (fun _ => ?_)
  refine VB_aload_n (q := 789) dL_law_788 1 rfl rfl ?_
  refine VB_aload_n (q := 790) dL_law_789 2 rfl rfl ?_
  refine VB_aload_n (q := 791) dL_law_790 3 rfl rfl ?_
  refine VB_aload (q := 793) dL_law_791 6 rfl rfl ?_
  refine VB_callU (q := 796) dL_law_793 (u_areThings (a := a) (c := c) (S := S) (b := b) (d := d) (F := F) hI hg) yv_L_areThings rfl gL_law_L_areThings xU_L rfl (Nat.le_of_ble_eq_true rfl) (by decide) ⟨by show _ ≤ 20000; omega, by show _ ≤ 130000; omega⟩ (fun x793 g793 hP793 hg793 => ?_)
  refine VB_lo (lo' := 123) (Nat.le_add_right _ _) ?_
  have J968 : ∀ (gj968 : Nat → Nat), (∀ j, gj968 j < 4096) → VB 123 RL cL_law 17 (some .boolean) wsL_law roomB (vXL s0 L xs) (tyl c d) (qF 123) (9122) (54732 + 1250) (wal a c S b d F gj968) 968 [(0, .ref (s0)), (1, .ref (a 0)), (2, .ref (b 0)), (3, .ref (b 1)), (4, .ref (b 2)), (5, .ref (b 3)), (6, .ref (b 4)), (7, .int (iZ 1)), (8, .int (iZ 71)), (9, .int (iZ 31)), (10, .int (iZ 0))] [] := by
    intro gj968 hgj968
    refine VB_iconst (q := 969) dL_law_968 rfl ?_
    refine VB_istore (q := 971) (lv' := [(0, _), (1, _), (2, _), (3, _), (4, _), (5, _), (6, _), (7, _), (8, _), (9, _), (10, _)]) dL_law_969 (by decide) rfl rfl ?_
    refine VB_iinc (q := 974) (y := 72) (lv' := [(0, _), (1, _), (2, _), (3, _), (4, _), (5, _), (6, _), (7, _), (8, _), (9, _), (10, _)]) dL_law_971 8 rfl (by omega) (by decide) rfl rfl ?_
    refine VB_goto (tgt := 64) dL_law_974 (by decide) ?_
    refine VB_iload (q := 66) dL_law_64 8 rfl rfl ?_
    refine VB_bipush (q := 68) dL_law_66 (by decide) rfl ?_
    refine VB_icmp_ge (q := 71) (tgt := 977) dL_law_68 (by decide) (by decide) (by decide) (fun hc => absurd hc (by decide)) (fun _ => ?_)
    refine VB_iload (q := 73) dL_law_71 7 rfl rfl ?_
    refine VB_if_eq (q := 76) (tgt := 977) dL_law_73 (by decide) (by decide) (fun _ => ?_) (fun hc => absurd hc (by decide))
    refine VB_iload (q := 979) dL_law_977 7 rfl rfl ?_
    exact VB_ret0 dL_law_979 rfl
  refine VB_uif_eq (q := 799) (tgt := 968) dL_law_796 (by decide) ?_ ?_
  · skip
    exact VB_widen (by omega) (by omega) (J968 g793 hg793)
  · skip
    refine VB_iload (q := 801) dL_law_799 8 rfl rfl ?_
    refine VB_iconst (q := 802) dL_law_801 rfl ?_
    refine VB_irem (q := 803) (a := 71) (b := 2) dL_law_802 (by omega) (by decide) (by decide) rfl ?_
    refine VB_top (y := iZ 1) rfl ?_
    refine VB_if_gt (q := 806) (tgt := 833) dL_law_803 (by decide) (by decide) (fun _ => ?_) (fun hc => absurd hc (by decide))
    refine VB_aload_n (q := 834) dL_law_833 1 rfl rfl ?_
    refine VB_aload_n (q := 835) dL_law_834 2 rfl rfl ?_
    refine VB_aload_n (q := 836) dL_law_835 3 rfl rfl ?_
    refine VB_aload (q := 838) dL_law_836 4 rfl rfl ?_
    refine VB_aload (q := 840) dL_law_838 6 rfl rfl ?_
    refine VB_callU (q := 843) dL_law_840 (u_isMissing (a := a) (c := c) (S := S) (b := b) (d := d) (F := F) hI hg793) yv_L_isMissing rfl gL_law_L_isMissing xU_L rfl (Nat.le_of_ble_eq_true rfl) (by decide) ⟨by show _ ≤ 20000; omega, by show _ ≤ 130000; omega⟩ (fun x840 g840 hP840 hg840 => ?_)
    refine VB_lo (lo' := 123) (Nat.le_add_right _ _) ?_
    refine VB_uif_eq (q := 846) (tgt := 968) dL_law_843 (by decide) ?_ ?_
    · skip
      exact VB_widen (by omega) (by omega) (J968 g840 hg840)
    · skip
      refine VB_aload_n (q := 847) dL_law_846 1 rfl rfl ?_
      refine VB_aload_n (q := 848) dL_law_847 2 rfl rfl ?_
      refine VB_aload (q := 850) dL_law_848 6 rfl rfl ?_
      refine VB_iload (q := 852) dL_law_850 10 rfl rfl ?_
      refine VB_aload (q := 854) dL_law_852 6 rfl rfl ?_
      refine VB_iconst (q := 855) dL_law_854 rfl ?_
      refine VB_iald (q := 856) (v := (iZ 4)) dL_law_855 13 12 rfl rfl (0) (by omega) (by omega) (by decide) (hM0) rfl ?_
      refine VB_iconst (q := 857) dL_law_856 rfl ?_
      refine VB_iadd (q := 858) dL_law_857 rfl ?_
      refine VB_top (y := iZ 5) rfl ?_
      refine VB_irem (q := 859) (a := 0) (b := 5) dL_law_858 (by omega) (by decide) (by decide) rfl ?_
      refine VB_top (y := iZ 0) rfl ?_
      refine VB_iload (q := 861) dL_law_859 10 rfl rfl ?_
      refine VB_bipush (q := 863) dL_law_861 (by decide) rfl ?_
      refine VB_idiv (q := 864) (a := 0) (b := 13) dL_law_863 (by omega) (by decide) (by decide) rfl ?_
      refine VB_top (y := iZ 0) rfl ?_
      refine VB_aload (q := 866) dL_law_864 6 rfl rfl ?_
      refine VB_iconst (q := 867) dL_law_866 rfl ?_
      refine VB_iald (q := 868) (v := (iZ 4)) dL_law_867 13 12 rfl rfl (0) (by omega) (by omega) (by decide) (hM0) rfl ?_
      refine VB_iconst (q := 869) dL_law_868 rfl ?_
      refine VB_iadd (q := 870) dL_law_869 rfl ?_
      refine VB_top (y := iZ 5) rfl ?_
      refine VB_irem (q := 871) (a := 0) (b := 5) dL_law_870 (by omega) (by decide) (by decide) rfl ?_
      refine VB_top (y := iZ 0) rfl ?_
      refine VB_iload (q := 873) dL_law_871 10 rfl rfl ?_
      refine VB_sipush (q := 876) dL_law_873 (by decide) rfl ?_
      refine VB_idiv (q := 877) (a := 0) (b := 169) dL_law_876 (by omega) (by decide) (by decide) rfl ?_
      refine VB_top (y := iZ 0) rfl ?_
      refine VB_aload (q := 879) dL_law_877 6 rfl rfl ?_
      refine VB_iconst (q := 880) dL_law_879 rfl ?_
      refine VB_iald (q := 881) (v := (iZ 4)) dL_law_880 13 12 rfl rfl (0) (by omega) (by omega) (by decide) (hM0) rfl ?_
      refine VB_iconst (q := 882) dL_law_881 rfl ?_
      refine VB_iadd (q := 883) dL_law_882 rfl ?_
      refine VB_top (y := iZ 6) rfl ?_
      refine VB_irem (q := 884) (a := 0) (b := 6) dL_law_883 (by omega) (by decide) (by decide) rfl ?_
      refine VB_top (y := iZ 0) rfl ?_
      refine VB_iconst (q := 885) dL_law_884 rfl ?_
      refine VB_isub (q := 886) dL_law_885 rfl ?_
      refine VB_top (y := iZ (-1)) rfl ?_
      refine VB_callU (q := 889) dL_law_886 (u_isWrong (a := a) (c := c) (S := S) (b := b) (d := d) (F := F) hI (wr0 hI (by decide) hK) hg840) yv_L_isWrong rfl gL_law_L_isWrong xU_L rfl (Nat.le_of_ble_eq_true rfl) (by decide) ⟨by show _ ≤ 20000; omega, by show _ ≤ 130000; omega⟩ (fun x886 g886 hP886 hg886 => ?_)
      refine VB_em (x := x886) (fun e886 => VB_lo (lo' := 123) (Nat.le_add_right _ _) (VB_top (y := iZ 0) e886 ?_)) (fun e886 => VB_lo (lo' := 125) (by show 125 ≤ 123 + (if x886 = 0 then 0 else 2); rw [if_neg e886]; omega) ?_)
      · skip
        refine VB_if_eq (q := 892) (tgt := 968) dL_law_889 (by decide) (by decide) (fun _ => ?_) (fun hc => absurd hc (by decide))
        exact VB_widen (by omega) (by omega) (J968 g886 hg886)
      · skip
        refine VB_uif_eq (q := 892) (tgt := 968) dL_law_889 (by decide) ?_ ?_
        · skip
          refine VB_lo (lo' := 123) (by omega) ?_
          exact VB_widen (by omega) (by omega) (J968 g886 hg886)
        · skip
          refine VB_iload (q := 894) dL_law_892 8 rfl rfl ?_
          refine VB_bipush (q := 896) dL_law_894 (by decide) rfl ?_
          refine VB_irem (q := 897) (a := 71) (b := 16) dL_law_896 (by omega) (by decide) (by decide) rfl ?_
          refine VB_top (y := iZ 7) rfl ?_
          refine VB_if_gt (q := 900) (tgt := 943) dL_law_897 (by decide) (by decide) (fun _ => ?_) (fun hc => absurd hc (by decide))
          refine VB_iload (q := 945) dL_law_943 8 rfl rfl ?_
          refine VB_bipush (q := 947) dL_law_945 (by decide) rfl ?_
          refine VB_irem (q := 948) (a := 71) (b := 20) dL_law_947 (by omega) (by decide) (by decide) rfl ?_
          refine VB_top (y := iZ 11) rfl ?_
          refine VB_if_gt (q := 951) (tgt := 964) dL_law_948 (by decide) (by decide) (fun _ => ?_) (fun hc => absurd hc (by decide))
          refine VB_iconst (q := 965) dL_law_964 rfl ?_
          refine VB_goto (tgt := 969) dL_law_965 (by decide) ?_
          refine VB_istore (q := 971) (lv' := [(0, _), (1, _), (2, _), (3, _), (4, _), (5, _), (6, _), (7, _), (8, _), (9, _), (10, _)]) dL_law_969 (by decide) rfl rfl ?_
          refine VB_iinc (q := 974) (y := 72) (lv' := [(0, _), (1, _), (2, _), (3, _), (4, _), (5, _), (6, _), (7, _), (8, _), (9, _), (10, _)]) dL_law_971 8 rfl (by omega) (by decide) rfl rfl ?_
          refine VB_goto (tgt := 64) dL_law_974 (by decide) ?_
          refine VB_loc (lv' := [(0, _), (1, _), (2, _), (3, _), (4, _), (5, _), (6, _), (7, _), (8, _)]) [0, 1, 2, 3, 4, 5, 6, 7, 8] rfl ?_
          refine VB_lo (lo' := 123) (by omega) ?_
          exact VB_widen (by omega) (by omega) (rd72 hL h16 hx S F g886 hI (fun _ => hK) hg886)
set_option maxRecDepth 100000 in
set_option maxHeartbeats 8000000 in
theorem rd71 {s0 L : Nat} {xs : Nat → Int32} {a : Nat → Nat} {c : Nat → ClassId} {b : Nat → Nat} {d : Nat → ClassId} (hL : L ≤ 260) (h16 : 80 ≤ L) (hx : ∀ j, j < 80 → xs j = 31) : ∀ (S : St) (F : Nat → Nat → Int32) (g : Nat → Nat), Iv S F 4 → (0 < 71 → sK S 0 = 0) → (∀ j, g j < 4096) → VB 123 RL cL_law 17 (some .boolean) wsL_law roomB (vXL s0 L xs) (tyl c d) (qF 123) (9102) (54612 + 1250) (wal a c S b d F g) 64 [(0, .ref (s0)), (1, .ref (a 0)), (2, .ref (b 0)), (3, .ref (b 1)), (4, .ref (b 2)), (5, .ref (b 3)), (6, .ref (b 4)), (7, .int (iZ 1)), (8, .int (iZ 71))] [] := by
  intro S F g hI hK hg
  obtain ⟨ho, hn, hm4, hM0, hG, hC⟩ := id hI
  refine VB_iload (q := 66) dL_law_64 8 rfl rfl ?_
  refine VB_bipush (q := 68) dL_law_66 (by decide) rfl ?_
  refine VB_icmp_ge (q := 71) (tgt := 977) dL_law_68 (by decide) (by decide) (by decide) (fun hc => absurd hc (by decide)) (fun _ => ?_)
  refine VB_iload (q := 73) dL_law_71 7 rfl rfl ?_
  refine VB_if_eq (q := 76) (tgt := 977) dL_law_73 (by decide) (by decide) (fun hc => absurd hc (by decide)) (fun _ => ?_)
  refine VB_aload_n (q := 77) dL_law_76 0 rfl rfl ?_
  refine VB_iload (q := 79) dL_law_77 8 rfl rfl ?_
  refine VB_callD (q := 82) dL_law_79 (u_dice (b := s0) (L := L) (xs := xs) 71 (by omega) hL (hx 71 (by omega))) yv_L_dice rfl gL_law_L_dice xL_s rfl (Nat.le_of_ble_eq_true rfl) (by decide) ⟨by show _ ≤ 20000; omega, by show _ ≤ 130000; omega⟩ ?_
  refine VB_istore (q := 84) (lv' := [(0, _), (1, _), (2, _), (3, _), (4, _), (5, _), (6, _), (7, _), (8, _), (9, _)]) dL_law_82 (by decide) rfl rfl ?_
  refine VB_iload (q := 86) dL_law_84 9 rfl rfl ?_
  refine VB_bipush (q := 88) dL_law_86 (by decide) rfl ?_
  refine VB_idiv (q := 89) (a := 31) (b := 32) dL_law_88 (by omega) (by decide) (by decide) rfl ?_
  refine VB_top (y := iZ 0) rfl ?_
  refine VB_istore (q := 91) (lv' := [(0, _), (1, _), (2, _), (3, _), (4, _), (5, _), (6, _), (7, _), (8, _), (9, _), (10, _)]) dL_law_89 (by decide) rfl rfl ?_
  refine VB_iload (q := 93) dL_law_91 9 rfl rfl ?_
  refine VB_bipush (q := 95) dL_law_93 (by decide) rfl ?_
  refine VB_irem (q := 96) (a := 31) (b := 32) dL_law_95 (by omega) (by decide) (by decide) rfl ?_
  refine VB_top (y := iZ 31) rfl ?_
  refine VB_istore (q := 98) (lv' := [(0, _), (1, _), (2, _), (3, _), (4, _), (5, _), (6, _), (7, _), (8, _), (9, _), (10, _), (11, _)]) dL_law_96 (by decide) rfl rfl ?_
  refine VB_aload (q := 100) dL_law_98 6 rfl rfl ?_
  refine VB_iconst (q := 101) dL_law_100 rfl ?_
  refine VB_iald (q := 102) (v := (iZ 4)) dL_law_101 13 12 rfl rfl (0) (by omega) (by omega) (by decide) (hM0) rfl ?_
  refine VB_if_ne (q := 105) (tgt := 109) dL_law_102 (by decide) (by decide) (fun _ => ?_) (fun hc => absurd hc (by decide))
  refine VB_iload (q := 111) dL_law_109 10 rfl rfl ?_
  refine VB_aload (q := 113) dL_law_111 6 rfl rfl ?_
  refine VB_iconst (q := 114) dL_law_113 rfl ?_
  refine VB_iald (q := 115) (v := (iZ 4)) dL_law_114 13 12 rfl rfl (0) (by omega) (by omega) (by decide) (hM0) rfl ?_
  refine VB_irem (q := 116) (a := 0) (b := 4) dL_law_115 (by omega) (by decide) (by decide) rfl ?_
  refine VB_top (y := iZ 0) rfl ?_
  refine VB_istore (q := 118) (lv' := [(0, _), (1, _), (2, _), (3, _), (4, _), (5, _), (6, _), (7, _), (8, _), (9, _), (10, _), (11, _), (12, _)]) dL_law_116 (by decide) rfl rfl ?_
  refine VB_aload (q := 120) dL_law_118 6 rfl rfl ?_
  refine VB_iconst (q := 121) dL_law_120 rfl ?_
  refine VB_iald (q := 122) (v := (iZ 4)) dL_law_121 13 12 rfl rfl (0) (by omega) (by omega) (by decide) (hM0) rfl ?_
  refine VB_iconst (q := 123) dL_law_122 rfl ?_
  refine VB_icmp_lt (q := 126) (tgt := 141) dL_law_123 (by decide) (by decide) (by decide) (fun hc => absurd hc (by decide)) (fun _ => ?_)
  refine VB_iload (q := 128) dL_law_126 11 rfl rfl ?_
  refine VB_iconst (q := 129) dL_law_128 rfl ?_
  refine VB_icmp_ge (q := 132) (tgt := 326) dL_law_129 (by decide) (by decide) (by decide) (fun _ => ?_) (fun hc => absurd hc (by decide))
  refine VB_iload (q := 328) dL_law_326 11 rfl rfl ?_
  refine VB_bipush (q := 330) dL_law_328 (by decide) rfl ?_
  refine VB_icmp_ge (q := 333) (tgt := 451) dL_law_330 (by decide) (by decide) (by decide) (fun _ => ?_) (fun hc => absurd hc (by decide))
  refine VB_iload (q := 453) dL_law_451 11 rfl rfl ?_
  refine VB_bipush (q := 455) dL_law_453 (by decide) rfl ?_
  refine VB_icmp_ge (q := 458) (tgt := 603) dL_law_455 (by decide) (by decide) (by decide) (fun _ => ?_) (fun hc => absurd hc (by decide))
  refine VB_iload (q := 605) dL_law_603 11 rfl rfl ?_
  refine VB_bipush (q := 607) dL_law_605 (by decide) rfl ?_
  refine VB_icmp_ge (q := 610) (tgt := 633) dL_law_607 (by decide) (by decide) (by decide) (fun _ => ?_) (fun hc => absurd hc (by decide))
  refine VB_iload (q := 635) dL_law_633 11 rfl rfl ?_
  refine VB_bipush (q := 637) dL_law_635 (by decide) rfl ?_
  refine VB_icmp_ge (q := 640) (tgt := 677) dL_law_637 (by decide) (by decide) (by decide) (fun _ => ?_) (fun hc => absurd hc (by decide))
  refine VB_iload (q := 679) dL_law_677 11 rfl rfl ?_
  refine VB_bipush (q := 681) dL_law_679 (by decide) rfl ?_
  refine VB_icmp_ne (q := 684) (tgt := 783) dL_law_681 (by decide) (by decide) (by decide) (fun _ => ?_) (fun hc => absurd hc (by decide))
  refine VB_loc (lv' := [(0, _), (1, _), (2, _), (3, _), (4, _), (5, _), (6, _), (7, _), (8, _), (9, _), (10, _)]) [0, 1, 2, 3, 4, 5, 6, 7, 8, 9, 10] rfl ?_
  exact VB_widen (by omega) (by omega) (ck71 hL h16 hx S F g hI (hK (by decide)) hg)
set_option maxRecDepth 100000 in
set_option maxHeartbeats 8000000 in
theorem ck70 {s0 L : Nat} {xs : Nat → Int32} {a : Nat → Nat} {c : Nat → ClassId} {b : Nat → Nat} {d : Nat → ClassId} (hL : L ≤ 260) (h16 : 80 ≤ L) (hx : ∀ j, j < 80 → xs j = 31) : ∀ (S : St) (F : Nat → Nat → Int32) (g : Nat → Nat), Iv S F 4 → sK S 0 = 0 → (∀ j, g j < 4096) → VB 123 RL cL_law 17 (some .boolean) wsL_law roomB (vXL s0 L xs) (tyl c d) (qF 123) (8882) (53292 + 1250) (wal a c S b d F g) 783 [(0, .ref (s0)), (1, .ref (a 0)), (2, .ref (b 0)), (3, .ref (b 1)), (4, .ref (b 2)), (5, .ref (b 3)), (6, .ref (b 4)), (7, .int (iZ 1)), (8, .int (iZ 70)), (9, .int (iZ 31)), (10, .int (iZ 0))] [] := by
  intro S F g hI hK hg
  obtain ⟨ho, hn, hm4, hM0, hG, hC⟩ := id hI
  refine VB_iload (q := 785) dL_law_783 7 rfl rfl ?_
  refine VB_if_eq (q := 788) (tgt := 968) dL_law_785 (by decide) (by decide) (fun hc => absurd hc (by decide)) (fun _ => ?_)
  refine VB_aload_n (q := 789) dL_law_788 1 rfl rfl ?_
  refine VB_aload_n (q := 790) dL_law_789 2 rfl rfl ?_
  refine VB_aload_n (q := 791) dL_law_790 3 rfl rfl ?_
  refine VB_aload (q := 793) dL_law_791 6 rfl rfl ?_
  refine VB_callU (q := 796) dL_law_793 (u_areThings (a := a) (c := c) (S := S) (b := b) (d := d) (F := F) hI hg) yv_L_areThings rfl gL_law_L_areThings xU_L rfl (Nat.le_of_ble_eq_true rfl) (by decide) ⟨by show _ ≤ 20000; omega, by show _ ≤ 130000; omega⟩ (fun x793 g793 hP793 hg793 => ?_)
  refine VB_lo (lo' := 123) (Nat.le_add_right _ _) ?_
  have J968 : ∀ (gj968 : Nat → Nat), (∀ j, gj968 j < 4096) → VB 123 RL cL_law 17 (some .boolean) wsL_law roomB (vXL s0 L xs) (tyl c d) (qF 123) (9102) (54612 + 1250) (wal a c S b d F gj968) 968 [(0, .ref (s0)), (1, .ref (a 0)), (2, .ref (b 0)), (3, .ref (b 1)), (4, .ref (b 2)), (5, .ref (b 3)), (6, .ref (b 4)), (7, .int (iZ 1)), (8, .int (iZ 70)), (9, .int (iZ 31)), (10, .int (iZ 0))] [] := by
    intro gj968 hgj968
    refine VB_iconst (q := 969) dL_law_968 rfl ?_
    refine VB_istore (q := 971) (lv' := [(0, _), (1, _), (2, _), (3, _), (4, _), (5, _), (6, _), (7, _), (8, _), (9, _), (10, _)]) dL_law_969 (by decide) rfl rfl ?_
    refine VB_iinc (q := 974) (y := 71) (lv' := [(0, _), (1, _), (2, _), (3, _), (4, _), (5, _), (6, _), (7, _), (8, _), (9, _), (10, _)]) dL_law_971 8 rfl (by omega) (by decide) rfl rfl ?_
    refine VB_goto (tgt := 64) dL_law_974 (by decide) ?_
    refine VB_iload (q := 66) dL_law_64 8 rfl rfl ?_
    refine VB_bipush (q := 68) dL_law_66 (by decide) rfl ?_
    refine VB_icmp_ge (q := 71) (tgt := 977) dL_law_68 (by decide) (by decide) (by decide) (fun hc => absurd hc (by decide)) (fun _ => ?_)
    refine VB_iload (q := 73) dL_law_71 7 rfl rfl ?_
    refine VB_if_eq (q := 76) (tgt := 977) dL_law_73 (by decide) (by decide) (fun _ => ?_) (fun hc => absurd hc (by decide))
    refine VB_iload (q := 979) dL_law_977 7 rfl rfl ?_
    exact VB_ret0 dL_law_979 rfl
  refine VB_uif_eq (q := 799) (tgt := 968) dL_law_796 (by decide) ?_ ?_
  · skip
    exact VB_widen (by omega) (by omega) (J968 g793 hg793)
  · skip
    refine VB_iload (q := 801) dL_law_799 8 rfl rfl ?_
    refine VB_iconst (q := 802) dL_law_801 rfl ?_
    refine VB_irem (q := 803) (a := 70) (b := 2) dL_law_802 (by omega) (by decide) (by decide) rfl ?_
    refine VB_top (y := iZ 0) rfl ?_
    refine VB_if_gt (q := 806) (tgt := 833) dL_law_803 (by decide) (by decide) (fun hc => absurd hc (by decide)) (fun _ => ?_)
    refine VB_aload_n (q := 807) dL_law_806 1 rfl rfl ?_
    refine VB_aload_n (q := 808) dL_law_807 2 rfl rfl ?_
    refine VB_aload_n (q := 809) dL_law_808 3 rfl rfl ?_
    refine VB_aload (q := 811) dL_law_809 4 rfl rfl ?_
    refine VB_aload (q := 813) dL_law_811 6 rfl rfl ?_
    refine VB_iload (q := 815) dL_law_813 10 rfl rfl ?_
    refine VB_bipush (q := 817) dL_law_815 (by decide) rfl ?_
    refine VB_irem (q := 818) (a := 0) (b := 31) dL_law_817 (by omega) (by decide) (by decide) rfl ?_
    refine VB_top (y := iZ 0) rfl ?_
    refine VB_iload (q := 820) dL_law_818 10 rfl rfl ?_
    refine VB_bipush (q := 822) dL_law_820 (by decide) rfl ?_
    refine VB_idiv (q := 823) (a := 0) (b := 31) dL_law_822 (by omega) (by decide) (by decide) rfl ?_
    refine VB_top (y := iZ 0) rfl ?_
    refine VB_sipush (q := 826) dL_law_823 (by decide) rfl ?_
    refine VB_irem (q := 827) (a := 0) (b := 256) dL_law_826 (by omega) (by decide) (by decide) rfl ?_
    refine VB_top (y := iZ 0) rfl ?_
    refine VB_callU (q := 830) dL_law_827 (u_areOutfits (a := a) (c := c) (S := S) (b := b) (d := d) (F := F) hI hg793) yv_L_areOutfits rfl gL_law_L_areOutfits xU_L rfl (Nat.le_of_ble_eq_true rfl) (by decide) ⟨by show _ ≤ 20000; omega, by show _ ≤ 130000; omega⟩ (fun x827 g827 hP827 hg827 => ?_)
    refine VB_lo (lo' := 123) (Nat.le_add_right _ _) ?_
    refine VB_uif_eq (q := 833) (tgt := 968) dL_law_830 (by decide) ?_ ?_
    · skip
      exact VB_widen (by omega) (by omega) (J968 g827 hg827)
    · skip
      refine VB_aload_n (q := 834) dL_law_833 1 rfl rfl ?_
      refine VB_aload_n (q := 835) dL_law_834 2 rfl rfl ?_
      refine VB_aload_n (q := 836) dL_law_835 3 rfl rfl ?_
      refine VB_aload (q := 838) dL_law_836 4 rfl rfl ?_
      refine VB_aload (q := 840) dL_law_838 6 rfl rfl ?_
      refine VB_callU (q := 843) dL_law_840 (u_isMissing (a := a) (c := c) (S := S) (b := b) (d := d) (F := F) hI hg827) yv_L_isMissing rfl gL_law_L_isMissing xU_L rfl (Nat.le_of_ble_eq_true rfl) (by decide) ⟨by show _ ≤ 20000; omega, by show _ ≤ 130000; omega⟩ (fun x840 g840 hP840 hg840 => ?_)
      refine VB_lo (lo' := 123) (Nat.le_add_right _ _) ?_
      refine VB_uif_eq (q := 846) (tgt := 968) dL_law_843 (by decide) ?_ ?_
      · skip
        exact VB_widen (by omega) (by omega) (J968 g840 hg840)
      · skip
        refine VB_aload_n (q := 847) dL_law_846 1 rfl rfl ?_
        refine VB_aload_n (q := 848) dL_law_847 2 rfl rfl ?_
        refine VB_aload (q := 850) dL_law_848 6 rfl rfl ?_
        refine VB_iload (q := 852) dL_law_850 10 rfl rfl ?_
        refine VB_aload (q := 854) dL_law_852 6 rfl rfl ?_
        refine VB_iconst (q := 855) dL_law_854 rfl ?_
        refine VB_iald (q := 856) (v := (iZ 4)) dL_law_855 13 12 rfl rfl (0) (by omega) (by omega) (by decide) (hM0) rfl ?_
        refine VB_iconst (q := 857) dL_law_856 rfl ?_
        refine VB_iadd (q := 858) dL_law_857 rfl ?_
        refine VB_top (y := iZ 5) rfl ?_
        refine VB_irem (q := 859) (a := 0) (b := 5) dL_law_858 (by omega) (by decide) (by decide) rfl ?_
        refine VB_top (y := iZ 0) rfl ?_
        refine VB_iload (q := 861) dL_law_859 10 rfl rfl ?_
        refine VB_bipush (q := 863) dL_law_861 (by decide) rfl ?_
        refine VB_idiv (q := 864) (a := 0) (b := 13) dL_law_863 (by omega) (by decide) (by decide) rfl ?_
        refine VB_top (y := iZ 0) rfl ?_
        refine VB_aload (q := 866) dL_law_864 6 rfl rfl ?_
        refine VB_iconst (q := 867) dL_law_866 rfl ?_
        refine VB_iald (q := 868) (v := (iZ 4)) dL_law_867 13 12 rfl rfl (0) (by omega) (by omega) (by decide) (hM0) rfl ?_
        refine VB_iconst (q := 869) dL_law_868 rfl ?_
        refine VB_iadd (q := 870) dL_law_869 rfl ?_
        refine VB_top (y := iZ 5) rfl ?_
        refine VB_irem (q := 871) (a := 0) (b := 5) dL_law_870 (by omega) (by decide) (by decide) rfl ?_
        refine VB_top (y := iZ 0) rfl ?_
        refine VB_iload (q := 873) dL_law_871 10 rfl rfl ?_
        refine VB_sipush (q := 876) dL_law_873 (by decide) rfl ?_
        refine VB_idiv (q := 877) (a := 0) (b := 169) dL_law_876 (by omega) (by decide) (by decide) rfl ?_
        refine VB_top (y := iZ 0) rfl ?_
        refine VB_aload (q := 879) dL_law_877 6 rfl rfl ?_
        refine VB_iconst (q := 880) dL_law_879 rfl ?_
        refine VB_iald (q := 881) (v := (iZ 4)) dL_law_880 13 12 rfl rfl (0) (by omega) (by omega) (by decide) (hM0) rfl ?_
        refine VB_iconst (q := 882) dL_law_881 rfl ?_
        refine VB_iadd (q := 883) dL_law_882 rfl ?_
        refine VB_top (y := iZ 6) rfl ?_
        refine VB_irem (q := 884) (a := 0) (b := 6) dL_law_883 (by omega) (by decide) (by decide) rfl ?_
        refine VB_top (y := iZ 0) rfl ?_
        refine VB_iconst (q := 885) dL_law_884 rfl ?_
        refine VB_isub (q := 886) dL_law_885 rfl ?_
        refine VB_top (y := iZ (-1)) rfl ?_
        refine VB_callU (q := 889) dL_law_886 (u_isWrong (a := a) (c := c) (S := S) (b := b) (d := d) (F := F) hI (wr0 hI (by decide) hK) hg840) yv_L_isWrong rfl gL_law_L_isWrong xU_L rfl (Nat.le_of_ble_eq_true rfl) (by decide) ⟨by show _ ≤ 20000; omega, by show _ ≤ 130000; omega⟩ (fun x886 g886 hP886 hg886 => ?_)
        refine VB_em (x := x886) (fun e886 => VB_lo (lo' := 123) (Nat.le_add_right _ _) (VB_top (y := iZ 0) e886 ?_)) (fun e886 => VB_lo (lo' := 125) (by show 125 ≤ 123 + (if x886 = 0 then 0 else 2); rw [if_neg e886]; omega) ?_)
        · skip
          refine VB_if_eq (q := 892) (tgt := 968) dL_law_889 (by decide) (by decide) (fun _ => ?_) (fun hc => absurd hc (by decide))
          exact VB_widen (by omega) (by omega) (J968 g886 hg886)
        · skip
          refine VB_uif_eq (q := 892) (tgt := 968) dL_law_889 (by decide) ?_ ?_
          · skip
            refine VB_lo (lo' := 123) (by omega) ?_
            exact VB_widen (by omega) (by omega) (J968 g886 hg886)
          · skip
            refine VB_iload (q := 894) dL_law_892 8 rfl rfl ?_
            refine VB_bipush (q := 896) dL_law_894 (by decide) rfl ?_
            refine VB_irem (q := 897) (a := 70) (b := 16) dL_law_896 (by omega) (by decide) (by decide) rfl ?_
            refine VB_top (y := iZ 6) rfl ?_
            refine VB_if_gt (q := 900) (tgt := 943) dL_law_897 (by decide) (by decide) (fun _ => ?_) (fun hc => absurd hc (by decide))
            refine VB_iload (q := 945) dL_law_943 8 rfl rfl ?_
            refine VB_bipush (q := 947) dL_law_945 (by decide) rfl ?_
            refine VB_irem (q := 948) (a := 70) (b := 20) dL_law_947 (by omega) (by decide) (by decide) rfl ?_
            refine VB_top (y := iZ 10) rfl ?_
            refine VB_if_gt (q := 951) (tgt := 964) dL_law_948 (by decide) (by decide) (fun _ => ?_) (fun hc => absurd hc (by decide))
            refine VB_iconst (q := 965) dL_law_964 rfl ?_
            refine VB_goto (tgt := 969) dL_law_965 (by decide) ?_
            refine VB_istore (q := 971) (lv' := [(0, _), (1, _), (2, _), (3, _), (4, _), (5, _), (6, _), (7, _), (8, _), (9, _), (10, _)]) dL_law_969 (by decide) rfl rfl ?_
            refine VB_iinc (q := 974) (y := 71) (lv' := [(0, _), (1, _), (2, _), (3, _), (4, _), (5, _), (6, _), (7, _), (8, _), (9, _), (10, _)]) dL_law_971 8 rfl (by omega) (by decide) rfl rfl ?_
            refine VB_goto (tgt := 64) dL_law_974 (by decide) ?_
            refine VB_loc (lv' := [(0, _), (1, _), (2, _), (3, _), (4, _), (5, _), (6, _), (7, _), (8, _)]) [0, 1, 2, 3, 4, 5, 6, 7, 8] rfl ?_
            refine VB_lo (lo' := 123) (by omega) ?_
            exact VB_widen (by omega) (by omega) (rd71 hL h16 hx S F g886 hI (fun _ => hK) hg886)
set_option maxRecDepth 100000 in
set_option maxHeartbeats 8000000 in
theorem rd70 {s0 L : Nat} {xs : Nat → Int32} {a : Nat → Nat} {c : Nat → ClassId} {b : Nat → Nat} {d : Nat → ClassId} (hL : L ≤ 260) (h16 : 80 ≤ L) (hx : ∀ j, j < 80 → xs j = 31) : ∀ (S : St) (F : Nat → Nat → Int32) (g : Nat → Nat), Iv S F 4 → (0 < 70 → sK S 0 = 0) → (∀ j, g j < 4096) → VB 123 RL cL_law 17 (some .boolean) wsL_law roomB (vXL s0 L xs) (tyl c d) (qF 123) (8882) (53292 + 1250) (wal a c S b d F g) 64 [(0, .ref (s0)), (1, .ref (a 0)), (2, .ref (b 0)), (3, .ref (b 1)), (4, .ref (b 2)), (5, .ref (b 3)), (6, .ref (b 4)), (7, .int (iZ 1)), (8, .int (iZ 70))] [] := by
  intro S F g hI hK hg
  obtain ⟨ho, hn, hm4, hM0, hG, hC⟩ := id hI
  refine VB_iload (q := 66) dL_law_64 8 rfl rfl ?_
  refine VB_bipush (q := 68) dL_law_66 (by decide) rfl ?_
  refine VB_icmp_ge (q := 71) (tgt := 977) dL_law_68 (by decide) (by decide) (by decide) (fun hc => absurd hc (by decide)) (fun _ => ?_)
  refine VB_iload (q := 73) dL_law_71 7 rfl rfl ?_
  refine VB_if_eq (q := 76) (tgt := 977) dL_law_73 (by decide) (by decide) (fun hc => absurd hc (by decide)) (fun _ => ?_)
  refine VB_aload_n (q := 77) dL_law_76 0 rfl rfl ?_
  refine VB_iload (q := 79) dL_law_77 8 rfl rfl ?_
  refine VB_callD (q := 82) dL_law_79 (u_dice (b := s0) (L := L) (xs := xs) 70 (by omega) hL (hx 70 (by omega))) yv_L_dice rfl gL_law_L_dice xL_s rfl (Nat.le_of_ble_eq_true rfl) (by decide) ⟨by show _ ≤ 20000; omega, by show _ ≤ 130000; omega⟩ ?_
  refine VB_istore (q := 84) (lv' := [(0, _), (1, _), (2, _), (3, _), (4, _), (5, _), (6, _), (7, _), (8, _), (9, _)]) dL_law_82 (by decide) rfl rfl ?_
  refine VB_iload (q := 86) dL_law_84 9 rfl rfl ?_
  refine VB_bipush (q := 88) dL_law_86 (by decide) rfl ?_
  refine VB_idiv (q := 89) (a := 31) (b := 32) dL_law_88 (by omega) (by decide) (by decide) rfl ?_
  refine VB_top (y := iZ 0) rfl ?_
  refine VB_istore (q := 91) (lv' := [(0, _), (1, _), (2, _), (3, _), (4, _), (5, _), (6, _), (7, _), (8, _), (9, _), (10, _)]) dL_law_89 (by decide) rfl rfl ?_
  refine VB_iload (q := 93) dL_law_91 9 rfl rfl ?_
  refine VB_bipush (q := 95) dL_law_93 (by decide) rfl ?_
  refine VB_irem (q := 96) (a := 31) (b := 32) dL_law_95 (by omega) (by decide) (by decide) rfl ?_
  refine VB_top (y := iZ 31) rfl ?_
  refine VB_istore (q := 98) (lv' := [(0, _), (1, _), (2, _), (3, _), (4, _), (5, _), (6, _), (7, _), (8, _), (9, _), (10, _), (11, _)]) dL_law_96 (by decide) rfl rfl ?_
  refine VB_aload (q := 100) dL_law_98 6 rfl rfl ?_
  refine VB_iconst (q := 101) dL_law_100 rfl ?_
  refine VB_iald (q := 102) (v := (iZ 4)) dL_law_101 13 12 rfl rfl (0) (by omega) (by omega) (by decide) (hM0) rfl ?_
  refine VB_if_ne (q := 105) (tgt := 109) dL_law_102 (by decide) (by decide) (fun _ => ?_) (fun hc => absurd hc (by decide))
  refine VB_iload (q := 111) dL_law_109 10 rfl rfl ?_
  refine VB_aload (q := 113) dL_law_111 6 rfl rfl ?_
  refine VB_iconst (q := 114) dL_law_113 rfl ?_
  refine VB_iald (q := 115) (v := (iZ 4)) dL_law_114 13 12 rfl rfl (0) (by omega) (by omega) (by decide) (hM0) rfl ?_
  refine VB_irem (q := 116) (a := 0) (b := 4) dL_law_115 (by omega) (by decide) (by decide) rfl ?_
  refine VB_top (y := iZ 0) rfl ?_
  refine VB_istore (q := 118) (lv' := [(0, _), (1, _), (2, _), (3, _), (4, _), (5, _), (6, _), (7, _), (8, _), (9, _), (10, _), (11, _), (12, _)]) dL_law_116 (by decide) rfl rfl ?_
  refine VB_aload (q := 120) dL_law_118 6 rfl rfl ?_
  refine VB_iconst (q := 121) dL_law_120 rfl ?_
  refine VB_iald (q := 122) (v := (iZ 4)) dL_law_121 13 12 rfl rfl (0) (by omega) (by omega) (by decide) (hM0) rfl ?_
  refine VB_iconst (q := 123) dL_law_122 rfl ?_
  refine VB_icmp_lt (q := 126) (tgt := 141) dL_law_123 (by decide) (by decide) (by decide) (fun hc => absurd hc (by decide)) (fun _ => ?_)
  refine VB_iload (q := 128) dL_law_126 11 rfl rfl ?_
  refine VB_iconst (q := 129) dL_law_128 rfl ?_
  refine VB_icmp_ge (q := 132) (tgt := 326) dL_law_129 (by decide) (by decide) (by decide) (fun _ => ?_) (fun hc => absurd hc (by decide))
  refine VB_iload (q := 328) dL_law_326 11 rfl rfl ?_
  refine VB_bipush (q := 330) dL_law_328 (by decide) rfl ?_
  refine VB_icmp_ge (q := 333) (tgt := 451) dL_law_330 (by decide) (by decide) (by decide) (fun _ => ?_) (fun hc => absurd hc (by decide))
  refine VB_iload (q := 453) dL_law_451 11 rfl rfl ?_
  refine VB_bipush (q := 455) dL_law_453 (by decide) rfl ?_
  refine VB_icmp_ge (q := 458) (tgt := 603) dL_law_455 (by decide) (by decide) (by decide) (fun _ => ?_) (fun hc => absurd hc (by decide))
  refine VB_iload (q := 605) dL_law_603 11 rfl rfl ?_
  refine VB_bipush (q := 607) dL_law_605 (by decide) rfl ?_
  refine VB_icmp_ge (q := 610) (tgt := 633) dL_law_607 (by decide) (by decide) (by decide) (fun _ => ?_) (fun hc => absurd hc (by decide))
  refine VB_iload (q := 635) dL_law_633 11 rfl rfl ?_
  refine VB_bipush (q := 637) dL_law_635 (by decide) rfl ?_
  refine VB_icmp_ge (q := 640) (tgt := 677) dL_law_637 (by decide) (by decide) (by decide) (fun _ => ?_) (fun hc => absurd hc (by decide))
  refine VB_iload (q := 679) dL_law_677 11 rfl rfl ?_
  refine VB_bipush (q := 681) dL_law_679 (by decide) rfl ?_
  refine VB_icmp_ne (q := 684) (tgt := 783) dL_law_681 (by decide) (by decide) (by decide) (fun _ => ?_) (fun hc => absurd hc (by decide))
  refine VB_loc (lv' := [(0, _), (1, _), (2, _), (3, _), (4, _), (5, _), (6, _), (7, _), (8, _), (9, _), (10, _)]) [0, 1, 2, 3, 4, 5, 6, 7, 8, 9, 10] rfl ?_
  exact VB_widen (by omega) (by omega) (ck70 hL h16 hx S F g hI (hK (by decide)) hg)
set_option maxRecDepth 100000 in
set_option maxHeartbeats 8000000 in
theorem ck69 {s0 L : Nat} {xs : Nat → Int32} {a : Nat → Nat} {c : Nat → ClassId} {b : Nat → Nat} {d : Nat → ClassId} (hL : L ≤ 260) (h16 : 80 ≤ L) (hx : ∀ j, j < 80 → xs j = 31) : ∀ (S : St) (F : Nat → Nat → Int32) (g : Nat → Nat), Iv S F 4 → sK S 0 = 0 → (∀ j, g j < 4096) → VB 123 RL cL_law 17 (some .boolean) wsL_law roomB (vXL s0 L xs) (tyl c d) (qF 123) (8862) (53172 + 1250) (wal a c S b d F g) 783 [(0, .ref (s0)), (1, .ref (a 0)), (2, .ref (b 0)), (3, .ref (b 1)), (4, .ref (b 2)), (5, .ref (b 3)), (6, .ref (b 4)), (7, .int (iZ 1)), (8, .int (iZ 69)), (9, .int (iZ 31)), (10, .int (iZ 0))] [] := by
  intro S F g hI hK hg
  obtain ⟨ho, hn, hm4, hM0, hG, hC⟩ := id hI
  refine VB_iload (q := 785) dL_law_783 7 rfl rfl ?_
  refine VB_if_eq (q := 788) (tgt := 968) dL_law_785 (by decide) (by decide) (fun hc => absurd hc (by decide)) (fun _ => ?_)
  refine VB_aload_n (q := 789) dL_law_788 1 rfl rfl ?_
  refine VB_aload_n (q := 790) dL_law_789 2 rfl rfl ?_
  refine VB_aload_n (q := 791) dL_law_790 3 rfl rfl ?_
  refine VB_aload (q := 793) dL_law_791 6 rfl rfl ?_
  refine VB_callU (q := 796) dL_law_793 (u_areThings (a := a) (c := c) (S := S) (b := b) (d := d) (F := F) hI hg) yv_L_areThings rfl gL_law_L_areThings xU_L rfl (Nat.le_of_ble_eq_true rfl) (by decide) ⟨by show _ ≤ 20000; omega, by show _ ≤ 130000; omega⟩ (fun x793 g793 hP793 hg793 => ?_)
  refine VB_lo (lo' := 123) (Nat.le_add_right _ _) ?_
  have J968 : ∀ (gj968 : Nat → Nat), (∀ j, gj968 j < 4096) → VB 123 RL cL_law 17 (some .boolean) wsL_law roomB (vXL s0 L xs) (tyl c d) (qF 123) (8882) (53292 + 1250) (wal a c S b d F gj968) 968 [(0, .ref (s0)), (1, .ref (a 0)), (2, .ref (b 0)), (3, .ref (b 1)), (4, .ref (b 2)), (5, .ref (b 3)), (6, .ref (b 4)), (7, .int (iZ 1)), (8, .int (iZ 69)), (9, .int (iZ 31)), (10, .int (iZ 0))] [] := by
    intro gj968 hgj968
    refine VB_iconst (q := 969) dL_law_968 rfl ?_
    refine VB_istore (q := 971) (lv' := [(0, _), (1, _), (2, _), (3, _), (4, _), (5, _), (6, _), (7, _), (8, _), (9, _), (10, _)]) dL_law_969 (by decide) rfl rfl ?_
    refine VB_iinc (q := 974) (y := 70) (lv' := [(0, _), (1, _), (2, _), (3, _), (4, _), (5, _), (6, _), (7, _), (8, _), (9, _), (10, _)]) dL_law_971 8 rfl (by omega) (by decide) rfl rfl ?_
    refine VB_goto (tgt := 64) dL_law_974 (by decide) ?_
    refine VB_iload (q := 66) dL_law_64 8 rfl rfl ?_
    refine VB_bipush (q := 68) dL_law_66 (by decide) rfl ?_
    refine VB_icmp_ge (q := 71) (tgt := 977) dL_law_68 (by decide) (by decide) (by decide) (fun hc => absurd hc (by decide)) (fun _ => ?_)
    refine VB_iload (q := 73) dL_law_71 7 rfl rfl ?_
    refine VB_if_eq (q := 76) (tgt := 977) dL_law_73 (by decide) (by decide) (fun _ => ?_) (fun hc => absurd hc (by decide))
    refine VB_iload (q := 979) dL_law_977 7 rfl rfl ?_
    exact VB_ret0 dL_law_979 rfl
  refine VB_uif_eq (q := 799) (tgt := 968) dL_law_796 (by decide) ?_ ?_
  · skip
    exact VB_widen (by omega) (by omega) (J968 g793 hg793)
  · skip
    refine VB_iload (q := 801) dL_law_799 8 rfl rfl ?_
    refine VB_iconst (q := 802) dL_law_801 rfl ?_
    refine VB_irem (q := 803) (a := 69) (b := 2) dL_law_802 (by omega) (by decide) (by decide) rfl ?_
    refine VB_top (y := iZ 1) rfl ?_
    refine VB_if_gt (q := 806) (tgt := 833) dL_law_803 (by decide) (by decide) (fun _ => ?_) (fun hc => absurd hc (by decide))
    refine VB_aload_n (q := 834) dL_law_833 1 rfl rfl ?_
    refine VB_aload_n (q := 835) dL_law_834 2 rfl rfl ?_
    refine VB_aload_n (q := 836) dL_law_835 3 rfl rfl ?_
    refine VB_aload (q := 838) dL_law_836 4 rfl rfl ?_
    refine VB_aload (q := 840) dL_law_838 6 rfl rfl ?_
    refine VB_callU (q := 843) dL_law_840 (u_isMissing (a := a) (c := c) (S := S) (b := b) (d := d) (F := F) hI hg793) yv_L_isMissing rfl gL_law_L_isMissing xU_L rfl (Nat.le_of_ble_eq_true rfl) (by decide) ⟨by show _ ≤ 20000; omega, by show _ ≤ 130000; omega⟩ (fun x840 g840 hP840 hg840 => ?_)
    refine VB_lo (lo' := 123) (Nat.le_add_right _ _) ?_
    refine VB_uif_eq (q := 846) (tgt := 968) dL_law_843 (by decide) ?_ ?_
    · skip
      exact VB_widen (by omega) (by omega) (J968 g840 hg840)
    · skip
      refine VB_aload_n (q := 847) dL_law_846 1 rfl rfl ?_
      refine VB_aload_n (q := 848) dL_law_847 2 rfl rfl ?_
      refine VB_aload (q := 850) dL_law_848 6 rfl rfl ?_
      refine VB_iload (q := 852) dL_law_850 10 rfl rfl ?_
      refine VB_aload (q := 854) dL_law_852 6 rfl rfl ?_
      refine VB_iconst (q := 855) dL_law_854 rfl ?_
      refine VB_iald (q := 856) (v := (iZ 4)) dL_law_855 13 12 rfl rfl (0) (by omega) (by omega) (by decide) (hM0) rfl ?_
      refine VB_iconst (q := 857) dL_law_856 rfl ?_
      refine VB_iadd (q := 858) dL_law_857 rfl ?_
      refine VB_top (y := iZ 5) rfl ?_
      refine VB_irem (q := 859) (a := 0) (b := 5) dL_law_858 (by omega) (by decide) (by decide) rfl ?_
      refine VB_top (y := iZ 0) rfl ?_
      refine VB_iload (q := 861) dL_law_859 10 rfl rfl ?_
      refine VB_bipush (q := 863) dL_law_861 (by decide) rfl ?_
      refine VB_idiv (q := 864) (a := 0) (b := 13) dL_law_863 (by omega) (by decide) (by decide) rfl ?_
      refine VB_top (y := iZ 0) rfl ?_
      refine VB_aload (q := 866) dL_law_864 6 rfl rfl ?_
      refine VB_iconst (q := 867) dL_law_866 rfl ?_
      refine VB_iald (q := 868) (v := (iZ 4)) dL_law_867 13 12 rfl rfl (0) (by omega) (by omega) (by decide) (hM0) rfl ?_
      refine VB_iconst (q := 869) dL_law_868 rfl ?_
      refine VB_iadd (q := 870) dL_law_869 rfl ?_
      refine VB_top (y := iZ 5) rfl ?_
      refine VB_irem (q := 871) (a := 0) (b := 5) dL_law_870 (by omega) (by decide) (by decide) rfl ?_
      refine VB_top (y := iZ 0) rfl ?_
      refine VB_iload (q := 873) dL_law_871 10 rfl rfl ?_
      refine VB_sipush (q := 876) dL_law_873 (by decide) rfl ?_
      refine VB_idiv (q := 877) (a := 0) (b := 169) dL_law_876 (by omega) (by decide) (by decide) rfl ?_
      refine VB_top (y := iZ 0) rfl ?_
      refine VB_aload (q := 879) dL_law_877 6 rfl rfl ?_
      refine VB_iconst (q := 880) dL_law_879 rfl ?_
      refine VB_iald (q := 881) (v := (iZ 4)) dL_law_880 13 12 rfl rfl (0) (by omega) (by omega) (by decide) (hM0) rfl ?_
      refine VB_iconst (q := 882) dL_law_881 rfl ?_
      refine VB_iadd (q := 883) dL_law_882 rfl ?_
      refine VB_top (y := iZ 6) rfl ?_
      refine VB_irem (q := 884) (a := 0) (b := 6) dL_law_883 (by omega) (by decide) (by decide) rfl ?_
      refine VB_top (y := iZ 0) rfl ?_
      refine VB_iconst (q := 885) dL_law_884 rfl ?_
      refine VB_isub (q := 886) dL_law_885 rfl ?_
      refine VB_top (y := iZ (-1)) rfl ?_
      refine VB_callU (q := 889) dL_law_886 (u_isWrong (a := a) (c := c) (S := S) (b := b) (d := d) (F := F) hI (wr0 hI (by decide) hK) hg840) yv_L_isWrong rfl gL_law_L_isWrong xU_L rfl (Nat.le_of_ble_eq_true rfl) (by decide) ⟨by show _ ≤ 20000; omega, by show _ ≤ 130000; omega⟩ (fun x886 g886 hP886 hg886 => ?_)
      refine VB_em (x := x886) (fun e886 => VB_lo (lo' := 123) (Nat.le_add_right _ _) (VB_top (y := iZ 0) e886 ?_)) (fun e886 => VB_lo (lo' := 125) (by show 125 ≤ 123 + (if x886 = 0 then 0 else 2); rw [if_neg e886]; omega) ?_)
      · skip
        refine VB_if_eq (q := 892) (tgt := 968) dL_law_889 (by decide) (by decide) (fun _ => ?_) (fun hc => absurd hc (by decide))
        exact VB_widen (by omega) (by omega) (J968 g886 hg886)
      · skip
        refine VB_uif_eq (q := 892) (tgt := 968) dL_law_889 (by decide) ?_ ?_
        · skip
          refine VB_lo (lo' := 123) (by omega) ?_
          exact VB_widen (by omega) (by omega) (J968 g886 hg886)
        · skip
          refine VB_iload (q := 894) dL_law_892 8 rfl rfl ?_
          refine VB_bipush (q := 896) dL_law_894 (by decide) rfl ?_
          refine VB_irem (q := 897) (a := 69) (b := 16) dL_law_896 (by omega) (by decide) (by decide) rfl ?_
          refine VB_top (y := iZ 5) rfl ?_
          refine VB_if_gt (q := 900) (tgt := 943) dL_law_897 (by decide) (by decide) (fun _ => ?_) (fun hc => absurd hc (by decide))
          refine VB_iload (q := 945) dL_law_943 8 rfl rfl ?_
          refine VB_bipush (q := 947) dL_law_945 (by decide) rfl ?_
          refine VB_irem (q := 948) (a := 69) (b := 20) dL_law_947 (by omega) (by decide) (by decide) rfl ?_
          refine VB_top (y := iZ 9) rfl ?_
          refine VB_if_gt (q := 951) (tgt := 964) dL_law_948 (by decide) (by decide) (fun _ => ?_) (fun hc => absurd hc (by decide))
          refine VB_iconst (q := 965) dL_law_964 rfl ?_
          refine VB_goto (tgt := 969) dL_law_965 (by decide) ?_
          refine VB_istore (q := 971) (lv' := [(0, _), (1, _), (2, _), (3, _), (4, _), (5, _), (6, _), (7, _), (8, _), (9, _), (10, _)]) dL_law_969 (by decide) rfl rfl ?_
          refine VB_iinc (q := 974) (y := 70) (lv' := [(0, _), (1, _), (2, _), (3, _), (4, _), (5, _), (6, _), (7, _), (8, _), (9, _), (10, _)]) dL_law_971 8 rfl (by omega) (by decide) rfl rfl ?_
          refine VB_goto (tgt := 64) dL_law_974 (by decide) ?_
          refine VB_loc (lv' := [(0, _), (1, _), (2, _), (3, _), (4, _), (5, _), (6, _), (7, _), (8, _)]) [0, 1, 2, 3, 4, 5, 6, 7, 8] rfl ?_
          refine VB_lo (lo' := 123) (by omega) ?_
          exact VB_widen (by omega) (by omega) (rd70 hL h16 hx S F g886 hI (fun _ => hK) hg886)
set_option maxRecDepth 100000 in
set_option maxHeartbeats 8000000 in
theorem rd69 {s0 L : Nat} {xs : Nat → Int32} {a : Nat → Nat} {c : Nat → ClassId} {b : Nat → Nat} {d : Nat → ClassId} (hL : L ≤ 260) (h16 : 80 ≤ L) (hx : ∀ j, j < 80 → xs j = 31) : ∀ (S : St) (F : Nat → Nat → Int32) (g : Nat → Nat), Iv S F 4 → (0 < 69 → sK S 0 = 0) → (∀ j, g j < 4096) → VB 123 RL cL_law 17 (some .boolean) wsL_law roomB (vXL s0 L xs) (tyl c d) (qF 123) (8862) (53172 + 1250) (wal a c S b d F g) 64 [(0, .ref (s0)), (1, .ref (a 0)), (2, .ref (b 0)), (3, .ref (b 1)), (4, .ref (b 2)), (5, .ref (b 3)), (6, .ref (b 4)), (7, .int (iZ 1)), (8, .int (iZ 69))] [] := by
  intro S F g hI hK hg
  obtain ⟨ho, hn, hm4, hM0, hG, hC⟩ := id hI
  refine VB_iload (q := 66) dL_law_64 8 rfl rfl ?_
  refine VB_bipush (q := 68) dL_law_66 (by decide) rfl ?_
  refine VB_icmp_ge (q := 71) (tgt := 977) dL_law_68 (by decide) (by decide) (by decide) (fun hc => absurd hc (by decide)) (fun _ => ?_)
  refine VB_iload (q := 73) dL_law_71 7 rfl rfl ?_
  refine VB_if_eq (q := 76) (tgt := 977) dL_law_73 (by decide) (by decide) (fun hc => absurd hc (by decide)) (fun _ => ?_)
  refine VB_aload_n (q := 77) dL_law_76 0 rfl rfl ?_
  refine VB_iload (q := 79) dL_law_77 8 rfl rfl ?_
  refine VB_callD (q := 82) dL_law_79 (u_dice (b := s0) (L := L) (xs := xs) 69 (by omega) hL (hx 69 (by omega))) yv_L_dice rfl gL_law_L_dice xL_s rfl (Nat.le_of_ble_eq_true rfl) (by decide) ⟨by show _ ≤ 20000; omega, by show _ ≤ 130000; omega⟩ ?_
  refine VB_istore (q := 84) (lv' := [(0, _), (1, _), (2, _), (3, _), (4, _), (5, _), (6, _), (7, _), (8, _), (9, _)]) dL_law_82 (by decide) rfl rfl ?_
  refine VB_iload (q := 86) dL_law_84 9 rfl rfl ?_
  refine VB_bipush (q := 88) dL_law_86 (by decide) rfl ?_
  refine VB_idiv (q := 89) (a := 31) (b := 32) dL_law_88 (by omega) (by decide) (by decide) rfl ?_
  refine VB_top (y := iZ 0) rfl ?_
  refine VB_istore (q := 91) (lv' := [(0, _), (1, _), (2, _), (3, _), (4, _), (5, _), (6, _), (7, _), (8, _), (9, _), (10, _)]) dL_law_89 (by decide) rfl rfl ?_
  refine VB_iload (q := 93) dL_law_91 9 rfl rfl ?_
  refine VB_bipush (q := 95) dL_law_93 (by decide) rfl ?_
  refine VB_irem (q := 96) (a := 31) (b := 32) dL_law_95 (by omega) (by decide) (by decide) rfl ?_
  refine VB_top (y := iZ 31) rfl ?_
  refine VB_istore (q := 98) (lv' := [(0, _), (1, _), (2, _), (3, _), (4, _), (5, _), (6, _), (7, _), (8, _), (9, _), (10, _), (11, _)]) dL_law_96 (by decide) rfl rfl ?_
  refine VB_aload (q := 100) dL_law_98 6 rfl rfl ?_
  refine VB_iconst (q := 101) dL_law_100 rfl ?_
  refine VB_iald (q := 102) (v := (iZ 4)) dL_law_101 13 12 rfl rfl (0) (by omega) (by omega) (by decide) (hM0) rfl ?_
  refine VB_if_ne (q := 105) (tgt := 109) dL_law_102 (by decide) (by decide) (fun _ => ?_) (fun hc => absurd hc (by decide))
  refine VB_iload (q := 111) dL_law_109 10 rfl rfl ?_
  refine VB_aload (q := 113) dL_law_111 6 rfl rfl ?_
  refine VB_iconst (q := 114) dL_law_113 rfl ?_
  refine VB_iald (q := 115) (v := (iZ 4)) dL_law_114 13 12 rfl rfl (0) (by omega) (by omega) (by decide) (hM0) rfl ?_
  refine VB_irem (q := 116) (a := 0) (b := 4) dL_law_115 (by omega) (by decide) (by decide) rfl ?_
  refine VB_top (y := iZ 0) rfl ?_
  refine VB_istore (q := 118) (lv' := [(0, _), (1, _), (2, _), (3, _), (4, _), (5, _), (6, _), (7, _), (8, _), (9, _), (10, _), (11, _), (12, _)]) dL_law_116 (by decide) rfl rfl ?_
  refine VB_aload (q := 120) dL_law_118 6 rfl rfl ?_
  refine VB_iconst (q := 121) dL_law_120 rfl ?_
  refine VB_iald (q := 122) (v := (iZ 4)) dL_law_121 13 12 rfl rfl (0) (by omega) (by omega) (by decide) (hM0) rfl ?_
  refine VB_iconst (q := 123) dL_law_122 rfl ?_
  refine VB_icmp_lt (q := 126) (tgt := 141) dL_law_123 (by decide) (by decide) (by decide) (fun hc => absurd hc (by decide)) (fun _ => ?_)
  refine VB_iload (q := 128) dL_law_126 11 rfl rfl ?_
  refine VB_iconst (q := 129) dL_law_128 rfl ?_
  refine VB_icmp_ge (q := 132) (tgt := 326) dL_law_129 (by decide) (by decide) (by decide) (fun _ => ?_) (fun hc => absurd hc (by decide))
  refine VB_iload (q := 328) dL_law_326 11 rfl rfl ?_
  refine VB_bipush (q := 330) dL_law_328 (by decide) rfl ?_
  refine VB_icmp_ge (q := 333) (tgt := 451) dL_law_330 (by decide) (by decide) (by decide) (fun _ => ?_) (fun hc => absurd hc (by decide))
  refine VB_iload (q := 453) dL_law_451 11 rfl rfl ?_
  refine VB_bipush (q := 455) dL_law_453 (by decide) rfl ?_
  refine VB_icmp_ge (q := 458) (tgt := 603) dL_law_455 (by decide) (by decide) (by decide) (fun _ => ?_) (fun hc => absurd hc (by decide))
  refine VB_iload (q := 605) dL_law_603 11 rfl rfl ?_
  refine VB_bipush (q := 607) dL_law_605 (by decide) rfl ?_
  refine VB_icmp_ge (q := 610) (tgt := 633) dL_law_607 (by decide) (by decide) (by decide) (fun _ => ?_) (fun hc => absurd hc (by decide))
  refine VB_iload (q := 635) dL_law_633 11 rfl rfl ?_
  refine VB_bipush (q := 637) dL_law_635 (by decide) rfl ?_
  refine VB_icmp_ge (q := 640) (tgt := 677) dL_law_637 (by decide) (by decide) (by decide) (fun _ => ?_) (fun hc => absurd hc (by decide))
  refine VB_iload (q := 679) dL_law_677 11 rfl rfl ?_
  refine VB_bipush (q := 681) dL_law_679 (by decide) rfl ?_
  refine VB_icmp_ne (q := 684) (tgt := 783) dL_law_681 (by decide) (by decide) (by decide) (fun _ => ?_) (fun hc => absurd hc (by decide))
  refine VB_loc (lv' := [(0, _), (1, _), (2, _), (3, _), (4, _), (5, _), (6, _), (7, _), (8, _), (9, _), (10, _)]) [0, 1, 2, 3, 4, 5, 6, 7, 8, 9, 10] rfl ?_
  exact VB_widen (by omega) (by omega) (ck69 hL h16 hx S F g hI (hK (by decide)) hg)
set_option maxRecDepth 100000 in
set_option maxHeartbeats 8000000 in
theorem ck68 {s0 L : Nat} {xs : Nat → Int32} {a : Nat → Nat} {c : Nat → ClassId} {b : Nat → Nat} {d : Nat → ClassId} (hL : L ≤ 260) (h16 : 80 ≤ L) (hx : ∀ j, j < 80 → xs j = 31) : ∀ (S : St) (F : Nat → Nat → Int32) (g : Nat → Nat), Iv S F 4 → sK S 0 = 0 → (∀ j, g j < 4096) → VB 123 RL cL_law 17 (some .boolean) wsL_law roomB (vXL s0 L xs) (tyl c d) (qF 123) (8642) (51852 + 1250) (wal a c S b d F g) 783 [(0, .ref (s0)), (1, .ref (a 0)), (2, .ref (b 0)), (3, .ref (b 1)), (4, .ref (b 2)), (5, .ref (b 3)), (6, .ref (b 4)), (7, .int (iZ 1)), (8, .int (iZ 68)), (9, .int (iZ 31)), (10, .int (iZ 0))] [] := by
  intro S F g hI hK hg
  obtain ⟨ho, hn, hm4, hM0, hG, hC⟩ := id hI
  refine VB_iload (q := 785) dL_law_783 7 rfl rfl ?_
  refine VB_if_eq (q := 788) (tgt := 968) dL_law_785 (by decide) (by decide) (fun hc => absurd hc (by decide)) (fun _ => ?_)
  refine VB_aload_n (q := 789) dL_law_788 1 rfl rfl ?_
  refine VB_aload_n (q := 790) dL_law_789 2 rfl rfl ?_
  refine VB_aload_n (q := 791) dL_law_790 3 rfl rfl ?_
  refine VB_aload (q := 793) dL_law_791 6 rfl rfl ?_
  refine VB_callU (q := 796) dL_law_793 (u_areThings (a := a) (c := c) (S := S) (b := b) (d := d) (F := F) hI hg) yv_L_areThings rfl gL_law_L_areThings xU_L rfl (Nat.le_of_ble_eq_true rfl) (by decide) ⟨by show _ ≤ 20000; omega, by show _ ≤ 130000; omega⟩ (fun x793 g793 hP793 hg793 => ?_)
  refine VB_lo (lo' := 123) (Nat.le_add_right _ _) ?_
  have J968 : ∀ (gj968 : Nat → Nat), (∀ j, gj968 j < 4096) → VB 123 RL cL_law 17 (some .boolean) wsL_law roomB (vXL s0 L xs) (tyl c d) (qF 123) (8862) (53172 + 1250) (wal a c S b d F gj968) 968 [(0, .ref (s0)), (1, .ref (a 0)), (2, .ref (b 0)), (3, .ref (b 1)), (4, .ref (b 2)), (5, .ref (b 3)), (6, .ref (b 4)), (7, .int (iZ 1)), (8, .int (iZ 68)), (9, .int (iZ 31)), (10, .int (iZ 0))] [] := by
    intro gj968 hgj968
    refine VB_iconst (q := 969) dL_law_968 rfl ?_
    refine VB_istore (q := 971) (lv' := [(0, _), (1, _), (2, _), (3, _), (4, _), (5, _), (6, _), (7, _), (8, _), (9, _), (10, _)]) dL_law_969 (by decide) rfl rfl ?_
    refine VB_iinc (q := 974) (y := 69) (lv' := [(0, _), (1, _), (2, _), (3, _), (4, _), (5, _), (6, _), (7, _), (8, _), (9, _), (10, _)]) dL_law_971 8 rfl (by omega) (by decide) rfl rfl ?_
    refine VB_goto (tgt := 64) dL_law_974 (by decide) ?_
    refine VB_iload (q := 66) dL_law_64 8 rfl rfl ?_
    refine VB_bipush (q := 68) dL_law_66 (by decide) rfl ?_
    refine VB_icmp_ge (q := 71) (tgt := 977) dL_law_68 (by decide) (by decide) (by decide) (fun hc => absurd hc (by decide)) (fun _ => ?_)
    refine VB_iload (q := 73) dL_law_71 7 rfl rfl ?_
    refine VB_if_eq (q := 76) (tgt := 977) dL_law_73 (by decide) (by decide) (fun _ => ?_) (fun hc => absurd hc (by decide))
    refine VB_iload (q := 979) dL_law_977 7 rfl rfl ?_
    exact VB_ret0 dL_law_979 rfl
  refine VB_uif_eq (q := 799) (tgt := 968) dL_law_796 (by decide) ?_ ?_
  · skip
    exact VB_widen (by omega) (by omega) (J968 g793 hg793)
  · skip
    refine VB_iload (q := 801) dL_law_799 8 rfl rfl ?_
    refine VB_iconst (q := 802) dL_law_801 rfl ?_
    refine VB_irem (q := 803) (a := 68) (b := 2) dL_law_802 (by omega) (by decide) (by decide) rfl ?_
    refine VB_top (y := iZ 0) rfl ?_
    refine VB_if_gt (q := 806) (tgt := 833) dL_law_803 (by decide) (by decide) (fun hc => absurd hc (by decide)) (fun _ => ?_)
    refine VB_aload_n (q := 807) dL_law_806 1 rfl rfl ?_
    refine VB_aload_n (q := 808) dL_law_807 2 rfl rfl ?_
    refine VB_aload_n (q := 809) dL_law_808 3 rfl rfl ?_
    refine VB_aload (q := 811) dL_law_809 4 rfl rfl ?_
    refine VB_aload (q := 813) dL_law_811 6 rfl rfl ?_
    refine VB_iload (q := 815) dL_law_813 10 rfl rfl ?_
    refine VB_bipush (q := 817) dL_law_815 (by decide) rfl ?_
    refine VB_irem (q := 818) (a := 0) (b := 31) dL_law_817 (by omega) (by decide) (by decide) rfl ?_
    refine VB_top (y := iZ 0) rfl ?_
    refine VB_iload (q := 820) dL_law_818 10 rfl rfl ?_
    refine VB_bipush (q := 822) dL_law_820 (by decide) rfl ?_
    refine VB_idiv (q := 823) (a := 0) (b := 31) dL_law_822 (by omega) (by decide) (by decide) rfl ?_
    refine VB_top (y := iZ 0) rfl ?_
    refine VB_sipush (q := 826) dL_law_823 (by decide) rfl ?_
    refine VB_irem (q := 827) (a := 0) (b := 256) dL_law_826 (by omega) (by decide) (by decide) rfl ?_
    refine VB_top (y := iZ 0) rfl ?_
    refine VB_callU (q := 830) dL_law_827 (u_areOutfits (a := a) (c := c) (S := S) (b := b) (d := d) (F := F) hI hg793) yv_L_areOutfits rfl gL_law_L_areOutfits xU_L rfl (Nat.le_of_ble_eq_true rfl) (by decide) ⟨by show _ ≤ 20000; omega, by show _ ≤ 130000; omega⟩ (fun x827 g827 hP827 hg827 => ?_)
    refine VB_lo (lo' := 123) (Nat.le_add_right _ _) ?_
    refine VB_uif_eq (q := 833) (tgt := 968) dL_law_830 (by decide) ?_ ?_
    · skip
      exact VB_widen (by omega) (by omega) (J968 g827 hg827)
    · skip
      refine VB_aload_n (q := 834) dL_law_833 1 rfl rfl ?_
      refine VB_aload_n (q := 835) dL_law_834 2 rfl rfl ?_
      refine VB_aload_n (q := 836) dL_law_835 3 rfl rfl ?_
      refine VB_aload (q := 838) dL_law_836 4 rfl rfl ?_
      refine VB_aload (q := 840) dL_law_838 6 rfl rfl ?_
      refine VB_callU (q := 843) dL_law_840 (u_isMissing (a := a) (c := c) (S := S) (b := b) (d := d) (F := F) hI hg827) yv_L_isMissing rfl gL_law_L_isMissing xU_L rfl (Nat.le_of_ble_eq_true rfl) (by decide) ⟨by show _ ≤ 20000; omega, by show _ ≤ 130000; omega⟩ (fun x840 g840 hP840 hg840 => ?_)
      refine VB_lo (lo' := 123) (Nat.le_add_right _ _) ?_
      refine VB_uif_eq (q := 846) (tgt := 968) dL_law_843 (by decide) ?_ ?_
      · skip
        exact VB_widen (by omega) (by omega) (J968 g840 hg840)
      · skip
        refine VB_aload_n (q := 847) dL_law_846 1 rfl rfl ?_
        refine VB_aload_n (q := 848) dL_law_847 2 rfl rfl ?_
        refine VB_aload (q := 850) dL_law_848 6 rfl rfl ?_
        refine VB_iload (q := 852) dL_law_850 10 rfl rfl ?_
        refine VB_aload (q := 854) dL_law_852 6 rfl rfl ?_
        refine VB_iconst (q := 855) dL_law_854 rfl ?_
        refine VB_iald (q := 856) (v := (iZ 4)) dL_law_855 13 12 rfl rfl (0) (by omega) (by omega) (by decide) (hM0) rfl ?_
        refine VB_iconst (q := 857) dL_law_856 rfl ?_
        refine VB_iadd (q := 858) dL_law_857 rfl ?_
        refine VB_top (y := iZ 5) rfl ?_
        refine VB_irem (q := 859) (a := 0) (b := 5) dL_law_858 (by omega) (by decide) (by decide) rfl ?_
        refine VB_top (y := iZ 0) rfl ?_
        refine VB_iload (q := 861) dL_law_859 10 rfl rfl ?_
        refine VB_bipush (q := 863) dL_law_861 (by decide) rfl ?_
        refine VB_idiv (q := 864) (a := 0) (b := 13) dL_law_863 (by omega) (by decide) (by decide) rfl ?_
        refine VB_top (y := iZ 0) rfl ?_
        refine VB_aload (q := 866) dL_law_864 6 rfl rfl ?_
        refine VB_iconst (q := 867) dL_law_866 rfl ?_
        refine VB_iald (q := 868) (v := (iZ 4)) dL_law_867 13 12 rfl rfl (0) (by omega) (by omega) (by decide) (hM0) rfl ?_
        refine VB_iconst (q := 869) dL_law_868 rfl ?_
        refine VB_iadd (q := 870) dL_law_869 rfl ?_
        refine VB_top (y := iZ 5) rfl ?_
        refine VB_irem (q := 871) (a := 0) (b := 5) dL_law_870 (by omega) (by decide) (by decide) rfl ?_
        refine VB_top (y := iZ 0) rfl ?_
        refine VB_iload (q := 873) dL_law_871 10 rfl rfl ?_
        refine VB_sipush (q := 876) dL_law_873 (by decide) rfl ?_
        refine VB_idiv (q := 877) (a := 0) (b := 169) dL_law_876 (by omega) (by decide) (by decide) rfl ?_
        refine VB_top (y := iZ 0) rfl ?_
        refine VB_aload (q := 879) dL_law_877 6 rfl rfl ?_
        refine VB_iconst (q := 880) dL_law_879 rfl ?_
        refine VB_iald (q := 881) (v := (iZ 4)) dL_law_880 13 12 rfl rfl (0) (by omega) (by omega) (by decide) (hM0) rfl ?_
        refine VB_iconst (q := 882) dL_law_881 rfl ?_
        refine VB_iadd (q := 883) dL_law_882 rfl ?_
        refine VB_top (y := iZ 6) rfl ?_
        refine VB_irem (q := 884) (a := 0) (b := 6) dL_law_883 (by omega) (by decide) (by decide) rfl ?_
        refine VB_top (y := iZ 0) rfl ?_
        refine VB_iconst (q := 885) dL_law_884 rfl ?_
        refine VB_isub (q := 886) dL_law_885 rfl ?_
        refine VB_top (y := iZ (-1)) rfl ?_
        refine VB_callU (q := 889) dL_law_886 (u_isWrong (a := a) (c := c) (S := S) (b := b) (d := d) (F := F) hI (wr0 hI (by decide) hK) hg840) yv_L_isWrong rfl gL_law_L_isWrong xU_L rfl (Nat.le_of_ble_eq_true rfl) (by decide) ⟨by show _ ≤ 20000; omega, by show _ ≤ 130000; omega⟩ (fun x886 g886 hP886 hg886 => ?_)
        refine VB_em (x := x886) (fun e886 => VB_lo (lo' := 123) (Nat.le_add_right _ _) (VB_top (y := iZ 0) e886 ?_)) (fun e886 => VB_lo (lo' := 125) (by show 125 ≤ 123 + (if x886 = 0 then 0 else 2); rw [if_neg e886]; omega) ?_)
        · skip
          refine VB_if_eq (q := 892) (tgt := 968) dL_law_889 (by decide) (by decide) (fun _ => ?_) (fun hc => absurd hc (by decide))
          exact VB_widen (by omega) (by omega) (J968 g886 hg886)
        · skip
          refine VB_uif_eq (q := 892) (tgt := 968) dL_law_889 (by decide) ?_ ?_
          · skip
            refine VB_lo (lo' := 123) (by omega) ?_
            exact VB_widen (by omega) (by omega) (J968 g886 hg886)
          · skip
            refine VB_iload (q := 894) dL_law_892 8 rfl rfl ?_
            refine VB_bipush (q := 896) dL_law_894 (by decide) rfl ?_
            refine VB_irem (q := 897) (a := 68) (b := 16) dL_law_896 (by omega) (by decide) (by decide) rfl ?_
            refine VB_top (y := iZ 4) rfl ?_
            refine VB_if_gt (q := 900) (tgt := 943) dL_law_897 (by decide) (by decide) (fun _ => ?_) (fun hc => absurd hc (by decide))
            refine VB_iload (q := 945) dL_law_943 8 rfl rfl ?_
            refine VB_bipush (q := 947) dL_law_945 (by decide) rfl ?_
            refine VB_irem (q := 948) (a := 68) (b := 20) dL_law_947 (by omega) (by decide) (by decide) rfl ?_
            refine VB_top (y := iZ 8) rfl ?_
            refine VB_if_gt (q := 951) (tgt := 964) dL_law_948 (by decide) (by decide) (fun _ => ?_) (fun hc => absurd hc (by decide))
            refine VB_iconst (q := 965) dL_law_964 rfl ?_
            refine VB_goto (tgt := 969) dL_law_965 (by decide) ?_
            refine VB_istore (q := 971) (lv' := [(0, _), (1, _), (2, _), (3, _), (4, _), (5, _), (6, _), (7, _), (8, _), (9, _), (10, _)]) dL_law_969 (by decide) rfl rfl ?_
            refine VB_iinc (q := 974) (y := 69) (lv' := [(0, _), (1, _), (2, _), (3, _), (4, _), (5, _), (6, _), (7, _), (8, _), (9, _), (10, _)]) dL_law_971 8 rfl (by omega) (by decide) rfl rfl ?_
            refine VB_goto (tgt := 64) dL_law_974 (by decide) ?_
            refine VB_loc (lv' := [(0, _), (1, _), (2, _), (3, _), (4, _), (5, _), (6, _), (7, _), (8, _)]) [0, 1, 2, 3, 4, 5, 6, 7, 8] rfl ?_
            refine VB_lo (lo' := 123) (by omega) ?_
            exact VB_widen (by omega) (by omega) (rd69 hL h16 hx S F g886 hI (fun _ => hK) hg886)
set_option maxRecDepth 100000 in
set_option maxHeartbeats 8000000 in
theorem rd68 {s0 L : Nat} {xs : Nat → Int32} {a : Nat → Nat} {c : Nat → ClassId} {b : Nat → Nat} {d : Nat → ClassId} (hL : L ≤ 260) (h16 : 80 ≤ L) (hx : ∀ j, j < 80 → xs j = 31) : ∀ (S : St) (F : Nat → Nat → Int32) (g : Nat → Nat), Iv S F 4 → (0 < 68 → sK S 0 = 0) → (∀ j, g j < 4096) → VB 123 RL cL_law 17 (some .boolean) wsL_law roomB (vXL s0 L xs) (tyl c d) (qF 123) (8642) (51852 + 1250) (wal a c S b d F g) 64 [(0, .ref (s0)), (1, .ref (a 0)), (2, .ref (b 0)), (3, .ref (b 1)), (4, .ref (b 2)), (5, .ref (b 3)), (6, .ref (b 4)), (7, .int (iZ 1)), (8, .int (iZ 68))] [] := by
  intro S F g hI hK hg
  obtain ⟨ho, hn, hm4, hM0, hG, hC⟩ := id hI
  refine VB_iload (q := 66) dL_law_64 8 rfl rfl ?_
  refine VB_bipush (q := 68) dL_law_66 (by decide) rfl ?_
  refine VB_icmp_ge (q := 71) (tgt := 977) dL_law_68 (by decide) (by decide) (by decide) (fun hc => absurd hc (by decide)) (fun _ => ?_)
  refine VB_iload (q := 73) dL_law_71 7 rfl rfl ?_
  refine VB_if_eq (q := 76) (tgt := 977) dL_law_73 (by decide) (by decide) (fun hc => absurd hc (by decide)) (fun _ => ?_)
  refine VB_aload_n (q := 77) dL_law_76 0 rfl rfl ?_
  refine VB_iload (q := 79) dL_law_77 8 rfl rfl ?_
  refine VB_callD (q := 82) dL_law_79 (u_dice (b := s0) (L := L) (xs := xs) 68 (by omega) hL (hx 68 (by omega))) yv_L_dice rfl gL_law_L_dice xL_s rfl (Nat.le_of_ble_eq_true rfl) (by decide) ⟨by show _ ≤ 20000; omega, by show _ ≤ 130000; omega⟩ ?_
  refine VB_istore (q := 84) (lv' := [(0, _), (1, _), (2, _), (3, _), (4, _), (5, _), (6, _), (7, _), (8, _), (9, _)]) dL_law_82 (by decide) rfl rfl ?_
  refine VB_iload (q := 86) dL_law_84 9 rfl rfl ?_
  refine VB_bipush (q := 88) dL_law_86 (by decide) rfl ?_
  refine VB_idiv (q := 89) (a := 31) (b := 32) dL_law_88 (by omega) (by decide) (by decide) rfl ?_
  refine VB_top (y := iZ 0) rfl ?_
  refine VB_istore (q := 91) (lv' := [(0, _), (1, _), (2, _), (3, _), (4, _), (5, _), (6, _), (7, _), (8, _), (9, _), (10, _)]) dL_law_89 (by decide) rfl rfl ?_
  refine VB_iload (q := 93) dL_law_91 9 rfl rfl ?_
  refine VB_bipush (q := 95) dL_law_93 (by decide) rfl ?_
  refine VB_irem (q := 96) (a := 31) (b := 32) dL_law_95 (by omega) (by decide) (by decide) rfl ?_
  refine VB_top (y := iZ 31) rfl ?_
  refine VB_istore (q := 98) (lv' := [(0, _), (1, _), (2, _), (3, _), (4, _), (5, _), (6, _), (7, _), (8, _), (9, _), (10, _), (11, _)]) dL_law_96 (by decide) rfl rfl ?_
  refine VB_aload (q := 100) dL_law_98 6 rfl rfl ?_
  refine VB_iconst (q := 101) dL_law_100 rfl ?_
  refine VB_iald (q := 102) (v := (iZ 4)) dL_law_101 13 12 rfl rfl (0) (by omega) (by omega) (by decide) (hM0) rfl ?_
  refine VB_if_ne (q := 105) (tgt := 109) dL_law_102 (by decide) (by decide) (fun _ => ?_) (fun hc => absurd hc (by decide))
  refine VB_iload (q := 111) dL_law_109 10 rfl rfl ?_
  refine VB_aload (q := 113) dL_law_111 6 rfl rfl ?_
  refine VB_iconst (q := 114) dL_law_113 rfl ?_
  refine VB_iald (q := 115) (v := (iZ 4)) dL_law_114 13 12 rfl rfl (0) (by omega) (by omega) (by decide) (hM0) rfl ?_
  refine VB_irem (q := 116) (a := 0) (b := 4) dL_law_115 (by omega) (by decide) (by decide) rfl ?_
  refine VB_top (y := iZ 0) rfl ?_
  refine VB_istore (q := 118) (lv' := [(0, _), (1, _), (2, _), (3, _), (4, _), (5, _), (6, _), (7, _), (8, _), (9, _), (10, _), (11, _), (12, _)]) dL_law_116 (by decide) rfl rfl ?_
  refine VB_aload (q := 120) dL_law_118 6 rfl rfl ?_
  refine VB_iconst (q := 121) dL_law_120 rfl ?_
  refine VB_iald (q := 122) (v := (iZ 4)) dL_law_121 13 12 rfl rfl (0) (by omega) (by omega) (by decide) (hM0) rfl ?_
  refine VB_iconst (q := 123) dL_law_122 rfl ?_
  refine VB_icmp_lt (q := 126) (tgt := 141) dL_law_123 (by decide) (by decide) (by decide) (fun hc => absurd hc (by decide)) (fun _ => ?_)
  refine VB_iload (q := 128) dL_law_126 11 rfl rfl ?_
  refine VB_iconst (q := 129) dL_law_128 rfl ?_
  refine VB_icmp_ge (q := 132) (tgt := 326) dL_law_129 (by decide) (by decide) (by decide) (fun _ => ?_) (fun hc => absurd hc (by decide))
  refine VB_iload (q := 328) dL_law_326 11 rfl rfl ?_
  refine VB_bipush (q := 330) dL_law_328 (by decide) rfl ?_
  refine VB_icmp_ge (q := 333) (tgt := 451) dL_law_330 (by decide) (by decide) (by decide) (fun _ => ?_) (fun hc => absurd hc (by decide))
  refine VB_iload (q := 453) dL_law_451 11 rfl rfl ?_
  refine VB_bipush (q := 455) dL_law_453 (by decide) rfl ?_
  refine VB_icmp_ge (q := 458) (tgt := 603) dL_law_455 (by decide) (by decide) (by decide) (fun _ => ?_) (fun hc => absurd hc (by decide))
  refine VB_iload (q := 605) dL_law_603 11 rfl rfl ?_
  refine VB_bipush (q := 607) dL_law_605 (by decide) rfl ?_
  refine VB_icmp_ge (q := 610) (tgt := 633) dL_law_607 (by decide) (by decide) (by decide) (fun _ => ?_) (fun hc => absurd hc (by decide))
  refine VB_iload (q := 635) dL_law_633 11 rfl rfl ?_
  refine VB_bipush (q := 637) dL_law_635 (by decide) rfl ?_
  refine VB_icmp_ge (q := 640) (tgt := 677) dL_law_637 (by decide) (by decide) (by decide) (fun _ => ?_) (fun hc => absurd hc (by decide))
  refine VB_iload (q := 679) dL_law_677 11 rfl rfl ?_
  refine VB_bipush (q := 681) dL_law_679 (by decide) rfl ?_
  refine VB_icmp_ne (q := 684) (tgt := 783) dL_law_681 (by decide) (by decide) (by decide) (fun _ => ?_) (fun hc => absurd hc (by decide))
  refine VB_loc (lv' := [(0, _), (1, _), (2, _), (3, _), (4, _), (5, _), (6, _), (7, _), (8, _), (9, _), (10, _)]) [0, 1, 2, 3, 4, 5, 6, 7, 8, 9, 10] rfl ?_
  exact VB_widen (by omega) (by omega) (ck68 hL h16 hx S F g hI (hK (by decide)) hg)
set_option maxRecDepth 100000 in
set_option maxHeartbeats 8000000 in
theorem ck67 {s0 L : Nat} {xs : Nat → Int32} {a : Nat → Nat} {c : Nat → ClassId} {b : Nat → Nat} {d : Nat → ClassId} (hL : L ≤ 260) (h16 : 80 ≤ L) (hx : ∀ j, j < 80 → xs j = 31) : ∀ (S : St) (F : Nat → Nat → Int32) (g : Nat → Nat), Iv S F 4 → sK S 0 = 0 → (∀ j, g j < 4096) → VB 123 RL cL_law 17 (some .boolean) wsL_law roomB (vXL s0 L xs) (tyl c d) (qF 123) (8622) (51732 + 1250) (wal a c S b d F g) 783 [(0, .ref (s0)), (1, .ref (a 0)), (2, .ref (b 0)), (3, .ref (b 1)), (4, .ref (b 2)), (5, .ref (b 3)), (6, .ref (b 4)), (7, .int (iZ 1)), (8, .int (iZ 67)), (9, .int (iZ 31)), (10, .int (iZ 0))] [] := by
  intro S F g hI hK hg
  obtain ⟨ho, hn, hm4, hM0, hG, hC⟩ := id hI
  refine VB_iload (q := 785) dL_law_783 7 rfl rfl ?_
  refine VB_if_eq (q := 788) (tgt := 968) dL_law_785 (by decide) (by decide) (fun hc => absurd hc (by decide)) (fun _ => ?_)
  refine VB_aload_n (q := 789) dL_law_788 1 rfl rfl ?_
  refine VB_aload_n (q := 790) dL_law_789 2 rfl rfl ?_
  refine VB_aload_n (q := 791) dL_law_790 3 rfl rfl ?_
  refine VB_aload (q := 793) dL_law_791 6 rfl rfl ?_
  refine VB_callU (q := 796) dL_law_793 (u_areThings (a := a) (c := c) (S := S) (b := b) (d := d) (F := F) hI hg) yv_L_areThings rfl gL_law_L_areThings xU_L rfl (Nat.le_of_ble_eq_true rfl) (by decide) ⟨by show _ ≤ 20000; omega, by show _ ≤ 130000; omega⟩ (fun x793 g793 hP793 hg793 => ?_)
  refine VB_lo (lo' := 123) (Nat.le_add_right _ _) ?_
  have J968 : ∀ (gj968 : Nat → Nat), (∀ j, gj968 j < 4096) → VB 123 RL cL_law 17 (some .boolean) wsL_law roomB (vXL s0 L xs) (tyl c d) (qF 123) (8642) (51852 + 1250) (wal a c S b d F gj968) 968 [(0, .ref (s0)), (1, .ref (a 0)), (2, .ref (b 0)), (3, .ref (b 1)), (4, .ref (b 2)), (5, .ref (b 3)), (6, .ref (b 4)), (7, .int (iZ 1)), (8, .int (iZ 67)), (9, .int (iZ 31)), (10, .int (iZ 0))] [] := by
    intro gj968 hgj968
    refine VB_iconst (q := 969) dL_law_968 rfl ?_
    refine VB_istore (q := 971) (lv' := [(0, _), (1, _), (2, _), (3, _), (4, _), (5, _), (6, _), (7, _), (8, _), (9, _), (10, _)]) dL_law_969 (by decide) rfl rfl ?_
    refine VB_iinc (q := 974) (y := 68) (lv' := [(0, _), (1, _), (2, _), (3, _), (4, _), (5, _), (6, _), (7, _), (8, _), (9, _), (10, _)]) dL_law_971 8 rfl (by omega) (by decide) rfl rfl ?_
    refine VB_goto (tgt := 64) dL_law_974 (by decide) ?_
    refine VB_iload (q := 66) dL_law_64 8 rfl rfl ?_
    refine VB_bipush (q := 68) dL_law_66 (by decide) rfl ?_
    refine VB_icmp_ge (q := 71) (tgt := 977) dL_law_68 (by decide) (by decide) (by decide) (fun hc => absurd hc (by decide)) (fun _ => ?_)
    refine VB_iload (q := 73) dL_law_71 7 rfl rfl ?_
    refine VB_if_eq (q := 76) (tgt := 977) dL_law_73 (by decide) (by decide) (fun _ => ?_) (fun hc => absurd hc (by decide))
    refine VB_iload (q := 979) dL_law_977 7 rfl rfl ?_
    exact VB_ret0 dL_law_979 rfl
  refine VB_uif_eq (q := 799) (tgt := 968) dL_law_796 (by decide) ?_ ?_
  · skip
    exact VB_widen (by omega) (by omega) (J968 g793 hg793)
  · skip
    refine VB_iload (q := 801) dL_law_799 8 rfl rfl ?_
    refine VB_iconst (q := 802) dL_law_801 rfl ?_
    refine VB_irem (q := 803) (a := 67) (b := 2) dL_law_802 (by omega) (by decide) (by decide) rfl ?_
    refine VB_top (y := iZ 1) rfl ?_
    refine VB_if_gt (q := 806) (tgt := 833) dL_law_803 (by decide) (by decide) (fun _ => ?_) (fun hc => absurd hc (by decide))
    refine VB_aload_n (q := 834) dL_law_833 1 rfl rfl ?_
    refine VB_aload_n (q := 835) dL_law_834 2 rfl rfl ?_
    refine VB_aload_n (q := 836) dL_law_835 3 rfl rfl ?_
    refine VB_aload (q := 838) dL_law_836 4 rfl rfl ?_
    refine VB_aload (q := 840) dL_law_838 6 rfl rfl ?_
    refine VB_callU (q := 843) dL_law_840 (u_isMissing (a := a) (c := c) (S := S) (b := b) (d := d) (F := F) hI hg793) yv_L_isMissing rfl gL_law_L_isMissing xU_L rfl (Nat.le_of_ble_eq_true rfl) (by decide) ⟨by show _ ≤ 20000; omega, by show _ ≤ 130000; omega⟩ (fun x840 g840 hP840 hg840 => ?_)
    refine VB_lo (lo' := 123) (Nat.le_add_right _ _) ?_
    refine VB_uif_eq (q := 846) (tgt := 968) dL_law_843 (by decide) ?_ ?_
    · skip
      exact VB_widen (by omega) (by omega) (J968 g840 hg840)
    · skip
      refine VB_aload_n (q := 847) dL_law_846 1 rfl rfl ?_
      refine VB_aload_n (q := 848) dL_law_847 2 rfl rfl ?_
      refine VB_aload (q := 850) dL_law_848 6 rfl rfl ?_
      refine VB_iload (q := 852) dL_law_850 10 rfl rfl ?_
      refine VB_aload (q := 854) dL_law_852 6 rfl rfl ?_
      refine VB_iconst (q := 855) dL_law_854 rfl ?_
      refine VB_iald (q := 856) (v := (iZ 4)) dL_law_855 13 12 rfl rfl (0) (by omega) (by omega) (by decide) (hM0) rfl ?_
      refine VB_iconst (q := 857) dL_law_856 rfl ?_
      refine VB_iadd (q := 858) dL_law_857 rfl ?_
      refine VB_top (y := iZ 5) rfl ?_
      refine VB_irem (q := 859) (a := 0) (b := 5) dL_law_858 (by omega) (by decide) (by decide) rfl ?_
      refine VB_top (y := iZ 0) rfl ?_
      refine VB_iload (q := 861) dL_law_859 10 rfl rfl ?_
      refine VB_bipush (q := 863) dL_law_861 (by decide) rfl ?_
      refine VB_idiv (q := 864) (a := 0) (b := 13) dL_law_863 (by omega) (by decide) (by decide) rfl ?_
      refine VB_top (y := iZ 0) rfl ?_
      refine VB_aload (q := 866) dL_law_864 6 rfl rfl ?_
      refine VB_iconst (q := 867) dL_law_866 rfl ?_
      refine VB_iald (q := 868) (v := (iZ 4)) dL_law_867 13 12 rfl rfl (0) (by omega) (by omega) (by decide) (hM0) rfl ?_
      refine VB_iconst (q := 869) dL_law_868 rfl ?_
      refine VB_iadd (q := 870) dL_law_869 rfl ?_
      refine VB_top (y := iZ 5) rfl ?_
      refine VB_irem (q := 871) (a := 0) (b := 5) dL_law_870 (by omega) (by decide) (by decide) rfl ?_
      refine VB_top (y := iZ 0) rfl ?_
      refine VB_iload (q := 873) dL_law_871 10 rfl rfl ?_
      refine VB_sipush (q := 876) dL_law_873 (by decide) rfl ?_
      refine VB_idiv (q := 877) (a := 0) (b := 169) dL_law_876 (by omega) (by decide) (by decide) rfl ?_
      refine VB_top (y := iZ 0) rfl ?_
      refine VB_aload (q := 879) dL_law_877 6 rfl rfl ?_
      refine VB_iconst (q := 880) dL_law_879 rfl ?_
      refine VB_iald (q := 881) (v := (iZ 4)) dL_law_880 13 12 rfl rfl (0) (by omega) (by omega) (by decide) (hM0) rfl ?_
      refine VB_iconst (q := 882) dL_law_881 rfl ?_
      refine VB_iadd (q := 883) dL_law_882 rfl ?_
      refine VB_top (y := iZ 6) rfl ?_
      refine VB_irem (q := 884) (a := 0) (b := 6) dL_law_883 (by omega) (by decide) (by decide) rfl ?_
      refine VB_top (y := iZ 0) rfl ?_
      refine VB_iconst (q := 885) dL_law_884 rfl ?_
      refine VB_isub (q := 886) dL_law_885 rfl ?_
      refine VB_top (y := iZ (-1)) rfl ?_
      refine VB_callU (q := 889) dL_law_886 (u_isWrong (a := a) (c := c) (S := S) (b := b) (d := d) (F := F) hI (wr0 hI (by decide) hK) hg840) yv_L_isWrong rfl gL_law_L_isWrong xU_L rfl (Nat.le_of_ble_eq_true rfl) (by decide) ⟨by show _ ≤ 20000; omega, by show _ ≤ 130000; omega⟩ (fun x886 g886 hP886 hg886 => ?_)
      refine VB_em (x := x886) (fun e886 => VB_lo (lo' := 123) (Nat.le_add_right _ _) (VB_top (y := iZ 0) e886 ?_)) (fun e886 => VB_lo (lo' := 125) (by show 125 ≤ 123 + (if x886 = 0 then 0 else 2); rw [if_neg e886]; omega) ?_)
      · skip
        refine VB_if_eq (q := 892) (tgt := 968) dL_law_889 (by decide) (by decide) (fun _ => ?_) (fun hc => absurd hc (by decide))
        exact VB_widen (by omega) (by omega) (J968 g886 hg886)
      · skip
        refine VB_uif_eq (q := 892) (tgt := 968) dL_law_889 (by decide) ?_ ?_
        · skip
          refine VB_lo (lo' := 123) (by omega) ?_
          exact VB_widen (by omega) (by omega) (J968 g886 hg886)
        · skip
          refine VB_iload (q := 894) dL_law_892 8 rfl rfl ?_
          refine VB_bipush (q := 896) dL_law_894 (by decide) rfl ?_
          refine VB_irem (q := 897) (a := 67) (b := 16) dL_law_896 (by omega) (by decide) (by decide) rfl ?_
          refine VB_top (y := iZ 3) rfl ?_
          refine VB_if_gt (q := 900) (tgt := 943) dL_law_897 (by decide) (by decide) (fun _ => ?_) (fun hc => absurd hc (by decide))
          refine VB_iload (q := 945) dL_law_943 8 rfl rfl ?_
          refine VB_bipush (q := 947) dL_law_945 (by decide) rfl ?_
          refine VB_irem (q := 948) (a := 67) (b := 20) dL_law_947 (by omega) (by decide) (by decide) rfl ?_
          refine VB_top (y := iZ 7) rfl ?_
          refine VB_if_gt (q := 951) (tgt := 964) dL_law_948 (by decide) (by decide) (fun _ => ?_) (fun hc => absurd hc (by decide))
          refine VB_iconst (q := 965) dL_law_964 rfl ?_
          refine VB_goto (tgt := 969) dL_law_965 (by decide) ?_
          refine VB_istore (q := 971) (lv' := [(0, _), (1, _), (2, _), (3, _), (4, _), (5, _), (6, _), (7, _), (8, _), (9, _), (10, _)]) dL_law_969 (by decide) rfl rfl ?_
          refine VB_iinc (q := 974) (y := 68) (lv' := [(0, _), (1, _), (2, _), (3, _), (4, _), (5, _), (6, _), (7, _), (8, _), (9, _), (10, _)]) dL_law_971 8 rfl (by omega) (by decide) rfl rfl ?_
          refine VB_goto (tgt := 64) dL_law_974 (by decide) ?_
          refine VB_loc (lv' := [(0, _), (1, _), (2, _), (3, _), (4, _), (5, _), (6, _), (7, _), (8, _)]) [0, 1, 2, 3, 4, 5, 6, 7, 8] rfl ?_
          refine VB_lo (lo' := 123) (by omega) ?_
          exact VB_widen (by omega) (by omega) (rd68 hL h16 hx S F g886 hI (fun _ => hK) hg886)
set_option maxRecDepth 100000 in
set_option maxHeartbeats 8000000 in
theorem rd67 {s0 L : Nat} {xs : Nat → Int32} {a : Nat → Nat} {c : Nat → ClassId} {b : Nat → Nat} {d : Nat → ClassId} (hL : L ≤ 260) (h16 : 80 ≤ L) (hx : ∀ j, j < 80 → xs j = 31) : ∀ (S : St) (F : Nat → Nat → Int32) (g : Nat → Nat), Iv S F 4 → (0 < 67 → sK S 0 = 0) → (∀ j, g j < 4096) → VB 123 RL cL_law 17 (some .boolean) wsL_law roomB (vXL s0 L xs) (tyl c d) (qF 123) (8622) (51732 + 1250) (wal a c S b d F g) 64 [(0, .ref (s0)), (1, .ref (a 0)), (2, .ref (b 0)), (3, .ref (b 1)), (4, .ref (b 2)), (5, .ref (b 3)), (6, .ref (b 4)), (7, .int (iZ 1)), (8, .int (iZ 67))] [] := by
  intro S F g hI hK hg
  obtain ⟨ho, hn, hm4, hM0, hG, hC⟩ := id hI
  refine VB_iload (q := 66) dL_law_64 8 rfl rfl ?_
  refine VB_bipush (q := 68) dL_law_66 (by decide) rfl ?_
  refine VB_icmp_ge (q := 71) (tgt := 977) dL_law_68 (by decide) (by decide) (by decide) (fun hc => absurd hc (by decide)) (fun _ => ?_)
  refine VB_iload (q := 73) dL_law_71 7 rfl rfl ?_
  refine VB_if_eq (q := 76) (tgt := 977) dL_law_73 (by decide) (by decide) (fun hc => absurd hc (by decide)) (fun _ => ?_)
  refine VB_aload_n (q := 77) dL_law_76 0 rfl rfl ?_
  refine VB_iload (q := 79) dL_law_77 8 rfl rfl ?_
  refine VB_callD (q := 82) dL_law_79 (u_dice (b := s0) (L := L) (xs := xs) 67 (by omega) hL (hx 67 (by omega))) yv_L_dice rfl gL_law_L_dice xL_s rfl (Nat.le_of_ble_eq_true rfl) (by decide) ⟨by show _ ≤ 20000; omega, by show _ ≤ 130000; omega⟩ ?_
  refine VB_istore (q := 84) (lv' := [(0, _), (1, _), (2, _), (3, _), (4, _), (5, _), (6, _), (7, _), (8, _), (9, _)]) dL_law_82 (by decide) rfl rfl ?_
  refine VB_iload (q := 86) dL_law_84 9 rfl rfl ?_
  refine VB_bipush (q := 88) dL_law_86 (by decide) rfl ?_
  refine VB_idiv (q := 89) (a := 31) (b := 32) dL_law_88 (by omega) (by decide) (by decide) rfl ?_
  refine VB_top (y := iZ 0) rfl ?_
  refine VB_istore (q := 91) (lv' := [(0, _), (1, _), (2, _), (3, _), (4, _), (5, _), (6, _), (7, _), (8, _), (9, _), (10, _)]) dL_law_89 (by decide) rfl rfl ?_
  refine VB_iload (q := 93) dL_law_91 9 rfl rfl ?_
  refine VB_bipush (q := 95) dL_law_93 (by decide) rfl ?_
  refine VB_irem (q := 96) (a := 31) (b := 32) dL_law_95 (by omega) (by decide) (by decide) rfl ?_
  refine VB_top (y := iZ 31) rfl ?_
  refine VB_istore (q := 98) (lv' := [(0, _), (1, _), (2, _), (3, _), (4, _), (5, _), (6, _), (7, _), (8, _), (9, _), (10, _), (11, _)]) dL_law_96 (by decide) rfl rfl ?_
  refine VB_aload (q := 100) dL_law_98 6 rfl rfl ?_
  refine VB_iconst (q := 101) dL_law_100 rfl ?_
  refine VB_iald (q := 102) (v := (iZ 4)) dL_law_101 13 12 rfl rfl (0) (by omega) (by omega) (by decide) (hM0) rfl ?_
  refine VB_if_ne (q := 105) (tgt := 109) dL_law_102 (by decide) (by decide) (fun _ => ?_) (fun hc => absurd hc (by decide))
  refine VB_iload (q := 111) dL_law_109 10 rfl rfl ?_
  refine VB_aload (q := 113) dL_law_111 6 rfl rfl ?_
  refine VB_iconst (q := 114) dL_law_113 rfl ?_
  refine VB_iald (q := 115) (v := (iZ 4)) dL_law_114 13 12 rfl rfl (0) (by omega) (by omega) (by decide) (hM0) rfl ?_
  refine VB_irem (q := 116) (a := 0) (b := 4) dL_law_115 (by omega) (by decide) (by decide) rfl ?_
  refine VB_top (y := iZ 0) rfl ?_
  refine VB_istore (q := 118) (lv' := [(0, _), (1, _), (2, _), (3, _), (4, _), (5, _), (6, _), (7, _), (8, _), (9, _), (10, _), (11, _), (12, _)]) dL_law_116 (by decide) rfl rfl ?_
  refine VB_aload (q := 120) dL_law_118 6 rfl rfl ?_
  refine VB_iconst (q := 121) dL_law_120 rfl ?_
  refine VB_iald (q := 122) (v := (iZ 4)) dL_law_121 13 12 rfl rfl (0) (by omega) (by omega) (by decide) (hM0) rfl ?_
  refine VB_iconst (q := 123) dL_law_122 rfl ?_
  refine VB_icmp_lt (q := 126) (tgt := 141) dL_law_123 (by decide) (by decide) (by decide) (fun hc => absurd hc (by decide)) (fun _ => ?_)
  refine VB_iload (q := 128) dL_law_126 11 rfl rfl ?_
  refine VB_iconst (q := 129) dL_law_128 rfl ?_
  refine VB_icmp_ge (q := 132) (tgt := 326) dL_law_129 (by decide) (by decide) (by decide) (fun _ => ?_) (fun hc => absurd hc (by decide))
  refine VB_iload (q := 328) dL_law_326 11 rfl rfl ?_
  refine VB_bipush (q := 330) dL_law_328 (by decide) rfl ?_
  refine VB_icmp_ge (q := 333) (tgt := 451) dL_law_330 (by decide) (by decide) (by decide) (fun _ => ?_) (fun hc => absurd hc (by decide))
  refine VB_iload (q := 453) dL_law_451 11 rfl rfl ?_
  refine VB_bipush (q := 455) dL_law_453 (by decide) rfl ?_
  refine VB_icmp_ge (q := 458) (tgt := 603) dL_law_455 (by decide) (by decide) (by decide) (fun _ => ?_) (fun hc => absurd hc (by decide))
  refine VB_iload (q := 605) dL_law_603 11 rfl rfl ?_
  refine VB_bipush (q := 607) dL_law_605 (by decide) rfl ?_
  refine VB_icmp_ge (q := 610) (tgt := 633) dL_law_607 (by decide) (by decide) (by decide) (fun _ => ?_) (fun hc => absurd hc (by decide))
  refine VB_iload (q := 635) dL_law_633 11 rfl rfl ?_
  refine VB_bipush (q := 637) dL_law_635 (by decide) rfl ?_
  refine VB_icmp_ge (q := 640) (tgt := 677) dL_law_637 (by decide) (by decide) (by decide) (fun _ => ?_) (fun hc => absurd hc (by decide))
  refine VB_iload (q := 679) dL_law_677 11 rfl rfl ?_
  refine VB_bipush (q := 681) dL_law_679 (by decide) rfl ?_
  refine VB_icmp_ne (q := 684) (tgt := 783) dL_law_681 (by decide) (by decide) (by decide) (fun _ => ?_) (fun hc => absurd hc (by decide))
  refine VB_loc (lv' := [(0, _), (1, _), (2, _), (3, _), (4, _), (5, _), (6, _), (7, _), (8, _), (9, _), (10, _)]) [0, 1, 2, 3, 4, 5, 6, 7, 8, 9, 10] rfl ?_
  exact VB_widen (by omega) (by omega) (ck67 hL h16 hx S F g hI (hK (by decide)) hg)
set_option maxRecDepth 100000 in
set_option maxHeartbeats 8000000 in
theorem ck66 {s0 L : Nat} {xs : Nat → Int32} {a : Nat → Nat} {c : Nat → ClassId} {b : Nat → Nat} {d : Nat → ClassId} (hL : L ≤ 260) (h16 : 80 ≤ L) (hx : ∀ j, j < 80 → xs j = 31) : ∀ (S : St) (F : Nat → Nat → Int32) (g : Nat → Nat), Iv S F 4 → sK S 0 = 0 → (∀ j, g j < 4096) → VB 123 RL cL_law 17 (some .boolean) wsL_law roomB (vXL s0 L xs) (tyl c d) (qF 123) (8402) (50412 + 1250) (wal a c S b d F g) 783 [(0, .ref (s0)), (1, .ref (a 0)), (2, .ref (b 0)), (3, .ref (b 1)), (4, .ref (b 2)), (5, .ref (b 3)), (6, .ref (b 4)), (7, .int (iZ 1)), (8, .int (iZ 66)), (9, .int (iZ 31)), (10, .int (iZ 0))] [] := by
  intro S F g hI hK hg
  obtain ⟨ho, hn, hm4, hM0, hG, hC⟩ := id hI
  refine VB_iload (q := 785) dL_law_783 7 rfl rfl ?_
  refine VB_if_eq (q := 788) (tgt := 968) dL_law_785 (by decide) (by decide) (fun hc => absurd hc (by decide)) (fun _ => ?_)
  refine VB_aload_n (q := 789) dL_law_788 1 rfl rfl ?_
  refine VB_aload_n (q := 790) dL_law_789 2 rfl rfl ?_
  refine VB_aload_n (q := 791) dL_law_790 3 rfl rfl ?_
  refine VB_aload (q := 793) dL_law_791 6 rfl rfl ?_
  refine VB_callU (q := 796) dL_law_793 (u_areThings (a := a) (c := c) (S := S) (b := b) (d := d) (F := F) hI hg) yv_L_areThings rfl gL_law_L_areThings xU_L rfl (Nat.le_of_ble_eq_true rfl) (by decide) ⟨by show _ ≤ 20000; omega, by show _ ≤ 130000; omega⟩ (fun x793 g793 hP793 hg793 => ?_)
  refine VB_lo (lo' := 123) (Nat.le_add_right _ _) ?_
  have J968 : ∀ (gj968 : Nat → Nat), (∀ j, gj968 j < 4096) → VB 123 RL cL_law 17 (some .boolean) wsL_law roomB (vXL s0 L xs) (tyl c d) (qF 123) (8622) (51732 + 1250) (wal a c S b d F gj968) 968 [(0, .ref (s0)), (1, .ref (a 0)), (2, .ref (b 0)), (3, .ref (b 1)), (4, .ref (b 2)), (5, .ref (b 3)), (6, .ref (b 4)), (7, .int (iZ 1)), (8, .int (iZ 66)), (9, .int (iZ 31)), (10, .int (iZ 0))] [] := by
    intro gj968 hgj968
    refine VB_iconst (q := 969) dL_law_968 rfl ?_
    refine VB_istore (q := 971) (lv' := [(0, _), (1, _), (2, _), (3, _), (4, _), (5, _), (6, _), (7, _), (8, _), (9, _), (10, _)]) dL_law_969 (by decide) rfl rfl ?_
    refine VB_iinc (q := 974) (y := 67) (lv' := [(0, _), (1, _), (2, _), (3, _), (4, _), (5, _), (6, _), (7, _), (8, _), (9, _), (10, _)]) dL_law_971 8 rfl (by omega) (by decide) rfl rfl ?_
    refine VB_goto (tgt := 64) dL_law_974 (by decide) ?_
    refine VB_iload (q := 66) dL_law_64 8 rfl rfl ?_
    refine VB_bipush (q := 68) dL_law_66 (by decide) rfl ?_
    refine VB_icmp_ge (q := 71) (tgt := 977) dL_law_68 (by decide) (by decide) (by decide) (fun hc => absurd hc (by decide)) (fun _ => ?_)
    refine VB_iload (q := 73) dL_law_71 7 rfl rfl ?_
    refine VB_if_eq (q := 76) (tgt := 977) dL_law_73 (by decide) (by decide) (fun _ => ?_) (fun hc => absurd hc (by decide))
    refine VB_iload (q := 979) dL_law_977 7 rfl rfl ?_
    exact VB_ret0 dL_law_979 rfl
  refine VB_uif_eq (q := 799) (tgt := 968) dL_law_796 (by decide) ?_ ?_
  · skip
    exact VB_widen (by omega) (by omega) (J968 g793 hg793)
  · skip
    refine VB_iload (q := 801) dL_law_799 8 rfl rfl ?_
    refine VB_iconst (q := 802) dL_law_801 rfl ?_
    refine VB_irem (q := 803) (a := 66) (b := 2) dL_law_802 (by omega) (by decide) (by decide) rfl ?_
    refine VB_top (y := iZ 0) rfl ?_
    refine VB_if_gt (q := 806) (tgt := 833) dL_law_803 (by decide) (by decide) (fun hc => absurd hc (by decide)) (fun _ => ?_)
    refine VB_aload_n (q := 807) dL_law_806 1 rfl rfl ?_
    refine VB_aload_n (q := 808) dL_law_807 2 rfl rfl ?_
    refine VB_aload_n (q := 809) dL_law_808 3 rfl rfl ?_
    refine VB_aload (q := 811) dL_law_809 4 rfl rfl ?_
    refine VB_aload (q := 813) dL_law_811 6 rfl rfl ?_
    refine VB_iload (q := 815) dL_law_813 10 rfl rfl ?_
    refine VB_bipush (q := 817) dL_law_815 (by decide) rfl ?_
    refine VB_irem (q := 818) (a := 0) (b := 31) dL_law_817 (by omega) (by decide) (by decide) rfl ?_
    refine VB_top (y := iZ 0) rfl ?_
    refine VB_iload (q := 820) dL_law_818 10 rfl rfl ?_
    refine VB_bipush (q := 822) dL_law_820 (by decide) rfl ?_
    refine VB_idiv (q := 823) (a := 0) (b := 31) dL_law_822 (by omega) (by decide) (by decide) rfl ?_
    refine VB_top (y := iZ 0) rfl ?_
    refine VB_sipush (q := 826) dL_law_823 (by decide) rfl ?_
    refine VB_irem (q := 827) (a := 0) (b := 256) dL_law_826 (by omega) (by decide) (by decide) rfl ?_
    refine VB_top (y := iZ 0) rfl ?_
    refine VB_callU (q := 830) dL_law_827 (u_areOutfits (a := a) (c := c) (S := S) (b := b) (d := d) (F := F) hI hg793) yv_L_areOutfits rfl gL_law_L_areOutfits xU_L rfl (Nat.le_of_ble_eq_true rfl) (by decide) ⟨by show _ ≤ 20000; omega, by show _ ≤ 130000; omega⟩ (fun x827 g827 hP827 hg827 => ?_)
    refine VB_lo (lo' := 123) (Nat.le_add_right _ _) ?_
    refine VB_uif_eq (q := 833) (tgt := 968) dL_law_830 (by decide) ?_ ?_
    · skip
      exact VB_widen (by omega) (by omega) (J968 g827 hg827)
    · skip
      refine VB_aload_n (q := 834) dL_law_833 1 rfl rfl ?_
      refine VB_aload_n (q := 835) dL_law_834 2 rfl rfl ?_
      refine VB_aload_n (q := 836) dL_law_835 3 rfl rfl ?_
      refine VB_aload (q := 838) dL_law_836 4 rfl rfl ?_
      refine VB_aload (q := 840) dL_law_838 6 rfl rfl ?_
      refine VB_callU (q := 843) dL_law_840 (u_isMissing (a := a) (c := c) (S := S) (b := b) (d := d) (F := F) hI hg827) yv_L_isMissing rfl gL_law_L_isMissing xU_L rfl (Nat.le_of_ble_eq_true rfl) (by decide) ⟨by show _ ≤ 20000; omega, by show _ ≤ 130000; omega⟩ (fun x840 g840 hP840 hg840 => ?_)
      refine VB_lo (lo' := 123) (Nat.le_add_right _ _) ?_
      refine VB_uif_eq (q := 846) (tgt := 968) dL_law_843 (by decide) ?_ ?_
      · skip
        exact VB_widen (by omega) (by omega) (J968 g840 hg840)
      · skip
        refine VB_aload_n (q := 847) dL_law_846 1 rfl rfl ?_
        refine VB_aload_n (q := 848) dL_law_847 2 rfl rfl ?_
        refine VB_aload (q := 850) dL_law_848 6 rfl rfl ?_
        refine VB_iload (q := 852) dL_law_850 10 rfl rfl ?_
        refine VB_aload (q := 854) dL_law_852 6 rfl rfl ?_
        refine VB_iconst (q := 855) dL_law_854 rfl ?_
        refine VB_iald (q := 856) (v := (iZ 4)) dL_law_855 13 12 rfl rfl (0) (by omega) (by omega) (by decide) (hM0) rfl ?_
        refine VB_iconst (q := 857) dL_law_856 rfl ?_
        refine VB_iadd (q := 858) dL_law_857 rfl ?_
        refine VB_top (y := iZ 5) rfl ?_
        refine VB_irem (q := 859) (a := 0) (b := 5) dL_law_858 (by omega) (by decide) (by decide) rfl ?_
        refine VB_top (y := iZ 0) rfl ?_
        refine VB_iload (q := 861) dL_law_859 10 rfl rfl ?_
        refine VB_bipush (q := 863) dL_law_861 (by decide) rfl ?_
        refine VB_idiv (q := 864) (a := 0) (b := 13) dL_law_863 (by omega) (by decide) (by decide) rfl ?_
        refine VB_top (y := iZ 0) rfl ?_
        refine VB_aload (q := 866) dL_law_864 6 rfl rfl ?_
        refine VB_iconst (q := 867) dL_law_866 rfl ?_
        refine VB_iald (q := 868) (v := (iZ 4)) dL_law_867 13 12 rfl rfl (0) (by omega) (by omega) (by decide) (hM0) rfl ?_
        refine VB_iconst (q := 869) dL_law_868 rfl ?_
        refine VB_iadd (q := 870) dL_law_869 rfl ?_
        refine VB_top (y := iZ 5) rfl ?_
        refine VB_irem (q := 871) (a := 0) (b := 5) dL_law_870 (by omega) (by decide) (by decide) rfl ?_
        refine VB_top (y := iZ 0) rfl ?_
        refine VB_iload (q := 873) dL_law_871 10 rfl rfl ?_
        refine VB_sipush (q := 876) dL_law_873 (by decide) rfl ?_
        refine VB_idiv (q := 877) (a := 0) (b := 169) dL_law_876 (by omega) (by decide) (by decide) rfl ?_
        refine VB_top (y := iZ 0) rfl ?_
        refine VB_aload (q := 879) dL_law_877 6 rfl rfl ?_
        refine VB_iconst (q := 880) dL_law_879 rfl ?_
        refine VB_iald (q := 881) (v := (iZ 4)) dL_law_880 13 12 rfl rfl (0) (by omega) (by omega) (by decide) (hM0) rfl ?_
        refine VB_iconst (q := 882) dL_law_881 rfl ?_
        refine VB_iadd (q := 883) dL_law_882 rfl ?_
        refine VB_top (y := iZ 6) rfl ?_
        refine VB_irem (q := 884) (a := 0) (b := 6) dL_law_883 (by omega) (by decide) (by decide) rfl ?_
        refine VB_top (y := iZ 0) rfl ?_
        refine VB_iconst (q := 885) dL_law_884 rfl ?_
        refine VB_isub (q := 886) dL_law_885 rfl ?_
        refine VB_top (y := iZ (-1)) rfl ?_
        refine VB_callU (q := 889) dL_law_886 (u_isWrong (a := a) (c := c) (S := S) (b := b) (d := d) (F := F) hI (wr0 hI (by decide) hK) hg840) yv_L_isWrong rfl gL_law_L_isWrong xU_L rfl (Nat.le_of_ble_eq_true rfl) (by decide) ⟨by show _ ≤ 20000; omega, by show _ ≤ 130000; omega⟩ (fun x886 g886 hP886 hg886 => ?_)
        refine VB_em (x := x886) (fun e886 => VB_lo (lo' := 123) (Nat.le_add_right _ _) (VB_top (y := iZ 0) e886 ?_)) (fun e886 => VB_lo (lo' := 125) (by show 125 ≤ 123 + (if x886 = 0 then 0 else 2); rw [if_neg e886]; omega) ?_)
        · skip
          refine VB_if_eq (q := 892) (tgt := 968) dL_law_889 (by decide) (by decide) (fun _ => ?_) (fun hc => absurd hc (by decide))
          exact VB_widen (by omega) (by omega) (J968 g886 hg886)
        · skip
          refine VB_uif_eq (q := 892) (tgt := 968) dL_law_889 (by decide) ?_ ?_
          · skip
            refine VB_lo (lo' := 123) (by omega) ?_
            exact VB_widen (by omega) (by omega) (J968 g886 hg886)
          · skip
            refine VB_iload (q := 894) dL_law_892 8 rfl rfl ?_
            refine VB_bipush (q := 896) dL_law_894 (by decide) rfl ?_
            refine VB_irem (q := 897) (a := 66) (b := 16) dL_law_896 (by omega) (by decide) (by decide) rfl ?_
            refine VB_top (y := iZ 2) rfl ?_
            refine VB_if_gt (q := 900) (tgt := 943) dL_law_897 (by decide) (by decide) (fun _ => ?_) (fun hc => absurd hc (by decide))
            refine VB_iload (q := 945) dL_law_943 8 rfl rfl ?_
            refine VB_bipush (q := 947) dL_law_945 (by decide) rfl ?_
            refine VB_irem (q := 948) (a := 66) (b := 20) dL_law_947 (by omega) (by decide) (by decide) rfl ?_
            refine VB_top (y := iZ 6) rfl ?_
            refine VB_if_gt (q := 951) (tgt := 964) dL_law_948 (by decide) (by decide) (fun _ => ?_) (fun hc => absurd hc (by decide))
            refine VB_iconst (q := 965) dL_law_964 rfl ?_
            refine VB_goto (tgt := 969) dL_law_965 (by decide) ?_
            refine VB_istore (q := 971) (lv' := [(0, _), (1, _), (2, _), (3, _), (4, _), (5, _), (6, _), (7, _), (8, _), (9, _), (10, _)]) dL_law_969 (by decide) rfl rfl ?_
            refine VB_iinc (q := 974) (y := 67) (lv' := [(0, _), (1, _), (2, _), (3, _), (4, _), (5, _), (6, _), (7, _), (8, _), (9, _), (10, _)]) dL_law_971 8 rfl (by omega) (by decide) rfl rfl ?_
            refine VB_goto (tgt := 64) dL_law_974 (by decide) ?_
            refine VB_loc (lv' := [(0, _), (1, _), (2, _), (3, _), (4, _), (5, _), (6, _), (7, _), (8, _)]) [0, 1, 2, 3, 4, 5, 6, 7, 8] rfl ?_
            refine VB_lo (lo' := 123) (by omega) ?_
            exact VB_widen (by omega) (by omega) (rd67 hL h16 hx S F g886 hI (fun _ => hK) hg886)
set_option maxRecDepth 100000 in
set_option maxHeartbeats 8000000 in
theorem rd66 {s0 L : Nat} {xs : Nat → Int32} {a : Nat → Nat} {c : Nat → ClassId} {b : Nat → Nat} {d : Nat → ClassId} (hL : L ≤ 260) (h16 : 80 ≤ L) (hx : ∀ j, j < 80 → xs j = 31) : ∀ (S : St) (F : Nat → Nat → Int32) (g : Nat → Nat), Iv S F 4 → (0 < 66 → sK S 0 = 0) → (∀ j, g j < 4096) → VB 123 RL cL_law 17 (some .boolean) wsL_law roomB (vXL s0 L xs) (tyl c d) (qF 123) (8402) (50412 + 1250) (wal a c S b d F g) 64 [(0, .ref (s0)), (1, .ref (a 0)), (2, .ref (b 0)), (3, .ref (b 1)), (4, .ref (b 2)), (5, .ref (b 3)), (6, .ref (b 4)), (7, .int (iZ 1)), (8, .int (iZ 66))] [] := by
  intro S F g hI hK hg
  obtain ⟨ho, hn, hm4, hM0, hG, hC⟩ := id hI
  refine VB_iload (q := 66) dL_law_64 8 rfl rfl ?_
  refine VB_bipush (q := 68) dL_law_66 (by decide) rfl ?_
  refine VB_icmp_ge (q := 71) (tgt := 977) dL_law_68 (by decide) (by decide) (by decide) (fun hc => absurd hc (by decide)) (fun _ => ?_)
  refine VB_iload (q := 73) dL_law_71 7 rfl rfl ?_
  refine VB_if_eq (q := 76) (tgt := 977) dL_law_73 (by decide) (by decide) (fun hc => absurd hc (by decide)) (fun _ => ?_)
  refine VB_aload_n (q := 77) dL_law_76 0 rfl rfl ?_
  refine VB_iload (q := 79) dL_law_77 8 rfl rfl ?_
  refine VB_callD (q := 82) dL_law_79 (u_dice (b := s0) (L := L) (xs := xs) 66 (by omega) hL (hx 66 (by omega))) yv_L_dice rfl gL_law_L_dice xL_s rfl (Nat.le_of_ble_eq_true rfl) (by decide) ⟨by show _ ≤ 20000; omega, by show _ ≤ 130000; omega⟩ ?_
  refine VB_istore (q := 84) (lv' := [(0, _), (1, _), (2, _), (3, _), (4, _), (5, _), (6, _), (7, _), (8, _), (9, _)]) dL_law_82 (by decide) rfl rfl ?_
  refine VB_iload (q := 86) dL_law_84 9 rfl rfl ?_
  refine VB_bipush (q := 88) dL_law_86 (by decide) rfl ?_
  refine VB_idiv (q := 89) (a := 31) (b := 32) dL_law_88 (by omega) (by decide) (by decide) rfl ?_
  refine VB_top (y := iZ 0) rfl ?_
  refine VB_istore (q := 91) (lv' := [(0, _), (1, _), (2, _), (3, _), (4, _), (5, _), (6, _), (7, _), (8, _), (9, _), (10, _)]) dL_law_89 (by decide) rfl rfl ?_
  refine VB_iload (q := 93) dL_law_91 9 rfl rfl ?_
  refine VB_bipush (q := 95) dL_law_93 (by decide) rfl ?_
  refine VB_irem (q := 96) (a := 31) (b := 32) dL_law_95 (by omega) (by decide) (by decide) rfl ?_
  refine VB_top (y := iZ 31) rfl ?_
  refine VB_istore (q := 98) (lv' := [(0, _), (1, _), (2, _), (3, _), (4, _), (5, _), (6, _), (7, _), (8, _), (9, _), (10, _), (11, _)]) dL_law_96 (by decide) rfl rfl ?_
  refine VB_aload (q := 100) dL_law_98 6 rfl rfl ?_
  refine VB_iconst (q := 101) dL_law_100 rfl ?_
  refine VB_iald (q := 102) (v := (iZ 4)) dL_law_101 13 12 rfl rfl (0) (by omega) (by omega) (by decide) (hM0) rfl ?_
  refine VB_if_ne (q := 105) (tgt := 109) dL_law_102 (by decide) (by decide) (fun _ => ?_) (fun hc => absurd hc (by decide))
  refine VB_iload (q := 111) dL_law_109 10 rfl rfl ?_
  refine VB_aload (q := 113) dL_law_111 6 rfl rfl ?_
  refine VB_iconst (q := 114) dL_law_113 rfl ?_
  refine VB_iald (q := 115) (v := (iZ 4)) dL_law_114 13 12 rfl rfl (0) (by omega) (by omega) (by decide) (hM0) rfl ?_
  refine VB_irem (q := 116) (a := 0) (b := 4) dL_law_115 (by omega) (by decide) (by decide) rfl ?_
  refine VB_top (y := iZ 0) rfl ?_
  refine VB_istore (q := 118) (lv' := [(0, _), (1, _), (2, _), (3, _), (4, _), (5, _), (6, _), (7, _), (8, _), (9, _), (10, _), (11, _), (12, _)]) dL_law_116 (by decide) rfl rfl ?_
  refine VB_aload (q := 120) dL_law_118 6 rfl rfl ?_
  refine VB_iconst (q := 121) dL_law_120 rfl ?_
  refine VB_iald (q := 122) (v := (iZ 4)) dL_law_121 13 12 rfl rfl (0) (by omega) (by omega) (by decide) (hM0) rfl ?_
  refine VB_iconst (q := 123) dL_law_122 rfl ?_
  refine VB_icmp_lt (q := 126) (tgt := 141) dL_law_123 (by decide) (by decide) (by decide) (fun hc => absurd hc (by decide)) (fun _ => ?_)
  refine VB_iload (q := 128) dL_law_126 11 rfl rfl ?_
  refine VB_iconst (q := 129) dL_law_128 rfl ?_
  refine VB_icmp_ge (q := 132) (tgt := 326) dL_law_129 (by decide) (by decide) (by decide) (fun _ => ?_) (fun hc => absurd hc (by decide))
  refine VB_iload (q := 328) dL_law_326 11 rfl rfl ?_
  refine VB_bipush (q := 330) dL_law_328 (by decide) rfl ?_
  refine VB_icmp_ge (q := 333) (tgt := 451) dL_law_330 (by decide) (by decide) (by decide) (fun _ => ?_) (fun hc => absurd hc (by decide))
  refine VB_iload (q := 453) dL_law_451 11 rfl rfl ?_
  refine VB_bipush (q := 455) dL_law_453 (by decide) rfl ?_
  refine VB_icmp_ge (q := 458) (tgt := 603) dL_law_455 (by decide) (by decide) (by decide) (fun _ => ?_) (fun hc => absurd hc (by decide))
  refine VB_iload (q := 605) dL_law_603 11 rfl rfl ?_
  refine VB_bipush (q := 607) dL_law_605 (by decide) rfl ?_
  refine VB_icmp_ge (q := 610) (tgt := 633) dL_law_607 (by decide) (by decide) (by decide) (fun _ => ?_) (fun hc => absurd hc (by decide))
  refine VB_iload (q := 635) dL_law_633 11 rfl rfl ?_
  refine VB_bipush (q := 637) dL_law_635 (by decide) rfl ?_
  refine VB_icmp_ge (q := 640) (tgt := 677) dL_law_637 (by decide) (by decide) (by decide) (fun _ => ?_) (fun hc => absurd hc (by decide))
  refine VB_iload (q := 679) dL_law_677 11 rfl rfl ?_
  refine VB_bipush (q := 681) dL_law_679 (by decide) rfl ?_
  refine VB_icmp_ne (q := 684) (tgt := 783) dL_law_681 (by decide) (by decide) (by decide) (fun _ => ?_) (fun hc => absurd hc (by decide))
  refine VB_loc (lv' := [(0, _), (1, _), (2, _), (3, _), (4, _), (5, _), (6, _), (7, _), (8, _), (9, _), (10, _)]) [0, 1, 2, 3, 4, 5, 6, 7, 8, 9, 10] rfl ?_
  exact VB_widen (by omega) (by omega) (ck66 hL h16 hx S F g hI (hK (by decide)) hg)
set_option maxRecDepth 100000 in
set_option maxHeartbeats 8000000 in
theorem ck65 {s0 L : Nat} {xs : Nat → Int32} {a : Nat → Nat} {c : Nat → ClassId} {b : Nat → Nat} {d : Nat → ClassId} (hL : L ≤ 260) (h16 : 80 ≤ L) (hx : ∀ j, j < 80 → xs j = 31) : ∀ (S : St) (F : Nat → Nat → Int32) (g : Nat → Nat), Iv S F 4 → sK S 0 = 0 → (∀ j, g j < 4096) → VB 123 RL cL_law 17 (some .boolean) wsL_law roomB (vXL s0 L xs) (tyl c d) (qF 123) (8382) (50292 + 1250) (wal a c S b d F g) 783 [(0, .ref (s0)), (1, .ref (a 0)), (2, .ref (b 0)), (3, .ref (b 1)), (4, .ref (b 2)), (5, .ref (b 3)), (6, .ref (b 4)), (7, .int (iZ 1)), (8, .int (iZ 65)), (9, .int (iZ 31)), (10, .int (iZ 0))] [] := by
  intro S F g hI hK hg
  obtain ⟨ho, hn, hm4, hM0, hG, hC⟩ := id hI
  refine VB_iload (q := 785) dL_law_783 7 rfl rfl ?_
  refine VB_if_eq (q := 788) (tgt := 968) dL_law_785 (by decide) (by decide) (fun hc => absurd hc (by decide)) (fun _ => ?_)
  refine VB_aload_n (q := 789) dL_law_788 1 rfl rfl ?_
  refine VB_aload_n (q := 790) dL_law_789 2 rfl rfl ?_
  refine VB_aload_n (q := 791) dL_law_790 3 rfl rfl ?_
  refine VB_aload (q := 793) dL_law_791 6 rfl rfl ?_
  refine VB_callU (q := 796) dL_law_793 (u_areThings (a := a) (c := c) (S := S) (b := b) (d := d) (F := F) hI hg) yv_L_areThings rfl gL_law_L_areThings xU_L rfl (Nat.le_of_ble_eq_true rfl) (by decide) ⟨by show _ ≤ 20000; omega, by show _ ≤ 130000; omega⟩ (fun x793 g793 hP793 hg793 => ?_)
  refine VB_lo (lo' := 123) (Nat.le_add_right _ _) ?_
  have J968 : ∀ (gj968 : Nat → Nat), (∀ j, gj968 j < 4096) → VB 123 RL cL_law 17 (some .boolean) wsL_law roomB (vXL s0 L xs) (tyl c d) (qF 123) (8402) (50412 + 1250) (wal a c S b d F gj968) 968 [(0, .ref (s0)), (1, .ref (a 0)), (2, .ref (b 0)), (3, .ref (b 1)), (4, .ref (b 2)), (5, .ref (b 3)), (6, .ref (b 4)), (7, .int (iZ 1)), (8, .int (iZ 65)), (9, .int (iZ 31)), (10, .int (iZ 0))] [] := by
    intro gj968 hgj968
    refine VB_iconst (q := 969) dL_law_968 rfl ?_
    refine VB_istore (q := 971) (lv' := [(0, _), (1, _), (2, _), (3, _), (4, _), (5, _), (6, _), (7, _), (8, _), (9, _), (10, _)]) dL_law_969 (by decide) rfl rfl ?_
    refine VB_iinc (q := 974) (y := 66) (lv' := [(0, _), (1, _), (2, _), (3, _), (4, _), (5, _), (6, _), (7, _), (8, _), (9, _), (10, _)]) dL_law_971 8 rfl (by omega) (by decide) rfl rfl ?_
    refine VB_goto (tgt := 64) dL_law_974 (by decide) ?_
    refine VB_iload (q := 66) dL_law_64 8 rfl rfl ?_
    refine VB_bipush (q := 68) dL_law_66 (by decide) rfl ?_
    refine VB_icmp_ge (q := 71) (tgt := 977) dL_law_68 (by decide) (by decide) (by decide) (fun hc => absurd hc (by decide)) (fun _ => ?_)
    refine VB_iload (q := 73) dL_law_71 7 rfl rfl ?_
    refine VB_if_eq (q := 76) (tgt := 977) dL_law_73 (by decide) (by decide) (fun _ => ?_) (fun hc => absurd hc (by decide))
    refine VB_iload (q := 979) dL_law_977 7 rfl rfl ?_
    exact VB_ret0 dL_law_979 rfl
  refine VB_uif_eq (q := 799) (tgt := 968) dL_law_796 (by decide) ?_ ?_
  · skip
    exact VB_widen (by omega) (by omega) (J968 g793 hg793)
  · skip
    refine VB_iload (q := 801) dL_law_799 8 rfl rfl ?_
    refine VB_iconst (q := 802) dL_law_801 rfl ?_
    refine VB_irem (q := 803) (a := 65) (b := 2) dL_law_802 (by omega) (by decide) (by decide) rfl ?_
    refine VB_top (y := iZ 1) rfl ?_
    refine VB_if_gt (q := 806) (tgt := 833) dL_law_803 (by decide) (by decide) (fun _ => ?_) (fun hc => absurd hc (by decide))
    refine VB_aload_n (q := 834) dL_law_833 1 rfl rfl ?_
    refine VB_aload_n (q := 835) dL_law_834 2 rfl rfl ?_
    refine VB_aload_n (q := 836) dL_law_835 3 rfl rfl ?_
    refine VB_aload (q := 838) dL_law_836 4 rfl rfl ?_
    refine VB_aload (q := 840) dL_law_838 6 rfl rfl ?_
    refine VB_callU (q := 843) dL_law_840 (u_isMissing (a := a) (c := c) (S := S) (b := b) (d := d) (F := F) hI hg793) yv_L_isMissing rfl gL_law_L_isMissing xU_L rfl (Nat.le_of_ble_eq_true rfl) (by decide) ⟨by show _ ≤ 20000; omega, by show _ ≤ 130000; omega⟩ (fun x840 g840 hP840 hg840 => ?_)
    refine VB_lo (lo' := 123) (Nat.le_add_right _ _) ?_
    refine VB_uif_eq (q := 846) (tgt := 968) dL_law_843 (by decide) ?_ ?_
    · skip
      exact VB_widen (by omega) (by omega) (J968 g840 hg840)
    · skip
      refine VB_aload_n (q := 847) dL_law_846 1 rfl rfl ?_
      refine VB_aload_n (q := 848) dL_law_847 2 rfl rfl ?_
      refine VB_aload (q := 850) dL_law_848 6 rfl rfl ?_
      refine VB_iload (q := 852) dL_law_850 10 rfl rfl ?_
      refine VB_aload (q := 854) dL_law_852 6 rfl rfl ?_
      refine VB_iconst (q := 855) dL_law_854 rfl ?_
      refine VB_iald (q := 856) (v := (iZ 4)) dL_law_855 13 12 rfl rfl (0) (by omega) (by omega) (by decide) (hM0) rfl ?_
      refine VB_iconst (q := 857) dL_law_856 rfl ?_
      refine VB_iadd (q := 858) dL_law_857 rfl ?_
      refine VB_top (y := iZ 5) rfl ?_
      refine VB_irem (q := 859) (a := 0) (b := 5) dL_law_858 (by omega) (by decide) (by decide) rfl ?_
      refine VB_top (y := iZ 0) rfl ?_
      refine VB_iload (q := 861) dL_law_859 10 rfl rfl ?_
      refine VB_bipush (q := 863) dL_law_861 (by decide) rfl ?_
      refine VB_idiv (q := 864) (a := 0) (b := 13) dL_law_863 (by omega) (by decide) (by decide) rfl ?_
      refine VB_top (y := iZ 0) rfl ?_
      refine VB_aload (q := 866) dL_law_864 6 rfl rfl ?_
      refine VB_iconst (q := 867) dL_law_866 rfl ?_
      refine VB_iald (q := 868) (v := (iZ 4)) dL_law_867 13 12 rfl rfl (0) (by omega) (by omega) (by decide) (hM0) rfl ?_
      refine VB_iconst (q := 869) dL_law_868 rfl ?_
      refine VB_iadd (q := 870) dL_law_869 rfl ?_
      refine VB_top (y := iZ 5) rfl ?_
      refine VB_irem (q := 871) (a := 0) (b := 5) dL_law_870 (by omega) (by decide) (by decide) rfl ?_
      refine VB_top (y := iZ 0) rfl ?_
      refine VB_iload (q := 873) dL_law_871 10 rfl rfl ?_
      refine VB_sipush (q := 876) dL_law_873 (by decide) rfl ?_
      refine VB_idiv (q := 877) (a := 0) (b := 169) dL_law_876 (by omega) (by decide) (by decide) rfl ?_
      refine VB_top (y := iZ 0) rfl ?_
      refine VB_aload (q := 879) dL_law_877 6 rfl rfl ?_
      refine VB_iconst (q := 880) dL_law_879 rfl ?_
      refine VB_iald (q := 881) (v := (iZ 4)) dL_law_880 13 12 rfl rfl (0) (by omega) (by omega) (by decide) (hM0) rfl ?_
      refine VB_iconst (q := 882) dL_law_881 rfl ?_
      refine VB_iadd (q := 883) dL_law_882 rfl ?_
      refine VB_top (y := iZ 6) rfl ?_
      refine VB_irem (q := 884) (a := 0) (b := 6) dL_law_883 (by omega) (by decide) (by decide) rfl ?_
      refine VB_top (y := iZ 0) rfl ?_
      refine VB_iconst (q := 885) dL_law_884 rfl ?_
      refine VB_isub (q := 886) dL_law_885 rfl ?_
      refine VB_top (y := iZ (-1)) rfl ?_
      refine VB_callU (q := 889) dL_law_886 (u_isWrong (a := a) (c := c) (S := S) (b := b) (d := d) (F := F) hI (wr0 hI (by decide) hK) hg840) yv_L_isWrong rfl gL_law_L_isWrong xU_L rfl (Nat.le_of_ble_eq_true rfl) (by decide) ⟨by show _ ≤ 20000; omega, by show _ ≤ 130000; omega⟩ (fun x886 g886 hP886 hg886 => ?_)
      refine VB_em (x := x886) (fun e886 => VB_lo (lo' := 123) (Nat.le_add_right _ _) (VB_top (y := iZ 0) e886 ?_)) (fun e886 => VB_lo (lo' := 125) (by show 125 ≤ 123 + (if x886 = 0 then 0 else 2); rw [if_neg e886]; omega) ?_)
      · skip
        refine VB_if_eq (q := 892) (tgt := 968) dL_law_889 (by decide) (by decide) (fun _ => ?_) (fun hc => absurd hc (by decide))
        exact VB_widen (by omega) (by omega) (J968 g886 hg886)
      · skip
        refine VB_uif_eq (q := 892) (tgt := 968) dL_law_889 (by decide) ?_ ?_
        · skip
          refine VB_lo (lo' := 123) (by omega) ?_
          exact VB_widen (by omega) (by omega) (J968 g886 hg886)
        · skip
          refine VB_iload (q := 894) dL_law_892 8 rfl rfl ?_
          refine VB_bipush (q := 896) dL_law_894 (by decide) rfl ?_
          refine VB_irem (q := 897) (a := 65) (b := 16) dL_law_896 (by omega) (by decide) (by decide) rfl ?_
          refine VB_top (y := iZ 1) rfl ?_
          refine VB_if_gt (q := 900) (tgt := 943) dL_law_897 (by decide) (by decide) (fun _ => ?_) (fun hc => absurd hc (by decide))
          refine VB_iload (q := 945) dL_law_943 8 rfl rfl ?_
          refine VB_bipush (q := 947) dL_law_945 (by decide) rfl ?_
          refine VB_irem (q := 948) (a := 65) (b := 20) dL_law_947 (by omega) (by decide) (by decide) rfl ?_
          refine VB_top (y := iZ 5) rfl ?_
          refine VB_if_gt (q := 951) (tgt := 964) dL_law_948 (by decide) (by decide) (fun _ => ?_) (fun hc => absurd hc (by decide))
          refine VB_iconst (q := 965) dL_law_964 rfl ?_
          refine VB_goto (tgt := 969) dL_law_965 (by decide) ?_
          refine VB_istore (q := 971) (lv' := [(0, _), (1, _), (2, _), (3, _), (4, _), (5, _), (6, _), (7, _), (8, _), (9, _), (10, _)]) dL_law_969 (by decide) rfl rfl ?_
          refine VB_iinc (q := 974) (y := 66) (lv' := [(0, _), (1, _), (2, _), (3, _), (4, _), (5, _), (6, _), (7, _), (8, _), (9, _), (10, _)]) dL_law_971 8 rfl (by omega) (by decide) rfl rfl ?_
          refine VB_goto (tgt := 64) dL_law_974 (by decide) ?_
          refine VB_loc (lv' := [(0, _), (1, _), (2, _), (3, _), (4, _), (5, _), (6, _), (7, _), (8, _)]) [0, 1, 2, 3, 4, 5, 6, 7, 8] rfl ?_
          refine VB_lo (lo' := 123) (by omega) ?_
          exact VB_widen (by omega) (by omega) (rd66 hL h16 hx S F g886 hI (fun _ => hK) hg886)
set_option maxRecDepth 100000 in
set_option maxHeartbeats 8000000 in
theorem rd65 {s0 L : Nat} {xs : Nat → Int32} {a : Nat → Nat} {c : Nat → ClassId} {b : Nat → Nat} {d : Nat → ClassId} (hL : L ≤ 260) (h16 : 80 ≤ L) (hx : ∀ j, j < 80 → xs j = 31) : ∀ (S : St) (F : Nat → Nat → Int32) (g : Nat → Nat), Iv S F 4 → (0 < 65 → sK S 0 = 0) → (∀ j, g j < 4096) → VB 123 RL cL_law 17 (some .boolean) wsL_law roomB (vXL s0 L xs) (tyl c d) (qF 123) (8382) (50292 + 1250) (wal a c S b d F g) 64 [(0, .ref (s0)), (1, .ref (a 0)), (2, .ref (b 0)), (3, .ref (b 1)), (4, .ref (b 2)), (5, .ref (b 3)), (6, .ref (b 4)), (7, .int (iZ 1)), (8, .int (iZ 65))] [] := by
  intro S F g hI hK hg
  obtain ⟨ho, hn, hm4, hM0, hG, hC⟩ := id hI
  refine VB_iload (q := 66) dL_law_64 8 rfl rfl ?_
  refine VB_bipush (q := 68) dL_law_66 (by decide) rfl ?_
  refine VB_icmp_ge (q := 71) (tgt := 977) dL_law_68 (by decide) (by decide) (by decide) (fun hc => absurd hc (by decide)) (fun _ => ?_)
  refine VB_iload (q := 73) dL_law_71 7 rfl rfl ?_
  refine VB_if_eq (q := 76) (tgt := 977) dL_law_73 (by decide) (by decide) (fun hc => absurd hc (by decide)) (fun _ => ?_)
  refine VB_aload_n (q := 77) dL_law_76 0 rfl rfl ?_
  refine VB_iload (q := 79) dL_law_77 8 rfl rfl ?_
  refine VB_callD (q := 82) dL_law_79 (u_dice (b := s0) (L := L) (xs := xs) 65 (by omega) hL (hx 65 (by omega))) yv_L_dice rfl gL_law_L_dice xL_s rfl (Nat.le_of_ble_eq_true rfl) (by decide) ⟨by show _ ≤ 20000; omega, by show _ ≤ 130000; omega⟩ ?_
  refine VB_istore (q := 84) (lv' := [(0, _), (1, _), (2, _), (3, _), (4, _), (5, _), (6, _), (7, _), (8, _), (9, _)]) dL_law_82 (by decide) rfl rfl ?_
  refine VB_iload (q := 86) dL_law_84 9 rfl rfl ?_
  refine VB_bipush (q := 88) dL_law_86 (by decide) rfl ?_
  refine VB_idiv (q := 89) (a := 31) (b := 32) dL_law_88 (by omega) (by decide) (by decide) rfl ?_
  refine VB_top (y := iZ 0) rfl ?_
  refine VB_istore (q := 91) (lv' := [(0, _), (1, _), (2, _), (3, _), (4, _), (5, _), (6, _), (7, _), (8, _), (9, _), (10, _)]) dL_law_89 (by decide) rfl rfl ?_
  refine VB_iload (q := 93) dL_law_91 9 rfl rfl ?_
  refine VB_bipush (q := 95) dL_law_93 (by decide) rfl ?_
  refine VB_irem (q := 96) (a := 31) (b := 32) dL_law_95 (by omega) (by decide) (by decide) rfl ?_
  refine VB_top (y := iZ 31) rfl ?_
  refine VB_istore (q := 98) (lv' := [(0, _), (1, _), (2, _), (3, _), (4, _), (5, _), (6, _), (7, _), (8, _), (9, _), (10, _), (11, _)]) dL_law_96 (by decide) rfl rfl ?_
  refine VB_aload (q := 100) dL_law_98 6 rfl rfl ?_
  refine VB_iconst (q := 101) dL_law_100 rfl ?_
  refine VB_iald (q := 102) (v := (iZ 4)) dL_law_101 13 12 rfl rfl (0) (by omega) (by omega) (by decide) (hM0) rfl ?_
  refine VB_if_ne (q := 105) (tgt := 109) dL_law_102 (by decide) (by decide) (fun _ => ?_) (fun hc => absurd hc (by decide))
  refine VB_iload (q := 111) dL_law_109 10 rfl rfl ?_
  refine VB_aload (q := 113) dL_law_111 6 rfl rfl ?_
  refine VB_iconst (q := 114) dL_law_113 rfl ?_
  refine VB_iald (q := 115) (v := (iZ 4)) dL_law_114 13 12 rfl rfl (0) (by omega) (by omega) (by decide) (hM0) rfl ?_
  refine VB_irem (q := 116) (a := 0) (b := 4) dL_law_115 (by omega) (by decide) (by decide) rfl ?_
  refine VB_top (y := iZ 0) rfl ?_
  refine VB_istore (q := 118) (lv' := [(0, _), (1, _), (2, _), (3, _), (4, _), (5, _), (6, _), (7, _), (8, _), (9, _), (10, _), (11, _), (12, _)]) dL_law_116 (by decide) rfl rfl ?_
  refine VB_aload (q := 120) dL_law_118 6 rfl rfl ?_
  refine VB_iconst (q := 121) dL_law_120 rfl ?_
  refine VB_iald (q := 122) (v := (iZ 4)) dL_law_121 13 12 rfl rfl (0) (by omega) (by omega) (by decide) (hM0) rfl ?_
  refine VB_iconst (q := 123) dL_law_122 rfl ?_
  refine VB_icmp_lt (q := 126) (tgt := 141) dL_law_123 (by decide) (by decide) (by decide) (fun hc => absurd hc (by decide)) (fun _ => ?_)
  refine VB_iload (q := 128) dL_law_126 11 rfl rfl ?_
  refine VB_iconst (q := 129) dL_law_128 rfl ?_
  refine VB_icmp_ge (q := 132) (tgt := 326) dL_law_129 (by decide) (by decide) (by decide) (fun _ => ?_) (fun hc => absurd hc (by decide))
  refine VB_iload (q := 328) dL_law_326 11 rfl rfl ?_
  refine VB_bipush (q := 330) dL_law_328 (by decide) rfl ?_
  refine VB_icmp_ge (q := 333) (tgt := 451) dL_law_330 (by decide) (by decide) (by decide) (fun _ => ?_) (fun hc => absurd hc (by decide))
  refine VB_iload (q := 453) dL_law_451 11 rfl rfl ?_
  refine VB_bipush (q := 455) dL_law_453 (by decide) rfl ?_
  refine VB_icmp_ge (q := 458) (tgt := 603) dL_law_455 (by decide) (by decide) (by decide) (fun _ => ?_) (fun hc => absurd hc (by decide))
  refine VB_iload (q := 605) dL_law_603 11 rfl rfl ?_
  refine VB_bipush (q := 607) dL_law_605 (by decide) rfl ?_
  refine VB_icmp_ge (q := 610) (tgt := 633) dL_law_607 (by decide) (by decide) (by decide) (fun _ => ?_) (fun hc => absurd hc (by decide))
  refine VB_iload (q := 635) dL_law_633 11 rfl rfl ?_
  refine VB_bipush (q := 637) dL_law_635 (by decide) rfl ?_
  refine VB_icmp_ge (q := 640) (tgt := 677) dL_law_637 (by decide) (by decide) (by decide) (fun _ => ?_) (fun hc => absurd hc (by decide))
  refine VB_iload (q := 679) dL_law_677 11 rfl rfl ?_
  refine VB_bipush (q := 681) dL_law_679 (by decide) rfl ?_
  refine VB_icmp_ne (q := 684) (tgt := 783) dL_law_681 (by decide) (by decide) (by decide) (fun _ => ?_) (fun hc => absurd hc (by decide))
  refine VB_loc (lv' := [(0, _), (1, _), (2, _), (3, _), (4, _), (5, _), (6, _), (7, _), (8, _), (9, _), (10, _)]) [0, 1, 2, 3, 4, 5, 6, 7, 8, 9, 10] rfl ?_
  exact VB_widen (by omega) (by omega) (ck65 hL h16 hx S F g hI (hK (by decide)) hg)
set_option maxRecDepth 100000 in
set_option maxHeartbeats 8000000 in
theorem ck64 {s0 L : Nat} {xs : Nat → Int32} {a : Nat → Nat} {c : Nat → ClassId} {b : Nat → Nat} {d : Nat → ClassId} (hL : L ≤ 260) (h16 : 80 ≤ L) (hx : ∀ j, j < 80 → xs j = 31) : ∀ (S : St) (F : Nat → Nat → Int32) (g : Nat → Nat), Iv S F 4 → sK S 0 = 0 → (∀ j, g j < 4096) → VB 123 RL cL_law 17 (some .boolean) wsL_law roomB (vXL s0 L xs) (tyl c d) (qF 123) (8146) (48876 + 1250) (wal a c S b d F g) 783 [(0, .ref (s0)), (1, .ref (a 0)), (2, .ref (b 0)), (3, .ref (b 1)), (4, .ref (b 2)), (5, .ref (b 3)), (6, .ref (b 4)), (7, .int (iZ 1)), (8, .int (iZ 64)), (9, .int (iZ 31)), (10, .int (iZ 0))] [] := by
  intro S F g hI hK hg
  obtain ⟨ho, hn, hm4, hM0, hG, hC⟩ := id hI
  refine VB_iload (q := 785) dL_law_783 7 rfl rfl ?_
  refine VB_if_eq (q := 788) (tgt := 968) dL_law_785 (by decide) (by decide) (fun hc => absurd hc (by decide)) (fun _ => ?_)
  refine VB_aload_n (q := 789) dL_law_788 1 rfl rfl ?_
  refine VB_aload_n (q := 790) dL_law_789 2 rfl rfl ?_
  refine VB_aload_n (q := 791) dL_law_790 3 rfl rfl ?_
  refine VB_aload (q := 793) dL_law_791 6 rfl rfl ?_
  refine VB_callU (q := 796) dL_law_793 (u_areThings (a := a) (c := c) (S := S) (b := b) (d := d) (F := F) hI hg) yv_L_areThings rfl gL_law_L_areThings xU_L rfl (Nat.le_of_ble_eq_true rfl) (by decide) ⟨by show _ ≤ 20000; omega, by show _ ≤ 130000; omega⟩ (fun x793 g793 hP793 hg793 => ?_)
  refine VB_lo (lo' := 123) (Nat.le_add_right _ _) ?_
  have J968 : ∀ (gj968 : Nat → Nat), (∀ j, gj968 j < 4096) → VB 123 RL cL_law 17 (some .boolean) wsL_law roomB (vXL s0 L xs) (tyl c d) (qF 123) (8382) (50292 + 1250) (wal a c S b d F gj968) 968 [(0, .ref (s0)), (1, .ref (a 0)), (2, .ref (b 0)), (3, .ref (b 1)), (4, .ref (b 2)), (5, .ref (b 3)), (6, .ref (b 4)), (7, .int (iZ 1)), (8, .int (iZ 64)), (9, .int (iZ 31)), (10, .int (iZ 0))] [] := by
    intro gj968 hgj968
    refine VB_iconst (q := 969) dL_law_968 rfl ?_
    refine VB_istore (q := 971) (lv' := [(0, _), (1, _), (2, _), (3, _), (4, _), (5, _), (6, _), (7, _), (8, _), (9, _), (10, _)]) dL_law_969 (by decide) rfl rfl ?_
    refine VB_iinc (q := 974) (y := 65) (lv' := [(0, _), (1, _), (2, _), (3, _), (4, _), (5, _), (6, _), (7, _), (8, _), (9, _), (10, _)]) dL_law_971 8 rfl (by omega) (by decide) rfl rfl ?_
    refine VB_goto (tgt := 64) dL_law_974 (by decide) ?_
    refine VB_iload (q := 66) dL_law_64 8 rfl rfl ?_
    refine VB_bipush (q := 68) dL_law_66 (by decide) rfl ?_
    refine VB_icmp_ge (q := 71) (tgt := 977) dL_law_68 (by decide) (by decide) (by decide) (fun hc => absurd hc (by decide)) (fun _ => ?_)
    refine VB_iload (q := 73) dL_law_71 7 rfl rfl ?_
    refine VB_if_eq (q := 76) (tgt := 977) dL_law_73 (by decide) (by decide) (fun _ => ?_) (fun hc => absurd hc (by decide))
    refine VB_iload (q := 979) dL_law_977 7 rfl rfl ?_
    exact VB_ret0 dL_law_979 rfl
  refine VB_uif_eq (q := 799) (tgt := 968) dL_law_796 (by decide) ?_ ?_
  · skip
    exact VB_widen (by omega) (by omega) (J968 g793 hg793)
  · skip
    refine VB_iload (q := 801) dL_law_799 8 rfl rfl ?_
    refine VB_iconst (q := 802) dL_law_801 rfl ?_
    refine VB_irem (q := 803) (a := 64) (b := 2) dL_law_802 (by omega) (by decide) (by decide) rfl ?_
    refine VB_top (y := iZ 0) rfl ?_
    refine VB_if_gt (q := 806) (tgt := 833) dL_law_803 (by decide) (by decide) (fun hc => absurd hc (by decide)) (fun _ => ?_)
    refine VB_aload_n (q := 807) dL_law_806 1 rfl rfl ?_
    refine VB_aload_n (q := 808) dL_law_807 2 rfl rfl ?_
    refine VB_aload_n (q := 809) dL_law_808 3 rfl rfl ?_
    refine VB_aload (q := 811) dL_law_809 4 rfl rfl ?_
    refine VB_aload (q := 813) dL_law_811 6 rfl rfl ?_
    refine VB_iload (q := 815) dL_law_813 10 rfl rfl ?_
    refine VB_bipush (q := 817) dL_law_815 (by decide) rfl ?_
    refine VB_irem (q := 818) (a := 0) (b := 31) dL_law_817 (by omega) (by decide) (by decide) rfl ?_
    refine VB_top (y := iZ 0) rfl ?_
    refine VB_iload (q := 820) dL_law_818 10 rfl rfl ?_
    refine VB_bipush (q := 822) dL_law_820 (by decide) rfl ?_
    refine VB_idiv (q := 823) (a := 0) (b := 31) dL_law_822 (by omega) (by decide) (by decide) rfl ?_
    refine VB_top (y := iZ 0) rfl ?_
    refine VB_sipush (q := 826) dL_law_823 (by decide) rfl ?_
    refine VB_irem (q := 827) (a := 0) (b := 256) dL_law_826 (by omega) (by decide) (by decide) rfl ?_
    refine VB_top (y := iZ 0) rfl ?_
    refine VB_callU (q := 830) dL_law_827 (u_areOutfits (a := a) (c := c) (S := S) (b := b) (d := d) (F := F) hI hg793) yv_L_areOutfits rfl gL_law_L_areOutfits xU_L rfl (Nat.le_of_ble_eq_true rfl) (by decide) ⟨by show _ ≤ 20000; omega, by show _ ≤ 130000; omega⟩ (fun x827 g827 hP827 hg827 => ?_)
    refine VB_lo (lo' := 123) (Nat.le_add_right _ _) ?_
    refine VB_uif_eq (q := 833) (tgt := 968) dL_law_830 (by decide) ?_ ?_
    · skip
      exact VB_widen (by omega) (by omega) (J968 g827 hg827)
    · skip
      refine VB_aload_n (q := 834) dL_law_833 1 rfl rfl ?_
      refine VB_aload_n (q := 835) dL_law_834 2 rfl rfl ?_
      refine VB_aload_n (q := 836) dL_law_835 3 rfl rfl ?_
      refine VB_aload (q := 838) dL_law_836 4 rfl rfl ?_
      refine VB_aload (q := 840) dL_law_838 6 rfl rfl ?_
      refine VB_callU (q := 843) dL_law_840 (u_isMissing (a := a) (c := c) (S := S) (b := b) (d := d) (F := F) hI hg827) yv_L_isMissing rfl gL_law_L_isMissing xU_L rfl (Nat.le_of_ble_eq_true rfl) (by decide) ⟨by show _ ≤ 20000; omega, by show _ ≤ 130000; omega⟩ (fun x840 g840 hP840 hg840 => ?_)
      refine VB_lo (lo' := 123) (Nat.le_add_right _ _) ?_
      refine VB_uif_eq (q := 846) (tgt := 968) dL_law_843 (by decide) ?_ ?_
      · skip
        exact VB_widen (by omega) (by omega) (J968 g840 hg840)
      · skip
        refine VB_aload_n (q := 847) dL_law_846 1 rfl rfl ?_
        refine VB_aload_n (q := 848) dL_law_847 2 rfl rfl ?_
        refine VB_aload (q := 850) dL_law_848 6 rfl rfl ?_
        refine VB_iload (q := 852) dL_law_850 10 rfl rfl ?_
        refine VB_aload (q := 854) dL_law_852 6 rfl rfl ?_
        refine VB_iconst (q := 855) dL_law_854 rfl ?_
        refine VB_iald (q := 856) (v := (iZ 4)) dL_law_855 13 12 rfl rfl (0) (by omega) (by omega) (by decide) (hM0) rfl ?_
        refine VB_iconst (q := 857) dL_law_856 rfl ?_
        refine VB_iadd (q := 858) dL_law_857 rfl ?_
        refine VB_top (y := iZ 5) rfl ?_
        refine VB_irem (q := 859) (a := 0) (b := 5) dL_law_858 (by omega) (by decide) (by decide) rfl ?_
        refine VB_top (y := iZ 0) rfl ?_
        refine VB_iload (q := 861) dL_law_859 10 rfl rfl ?_
        refine VB_bipush (q := 863) dL_law_861 (by decide) rfl ?_
        refine VB_idiv (q := 864) (a := 0) (b := 13) dL_law_863 (by omega) (by decide) (by decide) rfl ?_
        refine VB_top (y := iZ 0) rfl ?_
        refine VB_aload (q := 866) dL_law_864 6 rfl rfl ?_
        refine VB_iconst (q := 867) dL_law_866 rfl ?_
        refine VB_iald (q := 868) (v := (iZ 4)) dL_law_867 13 12 rfl rfl (0) (by omega) (by omega) (by decide) (hM0) rfl ?_
        refine VB_iconst (q := 869) dL_law_868 rfl ?_
        refine VB_iadd (q := 870) dL_law_869 rfl ?_
        refine VB_top (y := iZ 5) rfl ?_
        refine VB_irem (q := 871) (a := 0) (b := 5) dL_law_870 (by omega) (by decide) (by decide) rfl ?_
        refine VB_top (y := iZ 0) rfl ?_
        refine VB_iload (q := 873) dL_law_871 10 rfl rfl ?_
        refine VB_sipush (q := 876) dL_law_873 (by decide) rfl ?_
        refine VB_idiv (q := 877) (a := 0) (b := 169) dL_law_876 (by omega) (by decide) (by decide) rfl ?_
        refine VB_top (y := iZ 0) rfl ?_
        refine VB_aload (q := 879) dL_law_877 6 rfl rfl ?_
        refine VB_iconst (q := 880) dL_law_879 rfl ?_
        refine VB_iald (q := 881) (v := (iZ 4)) dL_law_880 13 12 rfl rfl (0) (by omega) (by omega) (by decide) (hM0) rfl ?_
        refine VB_iconst (q := 882) dL_law_881 rfl ?_
        refine VB_iadd (q := 883) dL_law_882 rfl ?_
        refine VB_top (y := iZ 6) rfl ?_
        refine VB_irem (q := 884) (a := 0) (b := 6) dL_law_883 (by omega) (by decide) (by decide) rfl ?_
        refine VB_top (y := iZ 0) rfl ?_
        refine VB_iconst (q := 885) dL_law_884 rfl ?_
        refine VB_isub (q := 886) dL_law_885 rfl ?_
        refine VB_top (y := iZ (-1)) rfl ?_
        refine VB_callU (q := 889) dL_law_886 (u_isWrong (a := a) (c := c) (S := S) (b := b) (d := d) (F := F) hI (wr0 hI (by decide) hK) hg840) yv_L_isWrong rfl gL_law_L_isWrong xU_L rfl (Nat.le_of_ble_eq_true rfl) (by decide) ⟨by show _ ≤ 20000; omega, by show _ ≤ 130000; omega⟩ (fun x886 g886 hP886 hg886 => ?_)
        refine VB_em (x := x886) (fun e886 => VB_lo (lo' := 123) (Nat.le_add_right _ _) (VB_top (y := iZ 0) e886 ?_)) (fun e886 => VB_lo (lo' := 125) (by show 125 ≤ 123 + (if x886 = 0 then 0 else 2); rw [if_neg e886]; omega) ?_)
        · skip
          refine VB_if_eq (q := 892) (tgt := 968) dL_law_889 (by decide) (by decide) (fun _ => ?_) (fun hc => absurd hc (by decide))
          exact VB_widen (by omega) (by omega) (J968 g886 hg886)
        · skip
          refine VB_uif_eq (q := 892) (tgt := 968) dL_law_889 (by decide) ?_ ?_
          · skip
            refine VB_lo (lo' := 123) (by omega) ?_
            exact VB_widen (by omega) (by omega) (J968 g886 hg886)
          · skip
            refine VB_iload (q := 894) dL_law_892 8 rfl rfl ?_
            refine VB_bipush (q := 896) dL_law_894 (by decide) rfl ?_
            refine VB_irem (q := 897) (a := 64) (b := 16) dL_law_896 (by omega) (by decide) (by decide) rfl ?_
            refine VB_top (y := iZ 0) rfl ?_
            refine VB_if_gt (q := 900) (tgt := 943) dL_law_897 (by decide) (by decide) (fun hc => absurd hc (by decide)) (fun _ => ?_)
            refine VB_aload_n (q := 901) dL_law_900 1 rfl rfl ?_
            refine VB_aload_n (q := 902) dL_law_901 2 rfl rfl ?_
            refine VB_aload_n (q := 903) dL_law_902 3 rfl rfl ?_
            refine VB_aload (q := 905) dL_law_903 6 rfl rfl ?_
            refine VB_iload (q := 907) dL_law_905 10 rfl rfl ?_
            refine VB_bipush (q := 909) dL_law_907 (by decide) rfl ?_
            refine VB_idiv (q := 910) (a := 0) (b := 13) dL_law_909 (by omega) (by decide) (by decide) rfl ?_
            refine VB_top (y := iZ 0) rfl ?_
            refine VB_iconst (q := 911) dL_law_910 rfl ?_
            refine VB_iload (q := 913) dL_law_911 10 rfl rfl ?_
            refine VB_bipush (q := 915) dL_law_913 (by decide) rfl ?_
            refine VB_irem (q := 916) (a := 0) (b := 20) dL_law_915 (by omega) (by decide) (by decide) rfl ?_
            refine VB_top (y := iZ 0) rfl ?_
            refine VB_iadd (q := 917) dL_law_916 rfl ?_
            refine VB_top (y := iZ 1) rfl ?_
            refine VB_iload (q := 919) dL_law_917 10 rfl rfl ?_
            refine VB_bipush (q := 921) dL_law_919 (by decide) rfl ?_
            refine VB_idiv (q := 922) (a := 0) (b := 20) dL_law_921 (by omega) (by decide) (by decide) rfl ?_
            refine VB_top (y := iZ 0) rfl ?_
            refine VB_iload (q := 924) dL_law_922 10 rfl rfl ?_
            refine VB_iconst (q := 925) dL_law_924 rfl ?_
            refine VB_irem (q := 926) (a := 0) (b := 3) dL_law_925 (by omega) (by decide) (by decide) rfl ?_
            refine VB_top (y := iZ 0) rfl ?_
            refine VB_if_ne (q := 929) (tgt := 934) dL_law_926 (by decide) (by decide) (fun hc => absurd hc (by decide)) (fun _ => ?_)
            refine VB_bipush (q := 931) dL_law_929 (by decide) rfl ?_
            refine VB_goto (tgt := 936) dL_law_931 (by decide) ?_
            refine VB_irem (q := 937) (a := 0) (b := 21) dL_law_936 (by omega) (by decide) (by decide) rfl ?_
            refine VB_top (y := iZ 0) rfl ?_
            refine VB_callU (q := 940) dL_law_937 (u_isBag (a := a) (c := c) (S := S) (b := b) (d := d) (F := F) hI hg886) yv_L_isBag rfl gL_law_L_isBag xU_L rfl (Nat.le_of_ble_eq_true rfl) (by decide) ⟨by show _ ≤ 20000; omega, by show _ ≤ 130000; omega⟩ (fun x937 g937 hP937 hg937 => ?_)
            refine VB_lo (lo' := 125) (Nat.le_add_right _ _) ?_
            refine VB_uif_eq (q := 943) (tgt := 968) dL_law_940 (by decide) ?_ ?_
            · skip
              refine VB_lo (lo' := 123) (by omega) ?_
              exact VB_widen (by omega) (by omega) (J968 g937 hg937)
            · skip
              refine VB_iload (q := 945) dL_law_943 8 rfl rfl ?_
              refine VB_bipush (q := 947) dL_law_945 (by decide) rfl ?_
              refine VB_irem (q := 948) (a := 64) (b := 20) dL_law_947 (by omega) (by decide) (by decide) rfl ?_
              refine VB_top (y := iZ 4) rfl ?_
              refine VB_if_gt (q := 951) (tgt := 964) dL_law_948 (by decide) (by decide) (fun _ => ?_) (fun hc => absurd hc (by decide))
              refine VB_iconst (q := 965) dL_law_964 rfl ?_
              refine VB_goto (tgt := 969) dL_law_965 (by decide) ?_
              refine VB_istore (q := 971) (lv' := [(0, _), (1, _), (2, _), (3, _), (4, _), (5, _), (6, _), (7, _), (8, _), (9, _), (10, _)]) dL_law_969 (by decide) rfl rfl ?_
              refine VB_iinc (q := 974) (y := 65) (lv' := [(0, _), (1, _), (2, _), (3, _), (4, _), (5, _), (6, _), (7, _), (8, _), (9, _), (10, _)]) dL_law_971 8 rfl (by omega) (by decide) rfl rfl ?_
              refine VB_goto (tgt := 64) dL_law_974 (by decide) ?_
              refine VB_loc (lv' := [(0, _), (1, _), (2, _), (3, _), (4, _), (5, _), (6, _), (7, _), (8, _)]) [0, 1, 2, 3, 4, 5, 6, 7, 8] rfl ?_
              refine VB_lo (lo' := 123) (by omega) ?_
              exact VB_widen (by omega) (by omega) (rd65 hL h16 hx S F g937 hI (fun _ => hK) hg937)
set_option maxRecDepth 100000 in
set_option maxHeartbeats 8000000 in
theorem rd64 {s0 L : Nat} {xs : Nat → Int32} {a : Nat → Nat} {c : Nat → ClassId} {b : Nat → Nat} {d : Nat → ClassId} (hL : L ≤ 260) (h16 : 80 ≤ L) (hx : ∀ j, j < 80 → xs j = 31) : ∀ (S : St) (F : Nat → Nat → Int32) (g : Nat → Nat), Iv S F 4 → (0 < 64 → sK S 0 = 0) → (∀ j, g j < 4096) → VB 123 RL cL_law 17 (some .boolean) wsL_law roomB (vXL s0 L xs) (tyl c d) (qF 123) (8146) (48876 + 1250) (wal a c S b d F g) 64 [(0, .ref (s0)), (1, .ref (a 0)), (2, .ref (b 0)), (3, .ref (b 1)), (4, .ref (b 2)), (5, .ref (b 3)), (6, .ref (b 4)), (7, .int (iZ 1)), (8, .int (iZ 64))] [] := by
  intro S F g hI hK hg
  obtain ⟨ho, hn, hm4, hM0, hG, hC⟩ := id hI
  refine VB_iload (q := 66) dL_law_64 8 rfl rfl ?_
  refine VB_bipush (q := 68) dL_law_66 (by decide) rfl ?_
  refine VB_icmp_ge (q := 71) (tgt := 977) dL_law_68 (by decide) (by decide) (by decide) (fun hc => absurd hc (by decide)) (fun _ => ?_)
  refine VB_iload (q := 73) dL_law_71 7 rfl rfl ?_
  refine VB_if_eq (q := 76) (tgt := 977) dL_law_73 (by decide) (by decide) (fun hc => absurd hc (by decide)) (fun _ => ?_)
  refine VB_aload_n (q := 77) dL_law_76 0 rfl rfl ?_
  refine VB_iload (q := 79) dL_law_77 8 rfl rfl ?_
  refine VB_callD (q := 82) dL_law_79 (u_dice (b := s0) (L := L) (xs := xs) 64 (by omega) hL (hx 64 (by omega))) yv_L_dice rfl gL_law_L_dice xL_s rfl (Nat.le_of_ble_eq_true rfl) (by decide) ⟨by show _ ≤ 20000; omega, by show _ ≤ 130000; omega⟩ ?_
  refine VB_istore (q := 84) (lv' := [(0, _), (1, _), (2, _), (3, _), (4, _), (5, _), (6, _), (7, _), (8, _), (9, _)]) dL_law_82 (by decide) rfl rfl ?_
  refine VB_iload (q := 86) dL_law_84 9 rfl rfl ?_
  refine VB_bipush (q := 88) dL_law_86 (by decide) rfl ?_
  refine VB_idiv (q := 89) (a := 31) (b := 32) dL_law_88 (by omega) (by decide) (by decide) rfl ?_
  refine VB_top (y := iZ 0) rfl ?_
  refine VB_istore (q := 91) (lv' := [(0, _), (1, _), (2, _), (3, _), (4, _), (5, _), (6, _), (7, _), (8, _), (9, _), (10, _)]) dL_law_89 (by decide) rfl rfl ?_
  refine VB_iload (q := 93) dL_law_91 9 rfl rfl ?_
  refine VB_bipush (q := 95) dL_law_93 (by decide) rfl ?_
  refine VB_irem (q := 96) (a := 31) (b := 32) dL_law_95 (by omega) (by decide) (by decide) rfl ?_
  refine VB_top (y := iZ 31) rfl ?_
  refine VB_istore (q := 98) (lv' := [(0, _), (1, _), (2, _), (3, _), (4, _), (5, _), (6, _), (7, _), (8, _), (9, _), (10, _), (11, _)]) dL_law_96 (by decide) rfl rfl ?_
  refine VB_aload (q := 100) dL_law_98 6 rfl rfl ?_
  refine VB_iconst (q := 101) dL_law_100 rfl ?_
  refine VB_iald (q := 102) (v := (iZ 4)) dL_law_101 13 12 rfl rfl (0) (by omega) (by omega) (by decide) (hM0) rfl ?_
  refine VB_if_ne (q := 105) (tgt := 109) dL_law_102 (by decide) (by decide) (fun _ => ?_) (fun hc => absurd hc (by decide))
  refine VB_iload (q := 111) dL_law_109 10 rfl rfl ?_
  refine VB_aload (q := 113) dL_law_111 6 rfl rfl ?_
  refine VB_iconst (q := 114) dL_law_113 rfl ?_
  refine VB_iald (q := 115) (v := (iZ 4)) dL_law_114 13 12 rfl rfl (0) (by omega) (by omega) (by decide) (hM0) rfl ?_
  refine VB_irem (q := 116) (a := 0) (b := 4) dL_law_115 (by omega) (by decide) (by decide) rfl ?_
  refine VB_top (y := iZ 0) rfl ?_
  refine VB_istore (q := 118) (lv' := [(0, _), (1, _), (2, _), (3, _), (4, _), (5, _), (6, _), (7, _), (8, _), (9, _), (10, _), (11, _), (12, _)]) dL_law_116 (by decide) rfl rfl ?_
  refine VB_aload (q := 120) dL_law_118 6 rfl rfl ?_
  refine VB_iconst (q := 121) dL_law_120 rfl ?_
  refine VB_iald (q := 122) (v := (iZ 4)) dL_law_121 13 12 rfl rfl (0) (by omega) (by omega) (by decide) (hM0) rfl ?_
  refine VB_iconst (q := 123) dL_law_122 rfl ?_
  refine VB_icmp_lt (q := 126) (tgt := 141) dL_law_123 (by decide) (by decide) (by decide) (fun hc => absurd hc (by decide)) (fun _ => ?_)
  refine VB_iload (q := 128) dL_law_126 11 rfl rfl ?_
  refine VB_iconst (q := 129) dL_law_128 rfl ?_
  refine VB_icmp_ge (q := 132) (tgt := 326) dL_law_129 (by decide) (by decide) (by decide) (fun _ => ?_) (fun hc => absurd hc (by decide))
  refine VB_iload (q := 328) dL_law_326 11 rfl rfl ?_
  refine VB_bipush (q := 330) dL_law_328 (by decide) rfl ?_
  refine VB_icmp_ge (q := 333) (tgt := 451) dL_law_330 (by decide) (by decide) (by decide) (fun _ => ?_) (fun hc => absurd hc (by decide))
  refine VB_iload (q := 453) dL_law_451 11 rfl rfl ?_
  refine VB_bipush (q := 455) dL_law_453 (by decide) rfl ?_
  refine VB_icmp_ge (q := 458) (tgt := 603) dL_law_455 (by decide) (by decide) (by decide) (fun _ => ?_) (fun hc => absurd hc (by decide))
  refine VB_iload (q := 605) dL_law_603 11 rfl rfl ?_
  refine VB_bipush (q := 607) dL_law_605 (by decide) rfl ?_
  refine VB_icmp_ge (q := 610) (tgt := 633) dL_law_607 (by decide) (by decide) (by decide) (fun _ => ?_) (fun hc => absurd hc (by decide))
  refine VB_iload (q := 635) dL_law_633 11 rfl rfl ?_
  refine VB_bipush (q := 637) dL_law_635 (by decide) rfl ?_
  refine VB_icmp_ge (q := 640) (tgt := 677) dL_law_637 (by decide) (by decide) (by decide) (fun _ => ?_) (fun hc => absurd hc (by decide))
  refine VB_iload (q := 679) dL_law_677 11 rfl rfl ?_
  refine VB_bipush (q := 681) dL_law_679 (by decide) rfl ?_
  refine VB_icmp_ne (q := 684) (tgt := 783) dL_law_681 (by decide) (by decide) (by decide) (fun _ => ?_) (fun hc => absurd hc (by decide))
  refine VB_loc (lv' := [(0, _), (1, _), (2, _), (3, _), (4, _), (5, _), (6, _), (7, _), (8, _), (9, _), (10, _)]) [0, 1, 2, 3, 4, 5, 6, 7, 8, 9, 10] rfl ?_
  exact VB_widen (by omega) (by omega) (ck64 hL h16 hx S F g hI (hK (by decide)) hg)
set_option maxRecDepth 100000 in
set_option maxHeartbeats 8000000 in
theorem ck63 {s0 L : Nat} {xs : Nat → Int32} {a : Nat → Nat} {c : Nat → ClassId} {b : Nat → Nat} {d : Nat → ClassId} (hL : L ≤ 260) (h16 : 80 ≤ L) (hx : ∀ j, j < 80 → xs j = 31) : ∀ (S : St) (F : Nat → Nat → Int32) (g : Nat → Nat), Iv S F 4 → sK S 0 = 0 → (∀ j, g j < 4096) → VB 123 RL cL_law 17 (some .boolean) wsL_law roomB (vXL s0 L xs) (tyl c d) (qF 123) (8126) (48756 + 1250) (wal a c S b d F g) 783 [(0, .ref (s0)), (1, .ref (a 0)), (2, .ref (b 0)), (3, .ref (b 1)), (4, .ref (b 2)), (5, .ref (b 3)), (6, .ref (b 4)), (7, .int (iZ 1)), (8, .int (iZ 63)), (9, .int (iZ 31)), (10, .int (iZ 0))] [] := by
  intro S F g hI hK hg
  obtain ⟨ho, hn, hm4, hM0, hG, hC⟩ := id hI
  refine VB_iload (q := 785) dL_law_783 7 rfl rfl ?_
  refine VB_if_eq (q := 788) (tgt := 968) dL_law_785 (by decide) (by decide) (fun hc => absurd hc (by decide)) (fun _ => ?_)
  refine VB_aload_n (q := 789) dL_law_788 1 rfl rfl ?_
  refine VB_aload_n (q := 790) dL_law_789 2 rfl rfl ?_
  refine VB_aload_n (q := 791) dL_law_790 3 rfl rfl ?_
  refine VB_aload (q := 793) dL_law_791 6 rfl rfl ?_
  refine VB_callU (q := 796) dL_law_793 (u_areThings (a := a) (c := c) (S := S) (b := b) (d := d) (F := F) hI hg) yv_L_areThings rfl gL_law_L_areThings xU_L rfl (Nat.le_of_ble_eq_true rfl) (by decide) ⟨by show _ ≤ 20000; omega, by show _ ≤ 130000; omega⟩ (fun x793 g793 hP793 hg793 => ?_)
  refine VB_lo (lo' := 123) (Nat.le_add_right _ _) ?_
  have J968 : ∀ (gj968 : Nat → Nat), (∀ j, gj968 j < 4096) → VB 123 RL cL_law 17 (some .boolean) wsL_law roomB (vXL s0 L xs) (tyl c d) (qF 123) (8146) (48876 + 1250) (wal a c S b d F gj968) 968 [(0, .ref (s0)), (1, .ref (a 0)), (2, .ref (b 0)), (3, .ref (b 1)), (4, .ref (b 2)), (5, .ref (b 3)), (6, .ref (b 4)), (7, .int (iZ 1)), (8, .int (iZ 63)), (9, .int (iZ 31)), (10, .int (iZ 0))] [] := by
    intro gj968 hgj968
    refine VB_iconst (q := 969) dL_law_968 rfl ?_
    refine VB_istore (q := 971) (lv' := [(0, _), (1, _), (2, _), (3, _), (4, _), (5, _), (6, _), (7, _), (8, _), (9, _), (10, _)]) dL_law_969 (by decide) rfl rfl ?_
    refine VB_iinc (q := 974) (y := 64) (lv' := [(0, _), (1, _), (2, _), (3, _), (4, _), (5, _), (6, _), (7, _), (8, _), (9, _), (10, _)]) dL_law_971 8 rfl (by omega) (by decide) rfl rfl ?_
    refine VB_goto (tgt := 64) dL_law_974 (by decide) ?_
    refine VB_iload (q := 66) dL_law_64 8 rfl rfl ?_
    refine VB_bipush (q := 68) dL_law_66 (by decide) rfl ?_
    refine VB_icmp_ge (q := 71) (tgt := 977) dL_law_68 (by decide) (by decide) (by decide) (fun hc => absurd hc (by decide)) (fun _ => ?_)
    refine VB_iload (q := 73) dL_law_71 7 rfl rfl ?_
    refine VB_if_eq (q := 76) (tgt := 977) dL_law_73 (by decide) (by decide) (fun _ => ?_) (fun hc => absurd hc (by decide))
    refine VB_iload (q := 979) dL_law_977 7 rfl rfl ?_
    exact VB_ret0 dL_law_979 rfl
  refine VB_uif_eq (q := 799) (tgt := 968) dL_law_796 (by decide) ?_ ?_
  · skip
    exact VB_widen (by omega) (by omega) (J968 g793 hg793)
  · skip
    refine VB_iload (q := 801) dL_law_799 8 rfl rfl ?_
    refine VB_iconst (q := 802) dL_law_801 rfl ?_
    refine VB_irem (q := 803) (a := 63) (b := 2) dL_law_802 (by omega) (by decide) (by decide) rfl ?_
    refine VB_top (y := iZ 1) rfl ?_
    refine VB_if_gt (q := 806) (tgt := 833) dL_law_803 (by decide) (by decide) (fun _ => ?_) (fun hc => absurd hc (by decide))
    refine VB_aload_n (q := 834) dL_law_833 1 rfl rfl ?_
    refine VB_aload_n (q := 835) dL_law_834 2 rfl rfl ?_
    refine VB_aload_n (q := 836) dL_law_835 3 rfl rfl ?_
    refine VB_aload (q := 838) dL_law_836 4 rfl rfl ?_
    refine VB_aload (q := 840) dL_law_838 6 rfl rfl ?_
    refine VB_callU (q := 843) dL_law_840 (u_isMissing (a := a) (c := c) (S := S) (b := b) (d := d) (F := F) hI hg793) yv_L_isMissing rfl gL_law_L_isMissing xU_L rfl (Nat.le_of_ble_eq_true rfl) (by decide) ⟨by show _ ≤ 20000; omega, by show _ ≤ 130000; omega⟩ (fun x840 g840 hP840 hg840 => ?_)
    refine VB_lo (lo' := 123) (Nat.le_add_right _ _) ?_
    refine VB_uif_eq (q := 846) (tgt := 968) dL_law_843 (by decide) ?_ ?_
    · skip
      exact VB_widen (by omega) (by omega) (J968 g840 hg840)
    · skip
      refine VB_aload_n (q := 847) dL_law_846 1 rfl rfl ?_
      refine VB_aload_n (q := 848) dL_law_847 2 rfl rfl ?_
      refine VB_aload (q := 850) dL_law_848 6 rfl rfl ?_
      refine VB_iload (q := 852) dL_law_850 10 rfl rfl ?_
      refine VB_aload (q := 854) dL_law_852 6 rfl rfl ?_
      refine VB_iconst (q := 855) dL_law_854 rfl ?_
      refine VB_iald (q := 856) (v := (iZ 4)) dL_law_855 13 12 rfl rfl (0) (by omega) (by omega) (by decide) (hM0) rfl ?_
      refine VB_iconst (q := 857) dL_law_856 rfl ?_
      refine VB_iadd (q := 858) dL_law_857 rfl ?_
      refine VB_top (y := iZ 5) rfl ?_
      refine VB_irem (q := 859) (a := 0) (b := 5) dL_law_858 (by omega) (by decide) (by decide) rfl ?_
      refine VB_top (y := iZ 0) rfl ?_
      refine VB_iload (q := 861) dL_law_859 10 rfl rfl ?_
      refine VB_bipush (q := 863) dL_law_861 (by decide) rfl ?_
      refine VB_idiv (q := 864) (a := 0) (b := 13) dL_law_863 (by omega) (by decide) (by decide) rfl ?_
      refine VB_top (y := iZ 0) rfl ?_
      refine VB_aload (q := 866) dL_law_864 6 rfl rfl ?_
      refine VB_iconst (q := 867) dL_law_866 rfl ?_
      refine VB_iald (q := 868) (v := (iZ 4)) dL_law_867 13 12 rfl rfl (0) (by omega) (by omega) (by decide) (hM0) rfl ?_
      refine VB_iconst (q := 869) dL_law_868 rfl ?_
      refine VB_iadd (q := 870) dL_law_869 rfl ?_
      refine VB_top (y := iZ 5) rfl ?_
      refine VB_irem (q := 871) (a := 0) (b := 5) dL_law_870 (by omega) (by decide) (by decide) rfl ?_
      refine VB_top (y := iZ 0) rfl ?_
      refine VB_iload (q := 873) dL_law_871 10 rfl rfl ?_
      refine VB_sipush (q := 876) dL_law_873 (by decide) rfl ?_
      refine VB_idiv (q := 877) (a := 0) (b := 169) dL_law_876 (by omega) (by decide) (by decide) rfl ?_
      refine VB_top (y := iZ 0) rfl ?_
      refine VB_aload (q := 879) dL_law_877 6 rfl rfl ?_
      refine VB_iconst (q := 880) dL_law_879 rfl ?_
      refine VB_iald (q := 881) (v := (iZ 4)) dL_law_880 13 12 rfl rfl (0) (by omega) (by omega) (by decide) (hM0) rfl ?_
      refine VB_iconst (q := 882) dL_law_881 rfl ?_
      refine VB_iadd (q := 883) dL_law_882 rfl ?_
      refine VB_top (y := iZ 6) rfl ?_
      refine VB_irem (q := 884) (a := 0) (b := 6) dL_law_883 (by omega) (by decide) (by decide) rfl ?_
      refine VB_top (y := iZ 0) rfl ?_
      refine VB_iconst (q := 885) dL_law_884 rfl ?_
      refine VB_isub (q := 886) dL_law_885 rfl ?_
      refine VB_top (y := iZ (-1)) rfl ?_
      refine VB_callU (q := 889) dL_law_886 (u_isWrong (a := a) (c := c) (S := S) (b := b) (d := d) (F := F) hI (wr0 hI (by decide) hK) hg840) yv_L_isWrong rfl gL_law_L_isWrong xU_L rfl (Nat.le_of_ble_eq_true rfl) (by decide) ⟨by show _ ≤ 20000; omega, by show _ ≤ 130000; omega⟩ (fun x886 g886 hP886 hg886 => ?_)
      refine VB_em (x := x886) (fun e886 => VB_lo (lo' := 123) (Nat.le_add_right _ _) (VB_top (y := iZ 0) e886 ?_)) (fun e886 => VB_lo (lo' := 125) (by show 125 ≤ 123 + (if x886 = 0 then 0 else 2); rw [if_neg e886]; omega) ?_)
      · skip
        refine VB_if_eq (q := 892) (tgt := 968) dL_law_889 (by decide) (by decide) (fun _ => ?_) (fun hc => absurd hc (by decide))
        exact VB_widen (by omega) (by omega) (J968 g886 hg886)
      · skip
        refine VB_uif_eq (q := 892) (tgt := 968) dL_law_889 (by decide) ?_ ?_
        · skip
          refine VB_lo (lo' := 123) (by omega) ?_
          exact VB_widen (by omega) (by omega) (J968 g886 hg886)
        · skip
          refine VB_iload (q := 894) dL_law_892 8 rfl rfl ?_
          refine VB_bipush (q := 896) dL_law_894 (by decide) rfl ?_
          refine VB_irem (q := 897) (a := 63) (b := 16) dL_law_896 (by omega) (by decide) (by decide) rfl ?_
          refine VB_top (y := iZ 15) rfl ?_
          refine VB_if_gt (q := 900) (tgt := 943) dL_law_897 (by decide) (by decide) (fun _ => ?_) (fun hc => absurd hc (by decide))
          refine VB_iload (q := 945) dL_law_943 8 rfl rfl ?_
          refine VB_bipush (q := 947) dL_law_945 (by decide) rfl ?_
          refine VB_irem (q := 948) (a := 63) (b := 20) dL_law_947 (by omega) (by decide) (by decide) rfl ?_
          refine VB_top (y := iZ 3) rfl ?_
          refine VB_if_gt (q := 951) (tgt := 964) dL_law_948 (by decide) (by decide) (fun _ => ?_) (fun hc => absurd hc (by decide))
          refine VB_iconst (q := 965) dL_law_964 rfl ?_
          refine VB_goto (tgt := 969) dL_law_965 (by decide) ?_
          refine VB_istore (q := 971) (lv' := [(0, _), (1, _), (2, _), (3, _), (4, _), (5, _), (6, _), (7, _), (8, _), (9, _), (10, _)]) dL_law_969 (by decide) rfl rfl ?_
          refine VB_iinc (q := 974) (y := 64) (lv' := [(0, _), (1, _), (2, _), (3, _), (4, _), (5, _), (6, _), (7, _), (8, _), (9, _), (10, _)]) dL_law_971 8 rfl (by omega) (by decide) rfl rfl ?_
          refine VB_goto (tgt := 64) dL_law_974 (by decide) ?_
          refine VB_loc (lv' := [(0, _), (1, _), (2, _), (3, _), (4, _), (5, _), (6, _), (7, _), (8, _)]) [0, 1, 2, 3, 4, 5, 6, 7, 8] rfl ?_
          refine VB_lo (lo' := 123) (by omega) ?_
          exact VB_widen (by omega) (by omega) (rd64 hL h16 hx S F g886 hI (fun _ => hK) hg886)
set_option maxRecDepth 100000 in
set_option maxHeartbeats 8000000 in
theorem rd63 {s0 L : Nat} {xs : Nat → Int32} {a : Nat → Nat} {c : Nat → ClassId} {b : Nat → Nat} {d : Nat → ClassId} (hL : L ≤ 260) (h16 : 80 ≤ L) (hx : ∀ j, j < 80 → xs j = 31) : ∀ (S : St) (F : Nat → Nat → Int32) (g : Nat → Nat), Iv S F 4 → (0 < 63 → sK S 0 = 0) → (∀ j, g j < 4096) → VB 123 RL cL_law 17 (some .boolean) wsL_law roomB (vXL s0 L xs) (tyl c d) (qF 123) (8126) (48756 + 1250) (wal a c S b d F g) 64 [(0, .ref (s0)), (1, .ref (a 0)), (2, .ref (b 0)), (3, .ref (b 1)), (4, .ref (b 2)), (5, .ref (b 3)), (6, .ref (b 4)), (7, .int (iZ 1)), (8, .int (iZ 63))] [] := by
  intro S F g hI hK hg
  obtain ⟨ho, hn, hm4, hM0, hG, hC⟩ := id hI
  refine VB_iload (q := 66) dL_law_64 8 rfl rfl ?_
  refine VB_bipush (q := 68) dL_law_66 (by decide) rfl ?_
  refine VB_icmp_ge (q := 71) (tgt := 977) dL_law_68 (by decide) (by decide) (by decide) (fun hc => absurd hc (by decide)) (fun _ => ?_)
  refine VB_iload (q := 73) dL_law_71 7 rfl rfl ?_
  refine VB_if_eq (q := 76) (tgt := 977) dL_law_73 (by decide) (by decide) (fun hc => absurd hc (by decide)) (fun _ => ?_)
  refine VB_aload_n (q := 77) dL_law_76 0 rfl rfl ?_
  refine VB_iload (q := 79) dL_law_77 8 rfl rfl ?_
  refine VB_callD (q := 82) dL_law_79 (u_dice (b := s0) (L := L) (xs := xs) 63 (by omega) hL (hx 63 (by omega))) yv_L_dice rfl gL_law_L_dice xL_s rfl (Nat.le_of_ble_eq_true rfl) (by decide) ⟨by show _ ≤ 20000; omega, by show _ ≤ 130000; omega⟩ ?_
  refine VB_istore (q := 84) (lv' := [(0, _), (1, _), (2, _), (3, _), (4, _), (5, _), (6, _), (7, _), (8, _), (9, _)]) dL_law_82 (by decide) rfl rfl ?_
  refine VB_iload (q := 86) dL_law_84 9 rfl rfl ?_
  refine VB_bipush (q := 88) dL_law_86 (by decide) rfl ?_
  refine VB_idiv (q := 89) (a := 31) (b := 32) dL_law_88 (by omega) (by decide) (by decide) rfl ?_
  refine VB_top (y := iZ 0) rfl ?_
  refine VB_istore (q := 91) (lv' := [(0, _), (1, _), (2, _), (3, _), (4, _), (5, _), (6, _), (7, _), (8, _), (9, _), (10, _)]) dL_law_89 (by decide) rfl rfl ?_
  refine VB_iload (q := 93) dL_law_91 9 rfl rfl ?_
  refine VB_bipush (q := 95) dL_law_93 (by decide) rfl ?_
  refine VB_irem (q := 96) (a := 31) (b := 32) dL_law_95 (by omega) (by decide) (by decide) rfl ?_
  refine VB_top (y := iZ 31) rfl ?_
  refine VB_istore (q := 98) (lv' := [(0, _), (1, _), (2, _), (3, _), (4, _), (5, _), (6, _), (7, _), (8, _), (9, _), (10, _), (11, _)]) dL_law_96 (by decide) rfl rfl ?_
  refine VB_aload (q := 100) dL_law_98 6 rfl rfl ?_
  refine VB_iconst (q := 101) dL_law_100 rfl ?_
  refine VB_iald (q := 102) (v := (iZ 4)) dL_law_101 13 12 rfl rfl (0) (by omega) (by omega) (by decide) (hM0) rfl ?_
  refine VB_if_ne (q := 105) (tgt := 109) dL_law_102 (by decide) (by decide) (fun _ => ?_) (fun hc => absurd hc (by decide))
  refine VB_iload (q := 111) dL_law_109 10 rfl rfl ?_
  refine VB_aload (q := 113) dL_law_111 6 rfl rfl ?_
  refine VB_iconst (q := 114) dL_law_113 rfl ?_
  refine VB_iald (q := 115) (v := (iZ 4)) dL_law_114 13 12 rfl rfl (0) (by omega) (by omega) (by decide) (hM0) rfl ?_
  refine VB_irem (q := 116) (a := 0) (b := 4) dL_law_115 (by omega) (by decide) (by decide) rfl ?_
  refine VB_top (y := iZ 0) rfl ?_
  refine VB_istore (q := 118) (lv' := [(0, _), (1, _), (2, _), (3, _), (4, _), (5, _), (6, _), (7, _), (8, _), (9, _), (10, _), (11, _), (12, _)]) dL_law_116 (by decide) rfl rfl ?_
  refine VB_aload (q := 120) dL_law_118 6 rfl rfl ?_
  refine VB_iconst (q := 121) dL_law_120 rfl ?_
  refine VB_iald (q := 122) (v := (iZ 4)) dL_law_121 13 12 rfl rfl (0) (by omega) (by omega) (by decide) (hM0) rfl ?_
  refine VB_iconst (q := 123) dL_law_122 rfl ?_
  refine VB_icmp_lt (q := 126) (tgt := 141) dL_law_123 (by decide) (by decide) (by decide) (fun hc => absurd hc (by decide)) (fun _ => ?_)
  refine VB_iload (q := 128) dL_law_126 11 rfl rfl ?_
  refine VB_iconst (q := 129) dL_law_128 rfl ?_
  refine VB_icmp_ge (q := 132) (tgt := 326) dL_law_129 (by decide) (by decide) (by decide) (fun _ => ?_) (fun hc => absurd hc (by decide))
  refine VB_iload (q := 328) dL_law_326 11 rfl rfl ?_
  refine VB_bipush (q := 330) dL_law_328 (by decide) rfl ?_
  refine VB_icmp_ge (q := 333) (tgt := 451) dL_law_330 (by decide) (by decide) (by decide) (fun _ => ?_) (fun hc => absurd hc (by decide))
  refine VB_iload (q := 453) dL_law_451 11 rfl rfl ?_
  refine VB_bipush (q := 455) dL_law_453 (by decide) rfl ?_
  refine VB_icmp_ge (q := 458) (tgt := 603) dL_law_455 (by decide) (by decide) (by decide) (fun _ => ?_) (fun hc => absurd hc (by decide))
  refine VB_iload (q := 605) dL_law_603 11 rfl rfl ?_
  refine VB_bipush (q := 607) dL_law_605 (by decide) rfl ?_
  refine VB_icmp_ge (q := 610) (tgt := 633) dL_law_607 (by decide) (by decide) (by decide) (fun _ => ?_) (fun hc => absurd hc (by decide))
  refine VB_iload (q := 635) dL_law_633 11 rfl rfl ?_
  refine VB_bipush (q := 637) dL_law_635 (by decide) rfl ?_
  refine VB_icmp_ge (q := 640) (tgt := 677) dL_law_637 (by decide) (by decide) (by decide) (fun _ => ?_) (fun hc => absurd hc (by decide))
  refine VB_iload (q := 679) dL_law_677 11 rfl rfl ?_
  refine VB_bipush (q := 681) dL_law_679 (by decide) rfl ?_
  refine VB_icmp_ne (q := 684) (tgt := 783) dL_law_681 (by decide) (by decide) (by decide) (fun _ => ?_) (fun hc => absurd hc (by decide))
  refine VB_loc (lv' := [(0, _), (1, _), (2, _), (3, _), (4, _), (5, _), (6, _), (7, _), (8, _), (9, _), (10, _)]) [0, 1, 2, 3, 4, 5, 6, 7, 8, 9, 10] rfl ?_
  exact VB_widen (by omega) (by omega) (ck63 hL h16 hx S F g hI (hK (by decide)) hg)
set_option maxRecDepth 100000 in
set_option maxHeartbeats 8000000 in
theorem ck62 {s0 L : Nat} {xs : Nat → Int32} {a : Nat → Nat} {c : Nat → ClassId} {b : Nat → Nat} {d : Nat → ClassId} (hL : L ≤ 260) (h16 : 80 ≤ L) (hx : ∀ j, j < 80 → xs j = 31) : ∀ (S : St) (F : Nat → Nat → Int32) (g : Nat → Nat), Iv S F 4 → sK S 0 = 0 → (∀ j, g j < 4096) → VB 123 RL cL_law 17 (some .boolean) wsL_law roomB (vXL s0 L xs) (tyl c d) (qF 123) (7906) (47436 + 1250) (wal a c S b d F g) 783 [(0, .ref (s0)), (1, .ref (a 0)), (2, .ref (b 0)), (3, .ref (b 1)), (4, .ref (b 2)), (5, .ref (b 3)), (6, .ref (b 4)), (7, .int (iZ 1)), (8, .int (iZ 62)), (9, .int (iZ 31)), (10, .int (iZ 0))] [] := by
  intro S F g hI hK hg
  obtain ⟨ho, hn, hm4, hM0, hG, hC⟩ := id hI
  refine VB_iload (q := 785) dL_law_783 7 rfl rfl ?_
  refine VB_if_eq (q := 788) (tgt := 968) dL_law_785 (by decide) (by decide) (fun hc => absurd hc (by decide)) (fun _ => ?_)
  refine VB_aload_n (q := 789) dL_law_788 1 rfl rfl ?_
  refine VB_aload_n (q := 790) dL_law_789 2 rfl rfl ?_
  refine VB_aload_n (q := 791) dL_law_790 3 rfl rfl ?_
  refine VB_aload (q := 793) dL_law_791 6 rfl rfl ?_
  refine VB_callU (q := 796) dL_law_793 (u_areThings (a := a) (c := c) (S := S) (b := b) (d := d) (F := F) hI hg) yv_L_areThings rfl gL_law_L_areThings xU_L rfl (Nat.le_of_ble_eq_true rfl) (by decide) ⟨by show _ ≤ 20000; omega, by show _ ≤ 130000; omega⟩ (fun x793 g793 hP793 hg793 => ?_)
  refine VB_lo (lo' := 123) (Nat.le_add_right _ _) ?_
  have J968 : ∀ (gj968 : Nat → Nat), (∀ j, gj968 j < 4096) → VB 123 RL cL_law 17 (some .boolean) wsL_law roomB (vXL s0 L xs) (tyl c d) (qF 123) (8126) (48756 + 1250) (wal a c S b d F gj968) 968 [(0, .ref (s0)), (1, .ref (a 0)), (2, .ref (b 0)), (3, .ref (b 1)), (4, .ref (b 2)), (5, .ref (b 3)), (6, .ref (b 4)), (7, .int (iZ 1)), (8, .int (iZ 62)), (9, .int (iZ 31)), (10, .int (iZ 0))] [] := by
    intro gj968 hgj968
    refine VB_iconst (q := 969) dL_law_968 rfl ?_
    refine VB_istore (q := 971) (lv' := [(0, _), (1, _), (2, _), (3, _), (4, _), (5, _), (6, _), (7, _), (8, _), (9, _), (10, _)]) dL_law_969 (by decide) rfl rfl ?_
    refine VB_iinc (q := 974) (y := 63) (lv' := [(0, _), (1, _), (2, _), (3, _), (4, _), (5, _), (6, _), (7, _), (8, _), (9, _), (10, _)]) dL_law_971 8 rfl (by omega) (by decide) rfl rfl ?_
    refine VB_goto (tgt := 64) dL_law_974 (by decide) ?_
    refine VB_iload (q := 66) dL_law_64 8 rfl rfl ?_
    refine VB_bipush (q := 68) dL_law_66 (by decide) rfl ?_
    refine VB_icmp_ge (q := 71) (tgt := 977) dL_law_68 (by decide) (by decide) (by decide) (fun hc => absurd hc (by decide)) (fun _ => ?_)
    refine VB_iload (q := 73) dL_law_71 7 rfl rfl ?_
    refine VB_if_eq (q := 76) (tgt := 977) dL_law_73 (by decide) (by decide) (fun _ => ?_) (fun hc => absurd hc (by decide))
    refine VB_iload (q := 979) dL_law_977 7 rfl rfl ?_
    exact VB_ret0 dL_law_979 rfl
  refine VB_uif_eq (q := 799) (tgt := 968) dL_law_796 (by decide) ?_ ?_
  · skip
    exact VB_widen (by omega) (by omega) (J968 g793 hg793)
  · skip
    refine VB_iload (q := 801) dL_law_799 8 rfl rfl ?_
    refine VB_iconst (q := 802) dL_law_801 rfl ?_
    refine VB_irem (q := 803) (a := 62) (b := 2) dL_law_802 (by omega) (by decide) (by decide) rfl ?_
    refine VB_top (y := iZ 0) rfl ?_
    refine VB_if_gt (q := 806) (tgt := 833) dL_law_803 (by decide) (by decide) (fun hc => absurd hc (by decide)) (fun _ => ?_)
    refine VB_aload_n (q := 807) dL_law_806 1 rfl rfl ?_
    refine VB_aload_n (q := 808) dL_law_807 2 rfl rfl ?_
    refine VB_aload_n (q := 809) dL_law_808 3 rfl rfl ?_
    refine VB_aload (q := 811) dL_law_809 4 rfl rfl ?_
    refine VB_aload (q := 813) dL_law_811 6 rfl rfl ?_
    refine VB_iload (q := 815) dL_law_813 10 rfl rfl ?_
    refine VB_bipush (q := 817) dL_law_815 (by decide) rfl ?_
    refine VB_irem (q := 818) (a := 0) (b := 31) dL_law_817 (by omega) (by decide) (by decide) rfl ?_
    refine VB_top (y := iZ 0) rfl ?_
    refine VB_iload (q := 820) dL_law_818 10 rfl rfl ?_
    refine VB_bipush (q := 822) dL_law_820 (by decide) rfl ?_
    refine VB_idiv (q := 823) (a := 0) (b := 31) dL_law_822 (by omega) (by decide) (by decide) rfl ?_
    refine VB_top (y := iZ 0) rfl ?_
    refine VB_sipush (q := 826) dL_law_823 (by decide) rfl ?_
    refine VB_irem (q := 827) (a := 0) (b := 256) dL_law_826 (by omega) (by decide) (by decide) rfl ?_
    refine VB_top (y := iZ 0) rfl ?_
    refine VB_callU (q := 830) dL_law_827 (u_areOutfits (a := a) (c := c) (S := S) (b := b) (d := d) (F := F) hI hg793) yv_L_areOutfits rfl gL_law_L_areOutfits xU_L rfl (Nat.le_of_ble_eq_true rfl) (by decide) ⟨by show _ ≤ 20000; omega, by show _ ≤ 130000; omega⟩ (fun x827 g827 hP827 hg827 => ?_)
    refine VB_lo (lo' := 123) (Nat.le_add_right _ _) ?_
    refine VB_uif_eq (q := 833) (tgt := 968) dL_law_830 (by decide) ?_ ?_
    · skip
      exact VB_widen (by omega) (by omega) (J968 g827 hg827)
    · skip
      refine VB_aload_n (q := 834) dL_law_833 1 rfl rfl ?_
      refine VB_aload_n (q := 835) dL_law_834 2 rfl rfl ?_
      refine VB_aload_n (q := 836) dL_law_835 3 rfl rfl ?_
      refine VB_aload (q := 838) dL_law_836 4 rfl rfl ?_
      refine VB_aload (q := 840) dL_law_838 6 rfl rfl ?_
      refine VB_callU (q := 843) dL_law_840 (u_isMissing (a := a) (c := c) (S := S) (b := b) (d := d) (F := F) hI hg827) yv_L_isMissing rfl gL_law_L_isMissing xU_L rfl (Nat.le_of_ble_eq_true rfl) (by decide) ⟨by show _ ≤ 20000; omega, by show _ ≤ 130000; omega⟩ (fun x840 g840 hP840 hg840 => ?_)
      refine VB_lo (lo' := 123) (Nat.le_add_right _ _) ?_
      refine VB_uif_eq (q := 846) (tgt := 968) dL_law_843 (by decide) ?_ ?_
      · skip
        exact VB_widen (by omega) (by omega) (J968 g840 hg840)
      · skip
        refine VB_aload_n (q := 847) dL_law_846 1 rfl rfl ?_
        refine VB_aload_n (q := 848) dL_law_847 2 rfl rfl ?_
        refine VB_aload (q := 850) dL_law_848 6 rfl rfl ?_
        refine VB_iload (q := 852) dL_law_850 10 rfl rfl ?_
        refine VB_aload (q := 854) dL_law_852 6 rfl rfl ?_
        refine VB_iconst (q := 855) dL_law_854 rfl ?_
        refine VB_iald (q := 856) (v := (iZ 4)) dL_law_855 13 12 rfl rfl (0) (by omega) (by omega) (by decide) (hM0) rfl ?_
        refine VB_iconst (q := 857) dL_law_856 rfl ?_
        refine VB_iadd (q := 858) dL_law_857 rfl ?_
        refine VB_top (y := iZ 5) rfl ?_
        refine VB_irem (q := 859) (a := 0) (b := 5) dL_law_858 (by omega) (by decide) (by decide) rfl ?_
        refine VB_top (y := iZ 0) rfl ?_
        refine VB_iload (q := 861) dL_law_859 10 rfl rfl ?_
        refine VB_bipush (q := 863) dL_law_861 (by decide) rfl ?_
        refine VB_idiv (q := 864) (a := 0) (b := 13) dL_law_863 (by omega) (by decide) (by decide) rfl ?_
        refine VB_top (y := iZ 0) rfl ?_
        refine VB_aload (q := 866) dL_law_864 6 rfl rfl ?_
        refine VB_iconst (q := 867) dL_law_866 rfl ?_
        refine VB_iald (q := 868) (v := (iZ 4)) dL_law_867 13 12 rfl rfl (0) (by omega) (by omega) (by decide) (hM0) rfl ?_
        refine VB_iconst (q := 869) dL_law_868 rfl ?_
        refine VB_iadd (q := 870) dL_law_869 rfl ?_
        refine VB_top (y := iZ 5) rfl ?_
        refine VB_irem (q := 871) (a := 0) (b := 5) dL_law_870 (by omega) (by decide) (by decide) rfl ?_
        refine VB_top (y := iZ 0) rfl ?_
        refine VB_iload (q := 873) dL_law_871 10 rfl rfl ?_
        refine VB_sipush (q := 876) dL_law_873 (by decide) rfl ?_
        refine VB_idiv (q := 877) (a := 0) (b := 169) dL_law_876 (by omega) (by decide) (by decide) rfl ?_
        refine VB_top (y := iZ 0) rfl ?_
        refine VB_aload (q := 879) dL_law_877 6 rfl rfl ?_
        refine VB_iconst (q := 880) dL_law_879 rfl ?_
        refine VB_iald (q := 881) (v := (iZ 4)) dL_law_880 13 12 rfl rfl (0) (by omega) (by omega) (by decide) (hM0) rfl ?_
        refine VB_iconst (q := 882) dL_law_881 rfl ?_
        refine VB_iadd (q := 883) dL_law_882 rfl ?_
        refine VB_top (y := iZ 6) rfl ?_
        refine VB_irem (q := 884) (a := 0) (b := 6) dL_law_883 (by omega) (by decide) (by decide) rfl ?_
        refine VB_top (y := iZ 0) rfl ?_
        refine VB_iconst (q := 885) dL_law_884 rfl ?_
        refine VB_isub (q := 886) dL_law_885 rfl ?_
        refine VB_top (y := iZ (-1)) rfl ?_
        refine VB_callU (q := 889) dL_law_886 (u_isWrong (a := a) (c := c) (S := S) (b := b) (d := d) (F := F) hI (wr0 hI (by decide) hK) hg840) yv_L_isWrong rfl gL_law_L_isWrong xU_L rfl (Nat.le_of_ble_eq_true rfl) (by decide) ⟨by show _ ≤ 20000; omega, by show _ ≤ 130000; omega⟩ (fun x886 g886 hP886 hg886 => ?_)
        refine VB_em (x := x886) (fun e886 => VB_lo (lo' := 123) (Nat.le_add_right _ _) (VB_top (y := iZ 0) e886 ?_)) (fun e886 => VB_lo (lo' := 125) (by show 125 ≤ 123 + (if x886 = 0 then 0 else 2); rw [if_neg e886]; omega) ?_)
        · skip
          refine VB_if_eq (q := 892) (tgt := 968) dL_law_889 (by decide) (by decide) (fun _ => ?_) (fun hc => absurd hc (by decide))
          exact VB_widen (by omega) (by omega) (J968 g886 hg886)
        · skip
          refine VB_uif_eq (q := 892) (tgt := 968) dL_law_889 (by decide) ?_ ?_
          · skip
            refine VB_lo (lo' := 123) (by omega) ?_
            exact VB_widen (by omega) (by omega) (J968 g886 hg886)
          · skip
            refine VB_iload (q := 894) dL_law_892 8 rfl rfl ?_
            refine VB_bipush (q := 896) dL_law_894 (by decide) rfl ?_
            refine VB_irem (q := 897) (a := 62) (b := 16) dL_law_896 (by omega) (by decide) (by decide) rfl ?_
            refine VB_top (y := iZ 14) rfl ?_
            refine VB_if_gt (q := 900) (tgt := 943) dL_law_897 (by decide) (by decide) (fun _ => ?_) (fun hc => absurd hc (by decide))
            refine VB_iload (q := 945) dL_law_943 8 rfl rfl ?_
            refine VB_bipush (q := 947) dL_law_945 (by decide) rfl ?_
            refine VB_irem (q := 948) (a := 62) (b := 20) dL_law_947 (by omega) (by decide) (by decide) rfl ?_
            refine VB_top (y := iZ 2) rfl ?_
            refine VB_if_gt (q := 951) (tgt := 964) dL_law_948 (by decide) (by decide) (fun _ => ?_) (fun hc => absurd hc (by decide))
            refine VB_iconst (q := 965) dL_law_964 rfl ?_
            refine VB_goto (tgt := 969) dL_law_965 (by decide) ?_
            refine VB_istore (q := 971) (lv' := [(0, _), (1, _), (2, _), (3, _), (4, _), (5, _), (6, _), (7, _), (8, _), (9, _), (10, _)]) dL_law_969 (by decide) rfl rfl ?_
            refine VB_iinc (q := 974) (y := 63) (lv' := [(0, _), (1, _), (2, _), (3, _), (4, _), (5, _), (6, _), (7, _), (8, _), (9, _), (10, _)]) dL_law_971 8 rfl (by omega) (by decide) rfl rfl ?_
            refine VB_goto (tgt := 64) dL_law_974 (by decide) ?_
            refine VB_loc (lv' := [(0, _), (1, _), (2, _), (3, _), (4, _), (5, _), (6, _), (7, _), (8, _)]) [0, 1, 2, 3, 4, 5, 6, 7, 8] rfl ?_
            refine VB_lo (lo' := 123) (by omega) ?_
            exact VB_widen (by omega) (by omega) (rd63 hL h16 hx S F g886 hI (fun _ => hK) hg886)
set_option maxRecDepth 100000 in
set_option maxHeartbeats 8000000 in
theorem rd62 {s0 L : Nat} {xs : Nat → Int32} {a : Nat → Nat} {c : Nat → ClassId} {b : Nat → Nat} {d : Nat → ClassId} (hL : L ≤ 260) (h16 : 80 ≤ L) (hx : ∀ j, j < 80 → xs j = 31) : ∀ (S : St) (F : Nat → Nat → Int32) (g : Nat → Nat), Iv S F 4 → (0 < 62 → sK S 0 = 0) → (∀ j, g j < 4096) → VB 123 RL cL_law 17 (some .boolean) wsL_law roomB (vXL s0 L xs) (tyl c d) (qF 123) (7906) (47436 + 1250) (wal a c S b d F g) 64 [(0, .ref (s0)), (1, .ref (a 0)), (2, .ref (b 0)), (3, .ref (b 1)), (4, .ref (b 2)), (5, .ref (b 3)), (6, .ref (b 4)), (7, .int (iZ 1)), (8, .int (iZ 62))] [] := by
  intro S F g hI hK hg
  obtain ⟨ho, hn, hm4, hM0, hG, hC⟩ := id hI
  refine VB_iload (q := 66) dL_law_64 8 rfl rfl ?_
  refine VB_bipush (q := 68) dL_law_66 (by decide) rfl ?_
  refine VB_icmp_ge (q := 71) (tgt := 977) dL_law_68 (by decide) (by decide) (by decide) (fun hc => absurd hc (by decide)) (fun _ => ?_)
  refine VB_iload (q := 73) dL_law_71 7 rfl rfl ?_
  refine VB_if_eq (q := 76) (tgt := 977) dL_law_73 (by decide) (by decide) (fun hc => absurd hc (by decide)) (fun _ => ?_)
  refine VB_aload_n (q := 77) dL_law_76 0 rfl rfl ?_
  refine VB_iload (q := 79) dL_law_77 8 rfl rfl ?_
  refine VB_callD (q := 82) dL_law_79 (u_dice (b := s0) (L := L) (xs := xs) 62 (by omega) hL (hx 62 (by omega))) yv_L_dice rfl gL_law_L_dice xL_s rfl (Nat.le_of_ble_eq_true rfl) (by decide) ⟨by show _ ≤ 20000; omega, by show _ ≤ 130000; omega⟩ ?_
  refine VB_istore (q := 84) (lv' := [(0, _), (1, _), (2, _), (3, _), (4, _), (5, _), (6, _), (7, _), (8, _), (9, _)]) dL_law_82 (by decide) rfl rfl ?_
  refine VB_iload (q := 86) dL_law_84 9 rfl rfl ?_
  refine VB_bipush (q := 88) dL_law_86 (by decide) rfl ?_
  refine VB_idiv (q := 89) (a := 31) (b := 32) dL_law_88 (by omega) (by decide) (by decide) rfl ?_
  refine VB_top (y := iZ 0) rfl ?_
  refine VB_istore (q := 91) (lv' := [(0, _), (1, _), (2, _), (3, _), (4, _), (5, _), (6, _), (7, _), (8, _), (9, _), (10, _)]) dL_law_89 (by decide) rfl rfl ?_
  refine VB_iload (q := 93) dL_law_91 9 rfl rfl ?_
  refine VB_bipush (q := 95) dL_law_93 (by decide) rfl ?_
  refine VB_irem (q := 96) (a := 31) (b := 32) dL_law_95 (by omega) (by decide) (by decide) rfl ?_
  refine VB_top (y := iZ 31) rfl ?_
  refine VB_istore (q := 98) (lv' := [(0, _), (1, _), (2, _), (3, _), (4, _), (5, _), (6, _), (7, _), (8, _), (9, _), (10, _), (11, _)]) dL_law_96 (by decide) rfl rfl ?_
  refine VB_aload (q := 100) dL_law_98 6 rfl rfl ?_
  refine VB_iconst (q := 101) dL_law_100 rfl ?_
  refine VB_iald (q := 102) (v := (iZ 4)) dL_law_101 13 12 rfl rfl (0) (by omega) (by omega) (by decide) (hM0) rfl ?_
  refine VB_if_ne (q := 105) (tgt := 109) dL_law_102 (by decide) (by decide) (fun _ => ?_) (fun hc => absurd hc (by decide))
  refine VB_iload (q := 111) dL_law_109 10 rfl rfl ?_
  refine VB_aload (q := 113) dL_law_111 6 rfl rfl ?_
  refine VB_iconst (q := 114) dL_law_113 rfl ?_
  refine VB_iald (q := 115) (v := (iZ 4)) dL_law_114 13 12 rfl rfl (0) (by omega) (by omega) (by decide) (hM0) rfl ?_
  refine VB_irem (q := 116) (a := 0) (b := 4) dL_law_115 (by omega) (by decide) (by decide) rfl ?_
  refine VB_top (y := iZ 0) rfl ?_
  refine VB_istore (q := 118) (lv' := [(0, _), (1, _), (2, _), (3, _), (4, _), (5, _), (6, _), (7, _), (8, _), (9, _), (10, _), (11, _), (12, _)]) dL_law_116 (by decide) rfl rfl ?_
  refine VB_aload (q := 120) dL_law_118 6 rfl rfl ?_
  refine VB_iconst (q := 121) dL_law_120 rfl ?_
  refine VB_iald (q := 122) (v := (iZ 4)) dL_law_121 13 12 rfl rfl (0) (by omega) (by omega) (by decide) (hM0) rfl ?_
  refine VB_iconst (q := 123) dL_law_122 rfl ?_
  refine VB_icmp_lt (q := 126) (tgt := 141) dL_law_123 (by decide) (by decide) (by decide) (fun hc => absurd hc (by decide)) (fun _ => ?_)
  refine VB_iload (q := 128) dL_law_126 11 rfl rfl ?_
  refine VB_iconst (q := 129) dL_law_128 rfl ?_
  refine VB_icmp_ge (q := 132) (tgt := 326) dL_law_129 (by decide) (by decide) (by decide) (fun _ => ?_) (fun hc => absurd hc (by decide))
  refine VB_iload (q := 328) dL_law_326 11 rfl rfl ?_
  refine VB_bipush (q := 330) dL_law_328 (by decide) rfl ?_
  refine VB_icmp_ge (q := 333) (tgt := 451) dL_law_330 (by decide) (by decide) (by decide) (fun _ => ?_) (fun hc => absurd hc (by decide))
  refine VB_iload (q := 453) dL_law_451 11 rfl rfl ?_
  refine VB_bipush (q := 455) dL_law_453 (by decide) rfl ?_
  refine VB_icmp_ge (q := 458) (tgt := 603) dL_law_455 (by decide) (by decide) (by decide) (fun _ => ?_) (fun hc => absurd hc (by decide))
  refine VB_iload (q := 605) dL_law_603 11 rfl rfl ?_
  refine VB_bipush (q := 607) dL_law_605 (by decide) rfl ?_
  refine VB_icmp_ge (q := 610) (tgt := 633) dL_law_607 (by decide) (by decide) (by decide) (fun _ => ?_) (fun hc => absurd hc (by decide))
  refine VB_iload (q := 635) dL_law_633 11 rfl rfl ?_
  refine VB_bipush (q := 637) dL_law_635 (by decide) rfl ?_
  refine VB_icmp_ge (q := 640) (tgt := 677) dL_law_637 (by decide) (by decide) (by decide) (fun _ => ?_) (fun hc => absurd hc (by decide))
  refine VB_iload (q := 679) dL_law_677 11 rfl rfl ?_
  refine VB_bipush (q := 681) dL_law_679 (by decide) rfl ?_
  refine VB_icmp_ne (q := 684) (tgt := 783) dL_law_681 (by decide) (by decide) (by decide) (fun _ => ?_) (fun hc => absurd hc (by decide))
  refine VB_loc (lv' := [(0, _), (1, _), (2, _), (3, _), (4, _), (5, _), (6, _), (7, _), (8, _), (9, _), (10, _)]) [0, 1, 2, 3, 4, 5, 6, 7, 8, 9, 10] rfl ?_
  exact VB_widen (by omega) (by omega) (ck62 hL h16 hx S F g hI (hK (by decide)) hg)
set_option maxRecDepth 100000 in
set_option maxHeartbeats 8000000 in
theorem ck61 {s0 L : Nat} {xs : Nat → Int32} {a : Nat → Nat} {c : Nat → ClassId} {b : Nat → Nat} {d : Nat → ClassId} (hL : L ≤ 260) (h16 : 80 ≤ L) (hx : ∀ j, j < 80 → xs j = 31) : ∀ (S : St) (F : Nat → Nat → Int32) (g : Nat → Nat), Iv S F 4 → sK S 0 = 0 → (∀ j, g j < 4096) → VB 123 RL cL_law 17 (some .boolean) wsL_law roomB (vXL s0 L xs) (tyl c d) (qF 123) (7886) (47316 + 1250) (wal a c S b d F g) 783 [(0, .ref (s0)), (1, .ref (a 0)), (2, .ref (b 0)), (3, .ref (b 1)), (4, .ref (b 2)), (5, .ref (b 3)), (6, .ref (b 4)), (7, .int (iZ 1)), (8, .int (iZ 61)), (9, .int (iZ 31)), (10, .int (iZ 0))] [] := by
  intro S F g hI hK hg
  obtain ⟨ho, hn, hm4, hM0, hG, hC⟩ := id hI
  refine VB_iload (q := 785) dL_law_783 7 rfl rfl ?_
  refine VB_if_eq (q := 788) (tgt := 968) dL_law_785 (by decide) (by decide) (fun hc => absurd hc (by decide)) (fun _ => ?_)
  refine VB_aload_n (q := 789) dL_law_788 1 rfl rfl ?_
  refine VB_aload_n (q := 790) dL_law_789 2 rfl rfl ?_
  refine VB_aload_n (q := 791) dL_law_790 3 rfl rfl ?_
  refine VB_aload (q := 793) dL_law_791 6 rfl rfl ?_
  refine VB_callU (q := 796) dL_law_793 (u_areThings (a := a) (c := c) (S := S) (b := b) (d := d) (F := F) hI hg) yv_L_areThings rfl gL_law_L_areThings xU_L rfl (Nat.le_of_ble_eq_true rfl) (by decide) ⟨by show _ ≤ 20000; omega, by show _ ≤ 130000; omega⟩ (fun x793 g793 hP793 hg793 => ?_)
  refine VB_lo (lo' := 123) (Nat.le_add_right _ _) ?_
  have J968 : ∀ (gj968 : Nat → Nat), (∀ j, gj968 j < 4096) → VB 123 RL cL_law 17 (some .boolean) wsL_law roomB (vXL s0 L xs) (tyl c d) (qF 123) (7906) (47436 + 1250) (wal a c S b d F gj968) 968 [(0, .ref (s0)), (1, .ref (a 0)), (2, .ref (b 0)), (3, .ref (b 1)), (4, .ref (b 2)), (5, .ref (b 3)), (6, .ref (b 4)), (7, .int (iZ 1)), (8, .int (iZ 61)), (9, .int (iZ 31)), (10, .int (iZ 0))] [] := by
    intro gj968 hgj968
    refine VB_iconst (q := 969) dL_law_968 rfl ?_
    refine VB_istore (q := 971) (lv' := [(0, _), (1, _), (2, _), (3, _), (4, _), (5, _), (6, _), (7, _), (8, _), (9, _), (10, _)]) dL_law_969 (by decide) rfl rfl ?_
    refine VB_iinc (q := 974) (y := 62) (lv' := [(0, _), (1, _), (2, _), (3, _), (4, _), (5, _), (6, _), (7, _), (8, _), (9, _), (10, _)]) dL_law_971 8 rfl (by omega) (by decide) rfl rfl ?_
    refine VB_goto (tgt := 64) dL_law_974 (by decide) ?_
    refine VB_iload (q := 66) dL_law_64 8 rfl rfl ?_
    refine VB_bipush (q := 68) dL_law_66 (by decide) rfl ?_
    refine VB_icmp_ge (q := 71) (tgt := 977) dL_law_68 (by decide) (by decide) (by decide) (fun hc => absurd hc (by decide)) (fun _ => ?_)
    refine VB_iload (q := 73) dL_law_71 7 rfl rfl ?_
    refine VB_if_eq (q := 76) (tgt := 977) dL_law_73 (by decide) (by decide) (fun _ => ?_) (fun hc => absurd hc (by decide))
    refine VB_iload (q := 979) dL_law_977 7 rfl rfl ?_
    exact VB_ret0 dL_law_979 rfl
  refine VB_uif_eq (q := 799) (tgt := 968) dL_law_796 (by decide) ?_ ?_
  · skip
    exact VB_widen (by omega) (by omega) (J968 g793 hg793)
  · skip
    refine VB_iload (q := 801) dL_law_799 8 rfl rfl ?_
    refine VB_iconst (q := 802) dL_law_801 rfl ?_
    refine VB_irem (q := 803) (a := 61) (b := 2) dL_law_802 (by omega) (by decide) (by decide) rfl ?_
    refine VB_top (y := iZ 1) rfl ?_
    refine VB_if_gt (q := 806) (tgt := 833) dL_law_803 (by decide) (by decide) (fun _ => ?_) (fun hc => absurd hc (by decide))
    refine VB_aload_n (q := 834) dL_law_833 1 rfl rfl ?_
    refine VB_aload_n (q := 835) dL_law_834 2 rfl rfl ?_
    refine VB_aload_n (q := 836) dL_law_835 3 rfl rfl ?_
    refine VB_aload (q := 838) dL_law_836 4 rfl rfl ?_
    refine VB_aload (q := 840) dL_law_838 6 rfl rfl ?_
    refine VB_callU (q := 843) dL_law_840 (u_isMissing (a := a) (c := c) (S := S) (b := b) (d := d) (F := F) hI hg793) yv_L_isMissing rfl gL_law_L_isMissing xU_L rfl (Nat.le_of_ble_eq_true rfl) (by decide) ⟨by show _ ≤ 20000; omega, by show _ ≤ 130000; omega⟩ (fun x840 g840 hP840 hg840 => ?_)
    refine VB_lo (lo' := 123) (Nat.le_add_right _ _) ?_
    refine VB_uif_eq (q := 846) (tgt := 968) dL_law_843 (by decide) ?_ ?_
    · skip
      exact VB_widen (by omega) (by omega) (J968 g840 hg840)
    · skip
      refine VB_aload_n (q := 847) dL_law_846 1 rfl rfl ?_
      refine VB_aload_n (q := 848) dL_law_847 2 rfl rfl ?_
      refine VB_aload (q := 850) dL_law_848 6 rfl rfl ?_
      refine VB_iload (q := 852) dL_law_850 10 rfl rfl ?_
      refine VB_aload (q := 854) dL_law_852 6 rfl rfl ?_
      refine VB_iconst (q := 855) dL_law_854 rfl ?_
      refine VB_iald (q := 856) (v := (iZ 4)) dL_law_855 13 12 rfl rfl (0) (by omega) (by omega) (by decide) (hM0) rfl ?_
      refine VB_iconst (q := 857) dL_law_856 rfl ?_
      refine VB_iadd (q := 858) dL_law_857 rfl ?_
      refine VB_top (y := iZ 5) rfl ?_
      refine VB_irem (q := 859) (a := 0) (b := 5) dL_law_858 (by omega) (by decide) (by decide) rfl ?_
      refine VB_top (y := iZ 0) rfl ?_
      refine VB_iload (q := 861) dL_law_859 10 rfl rfl ?_
      refine VB_bipush (q := 863) dL_law_861 (by decide) rfl ?_
      refine VB_idiv (q := 864) (a := 0) (b := 13) dL_law_863 (by omega) (by decide) (by decide) rfl ?_
      refine VB_top (y := iZ 0) rfl ?_
      refine VB_aload (q := 866) dL_law_864 6 rfl rfl ?_
      refine VB_iconst (q := 867) dL_law_866 rfl ?_
      refine VB_iald (q := 868) (v := (iZ 4)) dL_law_867 13 12 rfl rfl (0) (by omega) (by omega) (by decide) (hM0) rfl ?_
      refine VB_iconst (q := 869) dL_law_868 rfl ?_
      refine VB_iadd (q := 870) dL_law_869 rfl ?_
      refine VB_top (y := iZ 5) rfl ?_
      refine VB_irem (q := 871) (a := 0) (b := 5) dL_law_870 (by omega) (by decide) (by decide) rfl ?_
      refine VB_top (y := iZ 0) rfl ?_
      refine VB_iload (q := 873) dL_law_871 10 rfl rfl ?_
      refine VB_sipush (q := 876) dL_law_873 (by decide) rfl ?_
      refine VB_idiv (q := 877) (a := 0) (b := 169) dL_law_876 (by omega) (by decide) (by decide) rfl ?_
      refine VB_top (y := iZ 0) rfl ?_
      refine VB_aload (q := 879) dL_law_877 6 rfl rfl ?_
      refine VB_iconst (q := 880) dL_law_879 rfl ?_
      refine VB_iald (q := 881) (v := (iZ 4)) dL_law_880 13 12 rfl rfl (0) (by omega) (by omega) (by decide) (hM0) rfl ?_
      refine VB_iconst (q := 882) dL_law_881 rfl ?_
      refine VB_iadd (q := 883) dL_law_882 rfl ?_
      refine VB_top (y := iZ 6) rfl ?_
      refine VB_irem (q := 884) (a := 0) (b := 6) dL_law_883 (by omega) (by decide) (by decide) rfl ?_
      refine VB_top (y := iZ 0) rfl ?_
      refine VB_iconst (q := 885) dL_law_884 rfl ?_
      refine VB_isub (q := 886) dL_law_885 rfl ?_
      refine VB_top (y := iZ (-1)) rfl ?_
      refine VB_callU (q := 889) dL_law_886 (u_isWrong (a := a) (c := c) (S := S) (b := b) (d := d) (F := F) hI (wr0 hI (by decide) hK) hg840) yv_L_isWrong rfl gL_law_L_isWrong xU_L rfl (Nat.le_of_ble_eq_true rfl) (by decide) ⟨by show _ ≤ 20000; omega, by show _ ≤ 130000; omega⟩ (fun x886 g886 hP886 hg886 => ?_)
      refine VB_em (x := x886) (fun e886 => VB_lo (lo' := 123) (Nat.le_add_right _ _) (VB_top (y := iZ 0) e886 ?_)) (fun e886 => VB_lo (lo' := 125) (by show 125 ≤ 123 + (if x886 = 0 then 0 else 2); rw [if_neg e886]; omega) ?_)
      · skip
        refine VB_if_eq (q := 892) (tgt := 968) dL_law_889 (by decide) (by decide) (fun _ => ?_) (fun hc => absurd hc (by decide))
        exact VB_widen (by omega) (by omega) (J968 g886 hg886)
      · skip
        refine VB_uif_eq (q := 892) (tgt := 968) dL_law_889 (by decide) ?_ ?_
        · skip
          refine VB_lo (lo' := 123) (by omega) ?_
          exact VB_widen (by omega) (by omega) (J968 g886 hg886)
        · skip
          refine VB_iload (q := 894) dL_law_892 8 rfl rfl ?_
          refine VB_bipush (q := 896) dL_law_894 (by decide) rfl ?_
          refine VB_irem (q := 897) (a := 61) (b := 16) dL_law_896 (by omega) (by decide) (by decide) rfl ?_
          refine VB_top (y := iZ 13) rfl ?_
          refine VB_if_gt (q := 900) (tgt := 943) dL_law_897 (by decide) (by decide) (fun _ => ?_) (fun hc => absurd hc (by decide))
          refine VB_iload (q := 945) dL_law_943 8 rfl rfl ?_
          refine VB_bipush (q := 947) dL_law_945 (by decide) rfl ?_
          refine VB_irem (q := 948) (a := 61) (b := 20) dL_law_947 (by omega) (by decide) (by decide) rfl ?_
          refine VB_top (y := iZ 1) rfl ?_
          refine VB_if_gt (q := 951) (tgt := 964) dL_law_948 (by decide) (by decide) (fun _ => ?_) (fun hc => absurd hc (by decide))
          refine VB_iconst (q := 965) dL_law_964 rfl ?_
          refine VB_goto (tgt := 969) dL_law_965 (by decide) ?_
          refine VB_istore (q := 971) (lv' := [(0, _), (1, _), (2, _), (3, _), (4, _), (5, _), (6, _), (7, _), (8, _), (9, _), (10, _)]) dL_law_969 (by decide) rfl rfl ?_
          refine VB_iinc (q := 974) (y := 62) (lv' := [(0, _), (1, _), (2, _), (3, _), (4, _), (5, _), (6, _), (7, _), (8, _), (9, _), (10, _)]) dL_law_971 8 rfl (by omega) (by decide) rfl rfl ?_
          refine VB_goto (tgt := 64) dL_law_974 (by decide) ?_
          refine VB_loc (lv' := [(0, _), (1, _), (2, _), (3, _), (4, _), (5, _), (6, _), (7, _), (8, _)]) [0, 1, 2, 3, 4, 5, 6, 7, 8] rfl ?_
          refine VB_lo (lo' := 123) (by omega) ?_
          exact VB_widen (by omega) (by omega) (rd62 hL h16 hx S F g886 hI (fun _ => hK) hg886)
set_option maxRecDepth 100000 in
set_option maxHeartbeats 8000000 in
theorem rd61 {s0 L : Nat} {xs : Nat → Int32} {a : Nat → Nat} {c : Nat → ClassId} {b : Nat → Nat} {d : Nat → ClassId} (hL : L ≤ 260) (h16 : 80 ≤ L) (hx : ∀ j, j < 80 → xs j = 31) : ∀ (S : St) (F : Nat → Nat → Int32) (g : Nat → Nat), Iv S F 4 → (0 < 61 → sK S 0 = 0) → (∀ j, g j < 4096) → VB 123 RL cL_law 17 (some .boolean) wsL_law roomB (vXL s0 L xs) (tyl c d) (qF 123) (7886) (47316 + 1250) (wal a c S b d F g) 64 [(0, .ref (s0)), (1, .ref (a 0)), (2, .ref (b 0)), (3, .ref (b 1)), (4, .ref (b 2)), (5, .ref (b 3)), (6, .ref (b 4)), (7, .int (iZ 1)), (8, .int (iZ 61))] [] := by
  intro S F g hI hK hg
  obtain ⟨ho, hn, hm4, hM0, hG, hC⟩ := id hI
  refine VB_iload (q := 66) dL_law_64 8 rfl rfl ?_
  refine VB_bipush (q := 68) dL_law_66 (by decide) rfl ?_
  refine VB_icmp_ge (q := 71) (tgt := 977) dL_law_68 (by decide) (by decide) (by decide) (fun hc => absurd hc (by decide)) (fun _ => ?_)
  refine VB_iload (q := 73) dL_law_71 7 rfl rfl ?_
  refine VB_if_eq (q := 76) (tgt := 977) dL_law_73 (by decide) (by decide) (fun hc => absurd hc (by decide)) (fun _ => ?_)
  refine VB_aload_n (q := 77) dL_law_76 0 rfl rfl ?_
  refine VB_iload (q := 79) dL_law_77 8 rfl rfl ?_
  refine VB_callD (q := 82) dL_law_79 (u_dice (b := s0) (L := L) (xs := xs) 61 (by omega) hL (hx 61 (by omega))) yv_L_dice rfl gL_law_L_dice xL_s rfl (Nat.le_of_ble_eq_true rfl) (by decide) ⟨by show _ ≤ 20000; omega, by show _ ≤ 130000; omega⟩ ?_
  refine VB_istore (q := 84) (lv' := [(0, _), (1, _), (2, _), (3, _), (4, _), (5, _), (6, _), (7, _), (8, _), (9, _)]) dL_law_82 (by decide) rfl rfl ?_
  refine VB_iload (q := 86) dL_law_84 9 rfl rfl ?_
  refine VB_bipush (q := 88) dL_law_86 (by decide) rfl ?_
  refine VB_idiv (q := 89) (a := 31) (b := 32) dL_law_88 (by omega) (by decide) (by decide) rfl ?_
  refine VB_top (y := iZ 0) rfl ?_
  refine VB_istore (q := 91) (lv' := [(0, _), (1, _), (2, _), (3, _), (4, _), (5, _), (6, _), (7, _), (8, _), (9, _), (10, _)]) dL_law_89 (by decide) rfl rfl ?_
  refine VB_iload (q := 93) dL_law_91 9 rfl rfl ?_
  refine VB_bipush (q := 95) dL_law_93 (by decide) rfl ?_
  refine VB_irem (q := 96) (a := 31) (b := 32) dL_law_95 (by omega) (by decide) (by decide) rfl ?_
  refine VB_top (y := iZ 31) rfl ?_
  refine VB_istore (q := 98) (lv' := [(0, _), (1, _), (2, _), (3, _), (4, _), (5, _), (6, _), (7, _), (8, _), (9, _), (10, _), (11, _)]) dL_law_96 (by decide) rfl rfl ?_
  refine VB_aload (q := 100) dL_law_98 6 rfl rfl ?_
  refine VB_iconst (q := 101) dL_law_100 rfl ?_
  refine VB_iald (q := 102) (v := (iZ 4)) dL_law_101 13 12 rfl rfl (0) (by omega) (by omega) (by decide) (hM0) rfl ?_
  refine VB_if_ne (q := 105) (tgt := 109) dL_law_102 (by decide) (by decide) (fun _ => ?_) (fun hc => absurd hc (by decide))
  refine VB_iload (q := 111) dL_law_109 10 rfl rfl ?_
  refine VB_aload (q := 113) dL_law_111 6 rfl rfl ?_
  refine VB_iconst (q := 114) dL_law_113 rfl ?_
  refine VB_iald (q := 115) (v := (iZ 4)) dL_law_114 13 12 rfl rfl (0) (by omega) (by omega) (by decide) (hM0) rfl ?_
  refine VB_irem (q := 116) (a := 0) (b := 4) dL_law_115 (by omega) (by decide) (by decide) rfl ?_
  refine VB_top (y := iZ 0) rfl ?_
  refine VB_istore (q := 118) (lv' := [(0, _), (1, _), (2, _), (3, _), (4, _), (5, _), (6, _), (7, _), (8, _), (9, _), (10, _), (11, _), (12, _)]) dL_law_116 (by decide) rfl rfl ?_
  refine VB_aload (q := 120) dL_law_118 6 rfl rfl ?_
  refine VB_iconst (q := 121) dL_law_120 rfl ?_
  refine VB_iald (q := 122) (v := (iZ 4)) dL_law_121 13 12 rfl rfl (0) (by omega) (by omega) (by decide) (hM0) rfl ?_
  refine VB_iconst (q := 123) dL_law_122 rfl ?_
  refine VB_icmp_lt (q := 126) (tgt := 141) dL_law_123 (by decide) (by decide) (by decide) (fun hc => absurd hc (by decide)) (fun _ => ?_)
  refine VB_iload (q := 128) dL_law_126 11 rfl rfl ?_
  refine VB_iconst (q := 129) dL_law_128 rfl ?_
  refine VB_icmp_ge (q := 132) (tgt := 326) dL_law_129 (by decide) (by decide) (by decide) (fun _ => ?_) (fun hc => absurd hc (by decide))
  refine VB_iload (q := 328) dL_law_326 11 rfl rfl ?_
  refine VB_bipush (q := 330) dL_law_328 (by decide) rfl ?_
  refine VB_icmp_ge (q := 333) (tgt := 451) dL_law_330 (by decide) (by decide) (by decide) (fun _ => ?_) (fun hc => absurd hc (by decide))
  refine VB_iload (q := 453) dL_law_451 11 rfl rfl ?_
  refine VB_bipush (q := 455) dL_law_453 (by decide) rfl ?_
  refine VB_icmp_ge (q := 458) (tgt := 603) dL_law_455 (by decide) (by decide) (by decide) (fun _ => ?_) (fun hc => absurd hc (by decide))
  refine VB_iload (q := 605) dL_law_603 11 rfl rfl ?_
  refine VB_bipush (q := 607) dL_law_605 (by decide) rfl ?_
  refine VB_icmp_ge (q := 610) (tgt := 633) dL_law_607 (by decide) (by decide) (by decide) (fun _ => ?_) (fun hc => absurd hc (by decide))
  refine VB_iload (q := 635) dL_law_633 11 rfl rfl ?_
  refine VB_bipush (q := 637) dL_law_635 (by decide) rfl ?_
  refine VB_icmp_ge (q := 640) (tgt := 677) dL_law_637 (by decide) (by decide) (by decide) (fun _ => ?_) (fun hc => absurd hc (by decide))
  refine VB_iload (q := 679) dL_law_677 11 rfl rfl ?_
  refine VB_bipush (q := 681) dL_law_679 (by decide) rfl ?_
  refine VB_icmp_ne (q := 684) (tgt := 783) dL_law_681 (by decide) (by decide) (by decide) (fun _ => ?_) (fun hc => absurd hc (by decide))
  refine VB_loc (lv' := [(0, _), (1, _), (2, _), (3, _), (4, _), (5, _), (6, _), (7, _), (8, _), (9, _), (10, _)]) [0, 1, 2, 3, 4, 5, 6, 7, 8, 9, 10] rfl ?_
  exact VB_widen (by omega) (by omega) (ck61 hL h16 hx S F g hI (hK (by decide)) hg)
set_option maxRecDepth 100000 in
set_option maxHeartbeats 8000000 in
theorem ck60 {s0 L : Nat} {xs : Nat → Int32} {a : Nat → Nat} {c : Nat → ClassId} {b : Nat → Nat} {d : Nat → ClassId} (hL : L ≤ 260) (h16 : 80 ≤ L) (hx : ∀ j, j < 80 → xs j = 31) : ∀ (S : St) (F : Nat → Nat → Int32) (g : Nat → Nat), Iv S F 4 → sK S 0 = 0 → (∀ j, g j < 4096) → VB 123 RL cL_law 17 (some .boolean) wsL_law roomB (vXL s0 L xs) (tyl c d) (qF 123) (7602) (45612 + 1250) (wal a c S b d F g) 783 [(0, .ref (s0)), (1, .ref (a 0)), (2, .ref (b 0)), (3, .ref (b 1)), (4, .ref (b 2)), (5, .ref (b 3)), (6, .ref (b 4)), (7, .int (iZ 1)), (8, .int (iZ 60)), (9, .int (iZ 31)), (10, .int (iZ 0))] [] := by
  intro S F g hI hK hg
  obtain ⟨ho, hn, hm4, hM0, hG, hC⟩ := id hI
  refine VB_iload (q := 785) dL_law_783 7 rfl rfl ?_
  refine VB_if_eq (q := 788) (tgt := 968) dL_law_785 (by decide) (by decide) (fun hc => absurd hc (by decide)) (fun _ => ?_)
  refine VB_aload_n (q := 789) dL_law_788 1 rfl rfl ?_
  refine VB_aload_n (q := 790) dL_law_789 2 rfl rfl ?_
  refine VB_aload_n (q := 791) dL_law_790 3 rfl rfl ?_
  refine VB_aload (q := 793) dL_law_791 6 rfl rfl ?_
  refine VB_callU (q := 796) dL_law_793 (u_areThings (a := a) (c := c) (S := S) (b := b) (d := d) (F := F) hI hg) yv_L_areThings rfl gL_law_L_areThings xU_L rfl (Nat.le_of_ble_eq_true rfl) (by decide) ⟨by show _ ≤ 20000; omega, by show _ ≤ 130000; omega⟩ (fun x793 g793 hP793 hg793 => ?_)
  refine VB_lo (lo' := 123) (Nat.le_add_right _ _) ?_
  have J968 : ∀ (gj968 : Nat → Nat), (∀ j, gj968 j < 4096) → VB 123 RL cL_law 17 (some .boolean) wsL_law roomB (vXL s0 L xs) (tyl c d) (qF 123) (7886) (47316 + 1250) (wal a c S b d F gj968) 968 [(0, .ref (s0)), (1, .ref (a 0)), (2, .ref (b 0)), (3, .ref (b 1)), (4, .ref (b 2)), (5, .ref (b 3)), (6, .ref (b 4)), (7, .int (iZ 1)), (8, .int (iZ 60)), (9, .int (iZ 31)), (10, .int (iZ 0))] [] := by
    intro gj968 hgj968
    refine VB_iconst (q := 969) dL_law_968 rfl ?_
    refine VB_istore (q := 971) (lv' := [(0, _), (1, _), (2, _), (3, _), (4, _), (5, _), (6, _), (7, _), (8, _), (9, _), (10, _)]) dL_law_969 (by decide) rfl rfl ?_
    refine VB_iinc (q := 974) (y := 61) (lv' := [(0, _), (1, _), (2, _), (3, _), (4, _), (5, _), (6, _), (7, _), (8, _), (9, _), (10, _)]) dL_law_971 8 rfl (by omega) (by decide) rfl rfl ?_
    refine VB_goto (tgt := 64) dL_law_974 (by decide) ?_
    refine VB_iload (q := 66) dL_law_64 8 rfl rfl ?_
    refine VB_bipush (q := 68) dL_law_66 (by decide) rfl ?_
    refine VB_icmp_ge (q := 71) (tgt := 977) dL_law_68 (by decide) (by decide) (by decide) (fun hc => absurd hc (by decide)) (fun _ => ?_)
    refine VB_iload (q := 73) dL_law_71 7 rfl rfl ?_
    refine VB_if_eq (q := 76) (tgt := 977) dL_law_73 (by decide) (by decide) (fun _ => ?_) (fun hc => absurd hc (by decide))
    refine VB_iload (q := 979) dL_law_977 7 rfl rfl ?_
    exact VB_ret0 dL_law_979 rfl
  refine VB_uif_eq (q := 799) (tgt := 968) dL_law_796 (by decide) ?_ ?_
  · skip
    exact VB_widen (by omega) (by omega) (J968 g793 hg793)
  · skip
    refine VB_iload (q := 801) dL_law_799 8 rfl rfl ?_
    refine VB_iconst (q := 802) dL_law_801 rfl ?_
    refine VB_irem (q := 803) (a := 60) (b := 2) dL_law_802 (by omega) (by decide) (by decide) rfl ?_
    refine VB_top (y := iZ 0) rfl ?_
    refine VB_if_gt (q := 806) (tgt := 833) dL_law_803 (by decide) (by decide) (fun hc => absurd hc (by decide)) (fun _ => ?_)
    refine VB_aload_n (q := 807) dL_law_806 1 rfl rfl ?_
    refine VB_aload_n (q := 808) dL_law_807 2 rfl rfl ?_
    refine VB_aload_n (q := 809) dL_law_808 3 rfl rfl ?_
    refine VB_aload (q := 811) dL_law_809 4 rfl rfl ?_
    refine VB_aload (q := 813) dL_law_811 6 rfl rfl ?_
    refine VB_iload (q := 815) dL_law_813 10 rfl rfl ?_
    refine VB_bipush (q := 817) dL_law_815 (by decide) rfl ?_
    refine VB_irem (q := 818) (a := 0) (b := 31) dL_law_817 (by omega) (by decide) (by decide) rfl ?_
    refine VB_top (y := iZ 0) rfl ?_
    refine VB_iload (q := 820) dL_law_818 10 rfl rfl ?_
    refine VB_bipush (q := 822) dL_law_820 (by decide) rfl ?_
    refine VB_idiv (q := 823) (a := 0) (b := 31) dL_law_822 (by omega) (by decide) (by decide) rfl ?_
    refine VB_top (y := iZ 0) rfl ?_
    refine VB_sipush (q := 826) dL_law_823 (by decide) rfl ?_
    refine VB_irem (q := 827) (a := 0) (b := 256) dL_law_826 (by omega) (by decide) (by decide) rfl ?_
    refine VB_top (y := iZ 0) rfl ?_
    refine VB_callU (q := 830) dL_law_827 (u_areOutfits (a := a) (c := c) (S := S) (b := b) (d := d) (F := F) hI hg793) yv_L_areOutfits rfl gL_law_L_areOutfits xU_L rfl (Nat.le_of_ble_eq_true rfl) (by decide) ⟨by show _ ≤ 20000; omega, by show _ ≤ 130000; omega⟩ (fun x827 g827 hP827 hg827 => ?_)
    refine VB_lo (lo' := 123) (Nat.le_add_right _ _) ?_
    refine VB_uif_eq (q := 833) (tgt := 968) dL_law_830 (by decide) ?_ ?_
    · skip
      exact VB_widen (by omega) (by omega) (J968 g827 hg827)
    · skip
      refine VB_aload_n (q := 834) dL_law_833 1 rfl rfl ?_
      refine VB_aload_n (q := 835) dL_law_834 2 rfl rfl ?_
      refine VB_aload_n (q := 836) dL_law_835 3 rfl rfl ?_
      refine VB_aload (q := 838) dL_law_836 4 rfl rfl ?_
      refine VB_aload (q := 840) dL_law_838 6 rfl rfl ?_
      refine VB_callU (q := 843) dL_law_840 (u_isMissing (a := a) (c := c) (S := S) (b := b) (d := d) (F := F) hI hg827) yv_L_isMissing rfl gL_law_L_isMissing xU_L rfl (Nat.le_of_ble_eq_true rfl) (by decide) ⟨by show _ ≤ 20000; omega, by show _ ≤ 130000; omega⟩ (fun x840 g840 hP840 hg840 => ?_)
      refine VB_lo (lo' := 123) (Nat.le_add_right _ _) ?_
      refine VB_uif_eq (q := 846) (tgt := 968) dL_law_843 (by decide) ?_ ?_
      · skip
        exact VB_widen (by omega) (by omega) (J968 g840 hg840)
      · skip
        refine VB_aload_n (q := 847) dL_law_846 1 rfl rfl ?_
        refine VB_aload_n (q := 848) dL_law_847 2 rfl rfl ?_
        refine VB_aload (q := 850) dL_law_848 6 rfl rfl ?_
        refine VB_iload (q := 852) dL_law_850 10 rfl rfl ?_
        refine VB_aload (q := 854) dL_law_852 6 rfl rfl ?_
        refine VB_iconst (q := 855) dL_law_854 rfl ?_
        refine VB_iald (q := 856) (v := (iZ 4)) dL_law_855 13 12 rfl rfl (0) (by omega) (by omega) (by decide) (hM0) rfl ?_
        refine VB_iconst (q := 857) dL_law_856 rfl ?_
        refine VB_iadd (q := 858) dL_law_857 rfl ?_
        refine VB_top (y := iZ 5) rfl ?_
        refine VB_irem (q := 859) (a := 0) (b := 5) dL_law_858 (by omega) (by decide) (by decide) rfl ?_
        refine VB_top (y := iZ 0) rfl ?_
        refine VB_iload (q := 861) dL_law_859 10 rfl rfl ?_
        refine VB_bipush (q := 863) dL_law_861 (by decide) rfl ?_
        refine VB_idiv (q := 864) (a := 0) (b := 13) dL_law_863 (by omega) (by decide) (by decide) rfl ?_
        refine VB_top (y := iZ 0) rfl ?_
        refine VB_aload (q := 866) dL_law_864 6 rfl rfl ?_
        refine VB_iconst (q := 867) dL_law_866 rfl ?_
        refine VB_iald (q := 868) (v := (iZ 4)) dL_law_867 13 12 rfl rfl (0) (by omega) (by omega) (by decide) (hM0) rfl ?_
        refine VB_iconst (q := 869) dL_law_868 rfl ?_
        refine VB_iadd (q := 870) dL_law_869 rfl ?_
        refine VB_top (y := iZ 5) rfl ?_
        refine VB_irem (q := 871) (a := 0) (b := 5) dL_law_870 (by omega) (by decide) (by decide) rfl ?_
        refine VB_top (y := iZ 0) rfl ?_
        refine VB_iload (q := 873) dL_law_871 10 rfl rfl ?_
        refine VB_sipush (q := 876) dL_law_873 (by decide) rfl ?_
        refine VB_idiv (q := 877) (a := 0) (b := 169) dL_law_876 (by omega) (by decide) (by decide) rfl ?_
        refine VB_top (y := iZ 0) rfl ?_
        refine VB_aload (q := 879) dL_law_877 6 rfl rfl ?_
        refine VB_iconst (q := 880) dL_law_879 rfl ?_
        refine VB_iald (q := 881) (v := (iZ 4)) dL_law_880 13 12 rfl rfl (0) (by omega) (by omega) (by decide) (hM0) rfl ?_
        refine VB_iconst (q := 882) dL_law_881 rfl ?_
        refine VB_iadd (q := 883) dL_law_882 rfl ?_
        refine VB_top (y := iZ 6) rfl ?_
        refine VB_irem (q := 884) (a := 0) (b := 6) dL_law_883 (by omega) (by decide) (by decide) rfl ?_
        refine VB_top (y := iZ 0) rfl ?_
        refine VB_iconst (q := 885) dL_law_884 rfl ?_
        refine VB_isub (q := 886) dL_law_885 rfl ?_
        refine VB_top (y := iZ (-1)) rfl ?_
        refine VB_callU (q := 889) dL_law_886 (u_isWrong (a := a) (c := c) (S := S) (b := b) (d := d) (F := F) hI (wr0 hI (by decide) hK) hg840) yv_L_isWrong rfl gL_law_L_isWrong xU_L rfl (Nat.le_of_ble_eq_true rfl) (by decide) ⟨by show _ ≤ 20000; omega, by show _ ≤ 130000; omega⟩ (fun x886 g886 hP886 hg886 => ?_)
        refine VB_em (x := x886) (fun e886 => VB_lo (lo' := 123) (Nat.le_add_right _ _) (VB_top (y := iZ 0) e886 ?_)) (fun e886 => VB_lo (lo' := 125) (by show 125 ≤ 123 + (if x886 = 0 then 0 else 2); rw [if_neg e886]; omega) ?_)
        · skip
          refine VB_if_eq (q := 892) (tgt := 968) dL_law_889 (by decide) (by decide) (fun _ => ?_) (fun hc => absurd hc (by decide))
          exact VB_widen (by omega) (by omega) (J968 g886 hg886)
        · skip
          refine VB_uif_eq (q := 892) (tgt := 968) dL_law_889 (by decide) ?_ ?_
          · skip
            refine VB_lo (lo' := 123) (by omega) ?_
            exact VB_widen (by omega) (by omega) (J968 g886 hg886)
          · skip
            refine VB_iload (q := 894) dL_law_892 8 rfl rfl ?_
            refine VB_bipush (q := 896) dL_law_894 (by decide) rfl ?_
            refine VB_irem (q := 897) (a := 60) (b := 16) dL_law_896 (by omega) (by decide) (by decide) rfl ?_
            refine VB_top (y := iZ 12) rfl ?_
            refine VB_if_gt (q := 900) (tgt := 943) dL_law_897 (by decide) (by decide) (fun _ => ?_) (fun hc => absurd hc (by decide))
            refine VB_iload (q := 945) dL_law_943 8 rfl rfl ?_
            refine VB_bipush (q := 947) dL_law_945 (by decide) rfl ?_
            refine VB_irem (q := 948) (a := 60) (b := 20) dL_law_947 (by omega) (by decide) (by decide) rfl ?_
            refine VB_top (y := iZ 0) rfl ?_
            refine VB_if_gt (q := 951) (tgt := 964) dL_law_948 (by decide) (by decide) (fun hc => absurd hc (by decide)) (fun _ => ?_)
            refine VB_aload_n (q := 952) dL_law_951 1 rfl rfl ?_
            refine VB_aload (q := 954) dL_law_952 6 rfl rfl ?_
            refine VB_iload (q := 956) dL_law_954 9 rfl rfl ?_
            refine VB_iconst (q := 957) dL_law_956 rfl ?_
            refine VB_idiv (q := 958) (a := 31) (b := 3) dL_law_957 (by omega) (by decide) (by decide) rfl ?_
            refine VB_top (y := iZ 10) rfl ?_
            refine VB_callU (q := 961) dL_law_958 (u_isRefused10b (a := a) (c := c) (S := S) (b := b) (d := d) (F := F) hI hg886) yv_L_isRefused rfl gL_law_L_isRefused xU_L rfl (Nat.le_of_ble_eq_true rfl) (by decide) ⟨by show _ ≤ 20000; omega, by show _ ≤ 130000; omega⟩ (fun x958 g958 hP958 hg958 => ?_)
            refine VB_em (x := x958) (fun e958 => VB_lo (lo' := 125) (Nat.le_add_right _ _) (VB_top (y := iZ 0) e958 ?_)) (fun e958 => VB_lo (lo' := 151) (by show 151 ≤ 125 + (if x958 = 0 then 0 else 26); rw [if_neg e958]; omega) ?_)
            · skip
              refine VB_if_eq (q := 964) (tgt := 968) dL_law_961 (by decide) (by decide) (fun _ => ?_) (fun hc => absurd hc (by decide))
              refine VB_lo (lo' := 123) (by omega) ?_
              exact VB_widen (by omega) (by omega) (J968 g958 hg958)
            · skip
              refine VB_uif_eq (q := 964) (tgt := 968) dL_law_961 (by decide) ?_ ?_
              · skip
                refine VB_lo (lo' := 123) (by omega) ?_
                exact VB_widen (by omega) (by omega) (J968 g958 hg958)
              · skip
                refine VB_iconst (q := 965) dL_law_964 rfl ?_
                refine VB_goto (tgt := 969) dL_law_965 (by decide) ?_
                refine VB_istore (q := 971) (lv' := [(0, _), (1, _), (2, _), (3, _), (4, _), (5, _), (6, _), (7, _), (8, _), (9, _), (10, _)]) dL_law_969 (by decide) rfl rfl ?_
                refine VB_iinc (q := 974) (y := 61) (lv' := [(0, _), (1, _), (2, _), (3, _), (4, _), (5, _), (6, _), (7, _), (8, _), (9, _), (10, _)]) dL_law_971 8 rfl (by omega) (by decide) rfl rfl ?_
                refine VB_goto (tgt := 64) dL_law_974 (by decide) ?_
                refine VB_loc (lv' := [(0, _), (1, _), (2, _), (3, _), (4, _), (5, _), (6, _), (7, _), (8, _)]) [0, 1, 2, 3, 4, 5, 6, 7, 8] rfl ?_
                refine VB_lo (lo' := 123) (by omega) ?_
                exact VB_widen (by omega) (by omega) (rd61 hL h16 hx S F g958 hI (fun _ => hK) hg958)
set_option maxRecDepth 100000 in
set_option maxHeartbeats 8000000 in
theorem rd60 {s0 L : Nat} {xs : Nat → Int32} {a : Nat → Nat} {c : Nat → ClassId} {b : Nat → Nat} {d : Nat → ClassId} (hL : L ≤ 260) (h16 : 80 ≤ L) (hx : ∀ j, j < 80 → xs j = 31) : ∀ (S : St) (F : Nat → Nat → Int32) (g : Nat → Nat), Iv S F 4 → (0 < 60 → sK S 0 = 0) → (∀ j, g j < 4096) → VB 123 RL cL_law 17 (some .boolean) wsL_law roomB (vXL s0 L xs) (tyl c d) (qF 123) (7602) (45612 + 1250) (wal a c S b d F g) 64 [(0, .ref (s0)), (1, .ref (a 0)), (2, .ref (b 0)), (3, .ref (b 1)), (4, .ref (b 2)), (5, .ref (b 3)), (6, .ref (b 4)), (7, .int (iZ 1)), (8, .int (iZ 60))] [] := by
  intro S F g hI hK hg
  obtain ⟨ho, hn, hm4, hM0, hG, hC⟩ := id hI
  refine VB_iload (q := 66) dL_law_64 8 rfl rfl ?_
  refine VB_bipush (q := 68) dL_law_66 (by decide) rfl ?_
  refine VB_icmp_ge (q := 71) (tgt := 977) dL_law_68 (by decide) (by decide) (by decide) (fun hc => absurd hc (by decide)) (fun _ => ?_)
  refine VB_iload (q := 73) dL_law_71 7 rfl rfl ?_
  refine VB_if_eq (q := 76) (tgt := 977) dL_law_73 (by decide) (by decide) (fun hc => absurd hc (by decide)) (fun _ => ?_)
  refine VB_aload_n (q := 77) dL_law_76 0 rfl rfl ?_
  refine VB_iload (q := 79) dL_law_77 8 rfl rfl ?_
  refine VB_callD (q := 82) dL_law_79 (u_dice (b := s0) (L := L) (xs := xs) 60 (by omega) hL (hx 60 (by omega))) yv_L_dice rfl gL_law_L_dice xL_s rfl (Nat.le_of_ble_eq_true rfl) (by decide) ⟨by show _ ≤ 20000; omega, by show _ ≤ 130000; omega⟩ ?_
  refine VB_istore (q := 84) (lv' := [(0, _), (1, _), (2, _), (3, _), (4, _), (5, _), (6, _), (7, _), (8, _), (9, _)]) dL_law_82 (by decide) rfl rfl ?_
  refine VB_iload (q := 86) dL_law_84 9 rfl rfl ?_
  refine VB_bipush (q := 88) dL_law_86 (by decide) rfl ?_
  refine VB_idiv (q := 89) (a := 31) (b := 32) dL_law_88 (by omega) (by decide) (by decide) rfl ?_
  refine VB_top (y := iZ 0) rfl ?_
  refine VB_istore (q := 91) (lv' := [(0, _), (1, _), (2, _), (3, _), (4, _), (5, _), (6, _), (7, _), (8, _), (9, _), (10, _)]) dL_law_89 (by decide) rfl rfl ?_
  refine VB_iload (q := 93) dL_law_91 9 rfl rfl ?_
  refine VB_bipush (q := 95) dL_law_93 (by decide) rfl ?_
  refine VB_irem (q := 96) (a := 31) (b := 32) dL_law_95 (by omega) (by decide) (by decide) rfl ?_
  refine VB_top (y := iZ 31) rfl ?_
  refine VB_istore (q := 98) (lv' := [(0, _), (1, _), (2, _), (3, _), (4, _), (5, _), (6, _), (7, _), (8, _), (9, _), (10, _), (11, _)]) dL_law_96 (by decide) rfl rfl ?_
  refine VB_aload (q := 100) dL_law_98 6 rfl rfl ?_
  refine VB_iconst (q := 101) dL_law_100 rfl ?_
  refine VB_iald (q := 102) (v := (iZ 4)) dL_law_101 13 12 rfl rfl (0) (by omega) (by omega) (by decide) (hM0) rfl ?_
  refine VB_if_ne (q := 105) (tgt := 109) dL_law_102 (by decide) (by decide) (fun _ => ?_) (fun hc => absurd hc (by decide))
  refine VB_iload (q := 111) dL_law_109 10 rfl rfl ?_
  refine VB_aload (q := 113) dL_law_111 6 rfl rfl ?_
  refine VB_iconst (q := 114) dL_law_113 rfl ?_
  refine VB_iald (q := 115) (v := (iZ 4)) dL_law_114 13 12 rfl rfl (0) (by omega) (by omega) (by decide) (hM0) rfl ?_
  refine VB_irem (q := 116) (a := 0) (b := 4) dL_law_115 (by omega) (by decide) (by decide) rfl ?_
  refine VB_top (y := iZ 0) rfl ?_
  refine VB_istore (q := 118) (lv' := [(0, _), (1, _), (2, _), (3, _), (4, _), (5, _), (6, _), (7, _), (8, _), (9, _), (10, _), (11, _), (12, _)]) dL_law_116 (by decide) rfl rfl ?_
  refine VB_aload (q := 120) dL_law_118 6 rfl rfl ?_
  refine VB_iconst (q := 121) dL_law_120 rfl ?_
  refine VB_iald (q := 122) (v := (iZ 4)) dL_law_121 13 12 rfl rfl (0) (by omega) (by omega) (by decide) (hM0) rfl ?_
  refine VB_iconst (q := 123) dL_law_122 rfl ?_
  refine VB_icmp_lt (q := 126) (tgt := 141) dL_law_123 (by decide) (by decide) (by decide) (fun hc => absurd hc (by decide)) (fun _ => ?_)
  refine VB_iload (q := 128) dL_law_126 11 rfl rfl ?_
  refine VB_iconst (q := 129) dL_law_128 rfl ?_
  refine VB_icmp_ge (q := 132) (tgt := 326) dL_law_129 (by decide) (by decide) (by decide) (fun _ => ?_) (fun hc => absurd hc (by decide))
  refine VB_iload (q := 328) dL_law_326 11 rfl rfl ?_
  refine VB_bipush (q := 330) dL_law_328 (by decide) rfl ?_
  refine VB_icmp_ge (q := 333) (tgt := 451) dL_law_330 (by decide) (by decide) (by decide) (fun _ => ?_) (fun hc => absurd hc (by decide))
  refine VB_iload (q := 453) dL_law_451 11 rfl rfl ?_
  refine VB_bipush (q := 455) dL_law_453 (by decide) rfl ?_
  refine VB_icmp_ge (q := 458) (tgt := 603) dL_law_455 (by decide) (by decide) (by decide) (fun _ => ?_) (fun hc => absurd hc (by decide))
  refine VB_iload (q := 605) dL_law_603 11 rfl rfl ?_
  refine VB_bipush (q := 607) dL_law_605 (by decide) rfl ?_
  refine VB_icmp_ge (q := 610) (tgt := 633) dL_law_607 (by decide) (by decide) (by decide) (fun _ => ?_) (fun hc => absurd hc (by decide))
  refine VB_iload (q := 635) dL_law_633 11 rfl rfl ?_
  refine VB_bipush (q := 637) dL_law_635 (by decide) rfl ?_
  refine VB_icmp_ge (q := 640) (tgt := 677) dL_law_637 (by decide) (by decide) (by decide) (fun _ => ?_) (fun hc => absurd hc (by decide))
  refine VB_iload (q := 679) dL_law_677 11 rfl rfl ?_
  refine VB_bipush (q := 681) dL_law_679 (by decide) rfl ?_
  refine VB_icmp_ne (q := 684) (tgt := 783) dL_law_681 (by decide) (by decide) (by decide) (fun _ => ?_) (fun hc => absurd hc (by decide))
  refine VB_loc (lv' := [(0, _), (1, _), (2, _), (3, _), (4, _), (5, _), (6, _), (7, _), (8, _), (9, _), (10, _)]) [0, 1, 2, 3, 4, 5, 6, 7, 8, 9, 10] rfl ?_
  exact VB_widen (by omega) (by omega) (ck60 hL h16 hx S F g hI (hK (by decide)) hg)
