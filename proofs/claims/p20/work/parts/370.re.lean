/-! what is refused: the law's two checks that make exceptions, and how many at the least -/
theorem cEn_x {S : St} {x : Int32} {d w : Int} (h : ¬ x.toBitVec.toNat < 4096) : cEn S x d w = 1 := if_neg (fun q => h (ow_sub q.1).2)
theorem cEn_b {S : St} {x : Int32} {d w : Int} (h : ¬ (inZ d 1 20 && inZ w 0 20) = true) : cEn S x d w = 1 := if_neg (fun q => h q.2)
theorem wrZ_no {S : St} {F : Nat → Nat → Int32} {m0 : Nat} (h : Iv S F m0) {x y z : Int} (hx : x < 0 ∨ (m0 : Int) ≤ x) : wrZ S x y z = 1 := by
  unfold wrZ
  rw [iv_no h hx]
  rfl
theorem cSoon_w {S : St} {x y p : Int} {k : Nat} (h : wrZ S x y (-1) = k + 1) : cSoon S x y p = k + 1 := by
  unfold cSoon
  rw [if_neg (by rw [h]; exact Nat.succ_ne_zero k), h]
theorem cWear_w {S : St} {x y z p : Int} {k : Nat} (h : wrZ S x y z = k + 1) : cWear S x y z p = k + 1 := by
  unfold cWear
  rw [if_neg (by rw [h]; exact Nat.succ_ne_zero k), h]
set_option maxRecDepth 100000 in
set_option maxHeartbeats 8000000 in
theorem u_isWrong {a : Nat → Nat} {c : Nat → ClassId} {S : St} {b : Nat → Nat} {d : Nat → ClassId} {F : Nat → Nat → Int32} {g : Nat → Nat} {m0 : Nat} (hI : Iv S F m0) (hw : wrZ S 0 0 (-1) = 2) (hg : ∀ j, g j < 4096) : CtU yL_isWrong wsL_isWrong (rmU 10 8) (tyl c d) [.ref (a 0), .ref (b 0), .ref (b 4), .int (iZ 0), .int (iZ 0), .int (iZ (-1))] (wal a c S b d F g) (wal a c S b d F) (fun _ => True) (fun x => if x = 0 then 0 else 2) 8 := by
  obtain ⟨ho, hn, hm4, hM0, hG, hC⟩ := id hI
  refine CtU_of (own := RL) (by decide) rfl rfl (Nat.le_of_ble_eq_true rfl) ?_
  refine VB_lvq (lv' := [(0, _), (1, _), (2, _), (3, _), (4, _), (5, _)]) rfl ?_
  refine VB_aload_n (q := 1) dL_isWrong_0 1 rfl rfl ?_
  refine VB_aload_n (q := 2) dL_isWrong_1 2 rfl rfl ?_
  refine VB_iload_n (q := 3) dL_isWrong_2 3 rfl rfl ?_
  refine VB_callU (q := 6) dL_isWrong_3 (u_isThing (a := a) (c := c) (S := S) (b := b) (d := d) (F := F) hI hg) yv_L_isThing rfl gL_isWrong_L_isThing xU_U rfl (Nat.le_of_ble_eq_true rfl) (by decide) ⟨by show _ ≤ 8; omega, by show _ ≤ 6 * 8; omega⟩ (fun x3 g3 hP3 hg3 => ?_)
  refine VB_lo (lo' := 0) (Nat.le_add_right _ _) ?_
  have J40 : ∀ (j40_s0 : Bool) (gj40 : Nat → Nat), (∀ j, gj40 j < 4096) → VB 0 RL cL_isWrong 9 (some .boolean) wsL_isWrong (rmU 10 8) vXU (tyl c d) (qU (wal a c S b d F) (tyl c d) (fun _ => True) (fun x => if x = 0 then 0 else 2) 8 (6 * 8)) (0) (0) (wal a c S b d F gj40) 40 [(0, .ref (a 0)), (1, .ref (b 0)), (2, .ref (b 4)), (3, .int (iZ 0)), (4, .int (iZ 0)), (5, .int (iZ (-1)))] [.int (iZ (bZ j40_s0))] := by
    intro j40_s0 gj40 hgj40
    refine VB_istore (q := 42) (lv' := [(0, _), (1, _), (2, _), (3, _), (4, _), (5, _), (6, _)]) dL_isWrong_40 (by decide) rfl rfl ?_
    refine VB_iload (q := 44) dL_isWrong_42 6 rfl rfl ?_
    have J85 : ∀ (j85_6 : Bool) (j85_s0 : Bool) (gj85 : Nat → Nat), (∀ j, gj85 j < 4096) → VB 0 RL cL_isWrong 9 (some .boolean) wsL_isWrong (rmU 10 8) vXU (tyl c d) (qU (wal a c S b d F) (tyl c d) (fun _ => True) (fun x => if x = 0 then 0 else 2) 8 (6 * 8)) (0) (0) (wal a c S b d F gj85) 85 [(0, .ref (a 0)), (1, .ref (b 0)), (2, .ref (b 4)), (3, .int (iZ 0)), (4, .int (iZ 0)), (5, .int (iZ (-1))), (6, .int (iZ (bZ j85_6)))] [.int (iZ (bZ j85_s0))] := by
      intro j85_6 j85_s0 gj85 hgj85
      refine VB_istore (q := 87) (lv' := [(0, _), (1, _), (2, _), (3, _), (4, _), (5, _), (6, _), (7, _)]) dL_isWrong_85 (by decide) rfl rfl ?_
      refine VB_iload (q := 89) dL_isWrong_87 6 rfl rfl ?_
      have J101 : ∀ (j101_6 : Bool) (j101_7 : Bool) (j101_s0 : Int32) (gj101 : Nat → Nat), (∀ j, gj101 j < 4096) → VB 0 RL cL_isWrong 9 (some .boolean) wsL_isWrong (rmU 10 8) vXU (tyl c d) (qU (wal a c S b d F) (tyl c d) (fun _ => True) (fun x => if x = 0 then 0 else 2) 8 (6 * 8)) (0) (0) (wal a c S b d F gj101) 101 [(0, .ref (a 0)), (1, .ref (b 0)), (2, .ref (b 4)), (3, .int (iZ 0)), (4, .int (iZ 0)), (5, .int (iZ (-1))), (6, .int (iZ (bZ j101_6))), (7, .int (iZ (bZ j101_7)))] [.int j101_s0] := by
        intro j101_6 j101_7 j101_s0 gj101 hgj101
        refine VB_istore (q := 103) (lv' := [(0, _), (1, _), (2, _), (3, _), (4, _), (5, _), (6, _), (7, _), (8, _)]) dL_isWrong_101 (by decide) rfl rfl ?_
        refine VB_iload (q := 105) dL_isWrong_103 7 rfl rfl ?_
        refine VB_uif_eq (q := 108) (tgt := 171) dL_isWrong_105 (by decide) ?_ ?_
        · skip
          refine VB_aload_n (q := 172) dL_isWrong_171 0 rfl rfl ?_
          refine VB_iconst (q := 173) dL_isWrong_172 rfl ?_
          refine VB_iload_n (q := 174) dL_isWrong_173 3 rfl rfl ?_
          refine VB_iload (q := 176) dL_isWrong_174 4 rfl rfl ?_
          refine VB_iload (q := 178) dL_isWrong_176 5 rfl rfl ?_
          refine VB_iconst (q := 179) dL_isWrong_178 rfl ?_
          refine VB_callUW (q := 182) dL_isWrong_179 (u_out0_noa (a := a) (c := c) (S := S) (b := b) (d := d) (F := F) ho hgj101 0 0 (-1) 0 (by omega) (by omega) (by omega) (by omega) hw) yw_outfit rfl gL_isWrong_L_outfit xU_U rfl (Nat.le_of_ble_eq_true rfl) (by decide) ⟨by show _ ≤ 8; omega, by show _ ≤ 6 * 8; omega⟩ (fun x179 g179 hP179 hg179 => ?_)
          refine VB_lo (lo' := 1) (by show 1 ≤ 0 + 1; omega) ?_
          refine VB_top (y := iZ (-982)) hP179 ?_
          refine VB_iload (q := 184) dL_isWrong_182 8 rfl rfl ?_
          have J207 : ∀ (j207_6 : Bool) (j207_7 : Bool) (j207_8 : Int32) (gj207 : Nat → Nat), (∀ j, gj207 j < 4096) → VB 1 RL cL_isWrong 9 (some .boolean) wsL_isWrong (rmU 10 8) vXU (tyl c d) (qU (wal a c S b d F) (tyl c d) (fun _ => True) (fun x => if x = 0 then 0 else 2) 8 (6 * 8)) (2) (12) (wal a c S b d F gj207) 207 [(0, .ref (a 0)), (1, .ref (b 0)), (2, .ref (b 4)), (3, .int (iZ 0)), (4, .int (iZ 0)), (5, .int (iZ (-1))), (6, .int (iZ (bZ j207_6))), (7, .int (iZ (bZ j207_7))), (8, .int j207_8)] [] := by
            intro j207_6 j207_7 j207_8 gj207 hgj207
            refine VB_iconst (q := 208) dL_isWrong_207 rfl ?_
            exact VB_widen (k' := 8) (n' := 6 * 8) (by omega) (by omega) (VB_zretU dL_isWrong_208 rfl rfl trivial (by decide) hgj207 rfl)
          refine VB_uicmp_ne (q := 187) (tgt := 207) dL_isWrong_184 (by decide) ?_ ?_
          · skip
            exact VB_widen (by omega) (by omega) (J207 j101_6 j101_7 j101_s0 g179 hg179)
          · skip
            refine VB_aload_n (q := 188) dL_isWrong_187 0 rfl rfl ?_
            refine VB_iconst (q := 189) dL_isWrong_188 rfl ?_
            refine VB_iload_n (q := 190) dL_isWrong_189 3 rfl rfl ?_
            refine VB_iload (q := 192) dL_isWrong_190 4 rfl rfl ?_
            refine VB_iload (q := 194) dL_isWrong_192 5 rfl rfl ?_
            refine VB_iconst (q := 195) dL_isWrong_194 rfl ?_
            refine VB_callUW (q := 198) dL_isWrong_195 (u_out2_noa (a := a) (c := c) (S := S) (b := b) (d := d) (F := F) ho hg179 0 0 (-1) 0 (by omega) (by omega) (by omega) (by omega) (cWear_w hw)) yw_outfit rfl gL_isWrong_L_outfit xU_U rfl (Nat.le_of_ble_eq_true rfl) (by decide) ⟨by show _ ≤ 8; omega, by show _ ≤ 6 * 8; omega⟩ (fun x195 g195 hP195 hg195 => ?_)
            refine VB_lo (lo' := 2) (by show 2 ≤ 1 + 1; omega) ?_
            refine VB_top (y := iZ (-982)) hP195 ?_
            refine VB_iload (q := 200) dL_isWrong_198 8 rfl rfl ?_
            refine VB_uicmp_ne (q := 203) (tgt := 207) dL_isWrong_200 (by decide) ?_ ?_
            · skip
              refine VB_lo (lo' := 1) (by omega) ?_
              exact VB_widen (by omega) (by omega) (J207 j101_6 j101_7 j101_s0 g195 hg195)
            · skip
              refine VB_iconst (q := 204) dL_isWrong_203 rfl ?_
              refine VB_goto (tgt := 208) dL_isWrong_204 (by decide) ?_
              exact VB_widen (k' := 8) (n' := 6 * 8) (by omega) (by omega) (VB_zretU dL_isWrong_208 rfl rfl trivial (by decide) hg195 rfl)
        · skip
          refine VB_aload_n (q := 109) dL_isWrong_108 0 rfl rfl ?_
          refine VB_iconst (q := 110) dL_isWrong_109 rfl ?_
          refine VB_iload_n (q := 111) dL_isWrong_110 3 rfl rfl ?_
          refine VB_iload (q := 113) dL_isWrong_111 4 rfl rfl ?_
          refine VB_iload (q := 115) dL_isWrong_113 5 rfl rfl ?_
          refine VB_iconst (q := 116) dL_isWrong_115 rfl ?_
          refine VB_callUW (q := 119) dL_isWrong_116 (u_out2_noa (a := a) (c := c) (S := S) (b := b) (d := d) (F := F) ho hgj101 0 0 (-1) (-1) (by omega) (by omega) (by omega) (by omega) (cWear_w hw)) yw_outfit rfl gL_isWrong_L_outfit xU_U rfl (Nat.le_of_ble_eq_true rfl) (by decide) ⟨by show _ ≤ 8; omega, by show _ ≤ 6 * 8; omega⟩ (fun x116 g116 hP116 hg116 => ?_)
          refine VB_lo (lo' := 1) (by show 1 ≤ 0 + 1; omega) ?_
          refine VB_top (y := iZ (-982)) hP116 ?_
          refine VB_sipush (q := 122) dL_isWrong_119 (by decide) rfl ?_
          refine VB_icmp_ne (q := 125) (tgt := 167) dL_isWrong_122 (by decide) (by decide) (by decide) (fun hc => absurd hc (by decide)) (fun _ => ?_)
          refine VB_aload_n (q := 126) dL_isWrong_125 0 rfl rfl ?_
          refine VB_iconst (q := 127) dL_isWrong_126 rfl ?_
          refine VB_iload_n (q := 128) dL_isWrong_127 3 rfl rfl ?_
          refine VB_iload (q := 130) dL_isWrong_128 4 rfl rfl ?_
          refine VB_iload (q := 132) dL_isWrong_130 5 rfl rfl ?_
          refine VB_sipush (q := 135) dL_isWrong_132 (by decide) rfl ?_
          refine VB_callUW (q := 138) dL_isWrong_135 (u_out2_noa (a := a) (c := c) (S := S) (b := b) (d := d) (F := F) ho hg116 0 0 (-1) 256 (by omega) (by omega) (by omega) (by omega) (cWear_w hw)) yw_outfit rfl gL_isWrong_L_outfit xU_U rfl (Nat.le_of_ble_eq_true rfl) (by decide) ⟨by show _ ≤ 8; omega, by show _ ≤ 6 * 8; omega⟩ (fun x135 g135 hP135 hg135 => ?_)
          refine VB_lo (lo' := 2) (by show 2 ≤ 1 + 1; omega) ?_
          refine VB_top (y := iZ (-982)) hP135 ?_
          refine VB_sipush (q := 141) dL_isWrong_138 (by decide) rfl ?_
          refine VB_icmp_ne (q := 144) (tgt := 167) dL_isWrong_141 (by decide) (by decide) (by decide) (fun hc => absurd hc (by decide)) (fun _ => ?_)
          refine VB_aload_n (q := 145) dL_isWrong_144 0 rfl rfl ?_
          refine VB_iconst (q := 146) dL_isWrong_145 rfl ?_
          refine VB_iload_n (q := 147) dL_isWrong_146 3 rfl rfl ?_
          refine VB_iload (q := 149) dL_isWrong_147 4 rfl rfl ?_
          refine VB_iload (q := 151) dL_isWrong_149 5 rfl rfl ?_
          refine VB_sipush (q := 154) dL_isWrong_151 (by decide) rfl ?_
          refine VB_callUW (q := 157) dL_isWrong_154 (u_out1_noa (a := a) (c := c) (S := S) (b := b) (d := d) (F := F) ho hg135 0 0 (-1) 256 (by omega) (by omega) (by omega) (by omega) (cSoon_w hw)) yw_outfit rfl gL_isWrong_L_outfit xU_U rfl (Nat.le_of_ble_eq_true rfl) (by decide) ⟨by show _ ≤ 8; omega, by show _ ≤ 6 * 8; omega⟩ (fun x154 g154 hP154 hg154 => ?_)
          refine VB_lo (lo' := 3) (by show 3 ≤ 2 + 1; omega) ?_
          refine VB_top (y := iZ (-982)) hP154 ?_
          refine VB_sipush (q := 160) dL_isWrong_157 (by decide) rfl ?_
          refine VB_icmp_ne (q := 163) (tgt := 167) dL_isWrong_160 (by decide) (by decide) (by decide) (fun hc => absurd hc (by decide)) (fun _ => ?_)
          refine VB_iconst (q := 164) dL_isWrong_163 rfl ?_
          refine VB_goto (tgt := 208) dL_isWrong_164 (by decide) ?_
          exact VB_widen (k' := 8) (n' := 6 * 8) (by omega) (by omega) (VB_zretU dL_isWrong_208 rfl rfl trivial (by decide) hg154 rfl)
      refine VB_uif_eq (q := 92) (tgt := 98) dL_isWrong_89 (by decide) ?_ ?_
      · skip
        refine VB_sipush (q := 101) dL_isWrong_98 (by decide) rfl ?_
        exact VB_widen (by omega) (by omega) (J101 j85_6 j85_s0 (iZ (-981)) gj85 hgj85)
      · skip
        refine VB_sipush (q := 95) dL_isWrong_92 (by decide) rfl ?_
        refine VB_goto (tgt := 101) dL_isWrong_95 (by decide) ?_
        exact VB_widen (by omega) (by omega) (J101 j85_6 j85_s0 (iZ (-982)) gj85 hgj85)
    have J84 : ∀ (j84_6 : Bool) (gj84 : Nat → Nat), (∀ j, gj84 j < 4096) → VB 0 RL cL_isWrong 9 (some .boolean) wsL_isWrong (rmU 10 8) vXU (tyl c d) (qU (wal a c S b d F) (tyl c d) (fun _ => True) (fun x => if x = 0 then 0 else 2) 8 (6 * 8)) (0) (0) (wal a c S b d F gj84) 84 [(0, .ref (a 0)), (1, .ref (b 0)), (2, .ref (b 4)), (3, .int (iZ 0)), (4, .int (iZ 0)), (5, .int (iZ (-1))), (6, .int (iZ (bZ j84_6)))] [] := by
      intro j84_6 gj84 hgj84
      refine VB_iconst (q := 85) dL_isWrong_84 rfl ?_
      exact VB_widen (by omega) (by omega) (J85 j84_6 false gj84 hgj84)
    refine VB_uif_eq (q := 47) (tgt := 84) dL_isWrong_44 (by decide) ?_ ?_
    · skip
      exact VB_widen (by omega) (by omega) (J84 j40_s0 gj40 hgj40)
    · skip
      refine VB_aload_n (q := 48) dL_isWrong_47 1 rfl rfl ?_
      refine VB_iconst (q := 49) dL_isWrong_48 rfl ?_
      refine VB_iload_n (q := 50) dL_isWrong_49 3 rfl rfl ?_
      refine VB_imul (q := 51) dL_isWrong_50 rfl ?_
      refine VB_top (y := iZ 0) rfl ?_
      refine VB_iald (q := 52) dL_isWrong_51 9 8 rfl rfl (0) (by omega) (by omega) (by decide) rfl rfl ?_
      refine VB_uany (fun u51 => ?_)
      refine VB_uif_ne (q := 55) (tgt := 84) dL_isWrong_52 (by decide) ?_ ?_
      · skip
        exact VB_widen (by omega) (by omega) (J84 j40_s0 gj40 hgj40)
      · skip
        refine VB_aload_n (q := 56) dL_isWrong_55 1 rfl rfl ?_
        refine VB_iconst (q := 57) dL_isWrong_56 rfl ?_
        refine VB_iload (q := 59) dL_isWrong_57 4 rfl rfl ?_
        refine VB_imul (q := 60) dL_isWrong_59 rfl ?_
        refine VB_top (y := iZ 0) rfl ?_
        refine VB_iald (q := 61) dL_isWrong_60 9 8 rfl rfl (0) (by omega) (by omega) (by decide) rfl rfl ?_
        refine VB_uany (fun u60 => ?_)
        refine VB_iconst (q := 62) dL_isWrong_61 rfl ?_
        refine VB_uicmp_ne (q := 65) (tgt := 84) dL_isWrong_62 (by decide) ?_ ?_
        · skip
          exact VB_widen (by omega) (by omega) (J84 j40_s0 gj40 hgj40)
        · skip
          refine VB_iload (q := 67) dL_isWrong_65 5 rfl rfl ?_
          refine VB_if_lt (q := 70) (tgt := 80) dL_isWrong_67 (by decide) (by decide) (fun _ => ?_) (fun hc => absurd hc (by decide))
          refine VB_iconst (q := 81) dL_isWrong_80 rfl ?_
          refine VB_goto (tgt := 85) dL_isWrong_81 (by decide) ?_
          exact VB_widen (by omega) (by omega) (J85 j40_s0 true gj40 hgj40)
  have J39 : ∀ (gj39 : Nat → Nat), (∀ j, gj39 j < 4096) → VB 0 RL cL_isWrong 9 (some .boolean) wsL_isWrong (rmU 10 8) vXU (tyl c d) (qU (wal a c S b d F) (tyl c d) (fun _ => True) (fun x => if x = 0 then 0 else 2) 8 (6 * 8)) (0) (0) (wal a c S b d F gj39) 39 [(0, .ref (a 0)), (1, .ref (b 0)), (2, .ref (b 4)), (3, .int (iZ 0)), (4, .int (iZ 0)), (5, .int (iZ (-1)))] [] := by
    intro gj39 hgj39
    refine VB_iconst (q := 40) dL_isWrong_39 rfl ?_
    exact VB_widen (by omega) (by omega) (J40 false gj39 hgj39)
  refine VB_uif_eq (q := 9) (tgt := 39) dL_isWrong_6 (by decide) ?_ ?_
  · skip
    exact VB_widen (by omega) (by omega) (J39 g3 hg3)
  · skip
    refine VB_aload_n (q := 10) dL_isWrong_9 1 rfl rfl ?_
    refine VB_aload_n (q := 11) dL_isWrong_10 2 rfl rfl ?_
    refine VB_iload (q := 13) dL_isWrong_11 4 rfl rfl ?_
    refine VB_callU (q := 16) dL_isWrong_13 (u_isThing (a := a) (c := c) (S := S) (b := b) (d := d) (F := F) hI hg3) yv_L_isThing rfl gL_isWrong_L_isThing xU_U rfl (Nat.le_of_ble_eq_true rfl) (by decide) ⟨by show _ ≤ 8; omega, by show _ ≤ 6 * 8; omega⟩ (fun x13 g13 hP13 hg13 => ?_)
    refine VB_lo (lo' := 0) (Nat.le_add_right _ _) ?_
    refine VB_uif_eq (q := 19) (tgt := 39) dL_isWrong_16 (by decide) ?_ ?_
    · skip
      exact VB_widen (by omega) (by omega) (J39 g13 hg13)
    · skip
      refine VB_iload (q := 21) dL_isWrong_19 5 rfl rfl ?_
      refine VB_iconst (q := 22) dL_isWrong_21 rfl ?_
      refine VB_icmp_eq (q := 25) (tgt := 35) dL_isWrong_22 (by decide) (by decide) (by decide) (fun _ => ?_) (fun hc => absurd hc (by decide))
      refine VB_iconst (q := 36) dL_isWrong_35 rfl ?_
      refine VB_goto (tgt := 40) dL_isWrong_36 (by decide) ?_
      exact VB_widen (by omega) (by omega) (J40 true g13 hg13)
set_option maxRecDepth 100000 in
set_option maxHeartbeats 8000000 in
theorem u_isRefused0 {a : Nat → Nat} {c : Nat → ClassId} {S : St} {b : Nat → Nat} {d : Nat → ClassId} {F : Nat → Nat → Int32} {g : Nat → Nat} (hI : Iv S F 0) (hg : ∀ j, g j < 4096) : CtU yL_isRefused wsL_isRefused (rmU 11 64) (tyl c d) [.ref (a 0), .ref (b 4), .int (iZ 0)] (wal a c S b d F g) (wal a c S b d F) (fun _ => True) (fun x => if x = 0 then 0 else 26) 64 := by
  obtain ⟨ho, hn, hm4, hM0, hG, hC⟩ := id hI
  refine CtU_of (own := RL) (by decide) rfl rfl (Nat.le_of_ble_eq_true rfl) ?_
  refine VB_lvq (lv' := [(0, _), (1, _), (2, _)]) rfl ?_
  refine VB_iload_n (q := 1) dL_isRefused_0 2 rfl rfl ?_
  refine VB_iconst (q := 2) dL_isRefused_1 rfl ?_
  refine VB_irem (q := 3) (a := 0) (b := 2) dL_isRefused_2 (by omega) (by decide) (by decide) rfl ?_
  refine VB_top (y := iZ 0) rfl ?_
  refine VB_if_ne (q := 6) (tgt := 10) dL_isRefused_3 (by decide) (by decide) (fun hc => absurd hc (by decide)) (fun _ => ?_)
  refine VB_iconst (q := 7) dL_isRefused_6 rfl ?_
  refine VB_goto (tgt := 11) dL_isRefused_7 (by decide) ?_
  refine VB_istore_n (q := 12) (lv' := [(0, _), (1, _), (2, _), (3, _)]) dL_isRefused_11 (by decide) rfl rfl ?_
  refine VB_iload_n (q := 13) dL_isRefused_12 3 rfl rfl ?_
  refine VB_if_eq (q := 16) (tgt := 25) dL_isRefused_13 (by decide) (by decide) (fun hc => absurd hc (by decide)) (fun _ => ?_)
  refine VB_iconst (q := 17) dL_isRefused_16 rfl ?_
  refine VB_iload_n (q := 18) dL_isRefused_17 2 rfl rfl ?_
  refine VB_bipush (q := 20) dL_isRefused_18 (by decide) rfl ?_
  refine VB_irem (q := 21) (a := 0) (b := 30) dL_isRefused_20 (by omega) (by decide) (by decide) rfl ?_
  refine VB_top (y := iZ 0) rfl ?_
  refine VB_isub (q := 22) dL_isRefused_21 rfl ?_
  refine VB_top (y := iZ (-1)) rfl ?_
  refine VB_goto (tgt := 33) dL_isRefused_22 (by decide) ?_
  refine VB_istore (q := 35) (lv' := [(0, _), (1, _), (2, _), (3, _), (4, _)]) dL_isRefused_33 (by decide) rfl rfl ?_
  refine VB_iload_n (q := 36) dL_isRefused_35 3 rfl rfl ?_
  refine VB_if_eq (q := 39) (tgt := 49) dL_isRefused_36 (by decide) (by decide) (fun hc => absurd hc (by decide)) (fun _ => ?_)
  refine VB_bipush (q := 41) dL_isRefused_39 (by decide) rfl ?_
  refine VB_iload_n (q := 42) dL_isRefused_41 2 rfl rfl ?_
  refine VB_bipush (q := 44) dL_isRefused_42 (by decide) rfl ?_
  refine VB_irem (q := 45) (a := 0) (b := 30) dL_isRefused_44 (by omega) (by decide) (by decide) rfl ?_
  refine VB_top (y := iZ 0) rfl ?_
  refine VB_isub (q := 46) dL_isRefused_45 rfl ?_
  refine VB_top (y := iZ (-2)) rfl ?_
  refine VB_goto (tgt := 51) dL_isRefused_46 (by decide) ?_
  refine VB_istore (q := 53) (lv' := [(0, _), (1, _), (2, _), (3, _), (4, _), (5, _)]) dL_isRefused_51 (by decide) rfl rfl ?_
  refine VB_aload_n (q := 54) dL_isRefused_53 0 rfl rfl ?_
  refine VB_aload_n (q := 55) dL_isRefused_54 1 rfl rfl ?_
  refine VB_callUL (q := 58) dL_isRefused_55 (u_all (a := a) (c := c) (S := S) (b := b) (d := d) (F := F) hI hg) yv_L_all rfl gL_isRefused_L_all xU_U rfl (Nat.le_of_ble_eq_true rfl) (by decide) ⟨by show _ ≤ 64; omega, by show _ ≤ 6 * 64; omega⟩ (fun x55 g55 hg55 => ?_)
  refine VB_lstore (q := 60) (lv' := [(0, _), (1, _), (2, _), (3, _), (4, _), (5, _), (6, _)]) dL_isRefused_58 (by decide) rfl rfl ?_
  refine VB_aload_n (q := 61) dL_isRefused_60 0 rfl rfl ?_
  refine VB_iload_n (q := 62) dL_isRefused_61 3 rfl rfl ?_
  refine VB_if_eq (q := 65) (tgt := 69) dL_isRefused_62 (by decide) (by decide) (fun hc => absurd hc (by decide)) (fun _ => ?_)
  refine VB_iconst (q := 66) dL_isRefused_65 rfl ?_
  refine VB_goto (tgt := 70) dL_isRefused_66 (by decide) ?_
  refine VB_iconst (q := 71) dL_isRefused_70 rfl ?_
  refine VB_iconst (q := 72) dL_isRefused_71 rfl ?_
  refine VB_iconst (q := 73) dL_isRefused_72 rfl ?_
  refine VB_iconst (q := 74) dL_isRefused_73 rfl ?_
  refine VB_callUW (q := 77) dL_isRefused_74 (u_add_no (a := a) (c := c) (S := S) (b := b) (d := d) (F := F) ho hg55 (-1) 0 0 1 0 (by omega) (by omega) (by omega) (by omega) (by omega) (by unfold cAdd; rw [if_neg (by decide)])) yw_add rfl gL_isRefused_L_add xU_U rfl (Nat.le_of_ble_eq_true rfl) (by decide) ⟨by show _ ≤ 64; omega, by show _ ≤ 6 * 64; omega⟩ (fun x74 g74 hP74 hg74 => ?_)
  refine VB_lo (lo' := 1) (by show 1 ≤ 0 + 1; omega) ?_
  refine VB_top (y := iZ (-982)) hP74 ?_
  refine VB_sipush (q := 80) dL_isRefused_77 (by decide) rfl ?_
  refine VB_icmp_ne (q := 83) (tgt := 452) dL_isRefused_80 (by decide) (by decide) (by decide) (fun hc => absurd hc (by decide)) (fun _ => ?_)
  refine VB_aload_n (q := 84) dL_isRefused_83 0 rfl rfl ?_
  refine VB_iconst (q := 85) dL_isRefused_84 rfl ?_
  refine VB_iload_n (q := 86) dL_isRefused_85 3 rfl rfl ?_
  refine VB_if_eq (q := 89) (tgt := 93) dL_isRefused_86 (by decide) (by decide) (fun hc => absurd hc (by decide)) (fun _ => ?_)
  refine VB_iconst (q := 90) dL_isRefused_89 rfl ?_
  refine VB_goto (tgt := 95) dL_isRefused_90 (by decide) ?_
  refine VB_iconst (q := 96) dL_isRefused_95 rfl ?_
  refine VB_iconst (q := 97) dL_isRefused_96 rfl ?_
  refine VB_iconst (q := 98) dL_isRefused_97 rfl ?_
  refine VB_callUW (q := 101) dL_isRefused_98 (u_add_no (a := a) (c := c) (S := S) (b := b) (d := d) (F := F) ho hg74 0 (-1) 0 1 0 (by omega) (by omega) (by omega) (by omega) (by omega) (by unfold cAdd; rw [if_neg (by decide)])) yw_add rfl gL_isRefused_L_add xU_U rfl (Nat.le_of_ble_eq_true rfl) (by decide) ⟨by show _ ≤ 64; omega, by show _ ≤ 6 * 64; omega⟩ (fun x98 g98 hP98 hg98 => ?_)
  refine VB_lo (lo' := 2) (by show 2 ≤ 1 + 1; omega) ?_
  refine VB_top (y := iZ (-982)) hP98 ?_
  refine VB_sipush (q := 104) dL_isRefused_101 (by decide) rfl ?_
  refine VB_icmp_ne (q := 107) (tgt := 452) dL_isRefused_104 (by decide) (by decide) (by decide) (fun hc => absurd hc (by decide)) (fun _ => ?_)
  refine VB_aload_n (q := 108) dL_isRefused_107 0 rfl rfl ?_
  refine VB_iconst (q := 109) dL_isRefused_108 rfl ?_
  refine VB_iconst (q := 110) dL_isRefused_109 rfl ?_
  refine VB_iload_n (q := 111) dL_isRefused_110 3 rfl rfl ?_
  refine VB_if_eq (q := 114) (tgt := 118) dL_isRefused_111 (by decide) (by decide) (fun hc => absurd hc (by decide)) (fun _ => ?_)
  refine VB_iconst (q := 115) dL_isRefused_114 rfl ?_
  refine VB_goto (tgt := 120) dL_isRefused_115 (by decide) ?_
  refine VB_iconst (q := 121) dL_isRefused_120 rfl ?_
  refine VB_iconst (q := 122) dL_isRefused_121 rfl ?_
  refine VB_callUW (q := 125) dL_isRefused_122 (u_add_no (a := a) (c := c) (S := S) (b := b) (d := d) (F := F) ho hg98 0 0 (-1) 1 0 (by omega) (by omega) (by omega) (by omega) (by omega) (by unfold cAdd; rw [if_neg (by decide)])) yw_add rfl gL_isRefused_L_add xU_U rfl (Nat.le_of_ble_eq_true rfl) (by decide) ⟨by show _ ≤ 64; omega, by show _ ≤ 6 * 64; omega⟩ (fun x122 g122 hP122 hg122 => ?_)
  refine VB_lo (lo' := 3) (by show 3 ≤ 2 + 1; omega) ?_
  refine VB_top (y := iZ (-982)) hP122 ?_
  refine VB_sipush (q := 128) dL_isRefused_125 (by decide) rfl ?_
  refine VB_icmp_ne (q := 131) (tgt := 452) dL_isRefused_128 (by decide) (by decide) (by decide) (fun hc => absurd hc (by decide)) (fun _ => ?_)
  refine VB_aload_n (q := 132) dL_isRefused_131 0 rfl rfl ?_
  refine VB_iconst (q := 133) dL_isRefused_132 rfl ?_
  refine VB_iconst (q := 134) dL_isRefused_133 rfl ?_
  refine VB_iconst (q := 135) dL_isRefused_134 rfl ?_
  refine VB_iload_n (q := 136) dL_isRefused_135 3 rfl rfl ?_
  refine VB_if_eq (q := 139) (tgt := 143) dL_isRefused_136 (by decide) (by decide) (fun hc => absurd hc (by decide)) (fun _ => ?_)
  refine VB_iconst (q := 140) dL_isRefused_139 rfl ?_
  refine VB_goto (tgt := 145) dL_isRefused_140 (by decide) ?_
  refine VB_iconst (q := 146) dL_isRefused_145 rfl ?_
  refine VB_callUW (q := 149) dL_isRefused_146 (u_add_no (a := a) (c := c) (S := S) (b := b) (d := d) (F := F) ho hg122 0 0 0 0 0 (by omega) (by omega) (by omega) (by omega) (by omega) (by unfold cAdd; rw [if_neg (by decide)])) yw_add rfl gL_isRefused_L_add xU_U rfl (Nat.le_of_ble_eq_true rfl) (by decide) ⟨by show _ ≤ 64; omega, by show _ ≤ 6 * 64; omega⟩ (fun x146 g146 hP146 hg146 => ?_)
  refine VB_lo (lo' := 4) (by show 4 ≤ 3 + 1; omega) ?_
  refine VB_top (y := iZ (-982)) hP146 ?_
  refine VB_sipush (q := 152) dL_isRefused_149 (by decide) rfl ?_
  refine VB_icmp_ne (q := 155) (tgt := 452) dL_isRefused_152 (by decide) (by decide) (by decide) (fun hc => absurd hc (by decide)) (fun _ => ?_)
  refine VB_aload_n (q := 156) dL_isRefused_155 0 rfl rfl ?_
  refine VB_iconst (q := 157) dL_isRefused_156 rfl ?_
  refine VB_iconst (q := 158) dL_isRefused_157 rfl ?_
  refine VB_iconst (q := 159) dL_isRefused_158 rfl ?_
  refine VB_iconst (q := 160) dL_isRefused_159 rfl ?_
  refine VB_iload_n (q := 161) dL_isRefused_160 3 rfl rfl ?_
  refine VB_if_eq (q := 164) (tgt := 168) dL_isRefused_161 (by decide) (by decide) (fun hc => absurd hc (by decide)) (fun _ => ?_)
  refine VB_iconst (q := 165) dL_isRefused_164 rfl ?_
  refine VB_goto (tgt := 169) dL_isRefused_165 (by decide) ?_
  refine VB_callUW (q := 172) dL_isRefused_169 (u_add_no (a := a) (c := c) (S := S) (b := b) (d := d) (F := F) ho hg146 0 0 0 1 (-1) (by omega) (by omega) (by omega) (by omega) (by omega) (by unfold cAdd; rw [if_neg (by decide)])) yw_add rfl gL_isRefused_L_add xU_U rfl (Nat.le_of_ble_eq_true rfl) (by decide) ⟨by show _ ≤ 64; omega, by show _ ≤ 6 * 64; omega⟩ (fun x169 g169 hP169 hg169 => ?_)
  refine VB_lo (lo' := 5) (by show 5 ≤ 4 + 1; omega) ?_
  refine VB_top (y := iZ (-982)) hP169 ?_
  refine VB_sipush (q := 175) dL_isRefused_172 (by decide) rfl ?_
  refine VB_icmp_ne (q := 178) (tgt := 452) dL_isRefused_175 (by decide) (by decide) (by decide) (fun hc => absurd hc (by decide)) (fun _ => ?_)
  refine VB_aload_n (q := 179) dL_isRefused_178 1 rfl rfl ?_
  refine VB_iconst (q := 180) dL_isRefused_179 rfl ?_
  refine VB_iald (q := 181) (v := (iZ 0)) dL_isRefused_180 13 12 rfl rfl (0) (by omega) (by omega) (by decide) (hM0) rfl ?_
  refine VB_bipush (q := 183) dL_isRefused_181 (by decide) rfl ?_
  refine VB_icmp_lt (q := 186) (tgt := 201) dL_isRefused_183 (by decide) (by decide) (by decide) (fun _ => ?_) (fun hc => absurd hc (by decide))
  refine VB_aload_n (q := 202) dL_isRefused_201 0 rfl rfl ?_
  refine VB_iconst (q := 203) dL_isRefused_202 rfl ?_
  refine VB_iload (q := 205) dL_isRefused_203 4 rfl rfl ?_
  refine VB_iconst (q := 206) dL_isRefused_205 rfl ?_
  refine VB_callUW (q := 209) dL_isRefused_206 (u_of0_no (a := a) (c := c) (S := S) (b := b) (d := d) (F := F) ho hg169 (-1) 0 (by omega) (by omega) (by unfold cHas; rw [iv_no hI (x := (-1)) (by omega)]; rfl)) yw_of rfl gL_isRefused_L_of xU_U rfl (Nat.le_of_ble_eq_true rfl) (by decide) ⟨by show _ ≤ 64; omega, by show _ ≤ 6 * 64; omega⟩ (fun x206 g206 hP206 hg206 => ?_)
  refine VB_lo (lo' := 6) (by show 6 ≤ 5 + 1; omega) ?_
  refine VB_top (y := iZ (-981)) hP206 ?_
  refine VB_sipush (q := 212) dL_isRefused_209 (by decide) rfl ?_
  refine VB_icmp_ne (q := 215) (tgt := 452) dL_isRefused_212 (by decide) (by decide) (by decide) (fun hc => absurd hc (by decide)) (fun _ => ?_)
  refine VB_aload_n (q := 216) dL_isRefused_215 0 rfl rfl ?_
  refine VB_iconst (q := 217) dL_isRefused_216 rfl ?_
  refine VB_iload (q := 219) dL_isRefused_217 4 rfl rfl ?_
  refine VB_iconst (q := 220) dL_isRefused_219 rfl ?_
  refine VB_callUW (q := 223) dL_isRefused_220 (u_of1_no (a := a) (c := c) (S := S) (b := b) (d := d) (F := F) ho hg206 (-1) 0 (by omega) (by omega) (by unfold cHas; rw [iv_no hI (x := (-1)) (by omega)]; rfl)) yw_of rfl gL_isRefused_L_of xU_U rfl (Nat.le_of_ble_eq_true rfl) (by decide) ⟨by show _ ≤ 64; omega, by show _ ≤ 6 * 64; omega⟩ (fun x220 g220 hP220 hg220 => ?_)
  refine VB_lo (lo' := 7) (by show 7 ≤ 6 + 1; omega) ?_
  refine VB_top (y := iZ (-981)) hP220 ?_
  refine VB_sipush (q := 226) dL_isRefused_223 (by decide) rfl ?_
  refine VB_icmp_ne (q := 229) (tgt := 452) dL_isRefused_226 (by decide) (by decide) (by decide) (fun hc => absurd hc (by decide)) (fun _ => ?_)
  refine VB_aload_n (q := 230) dL_isRefused_229 0 rfl rfl ?_
  refine VB_iconst (q := 231) dL_isRefused_230 rfl ?_
  refine VB_iload_n (q := 232) dL_isRefused_231 3 rfl rfl ?_
  refine VB_if_eq (q := 235) (tgt := 244) dL_isRefused_232 (by decide) (by decide) (fun hc => absurd hc (by decide)) (fun _ => ?_)
  refine VB_iconst (q := 236) dL_isRefused_235 rfl ?_
  refine VB_iload_n (q := 237) dL_isRefused_236 2 rfl rfl ?_
  refine VB_bipush (q := 239) dL_isRefused_237 (by decide) rfl ?_
  refine VB_irem (q := 240) (a := 0) (b := 30) dL_isRefused_239 (by omega) (by decide) (by decide) rfl ?_
  refine VB_top (y := iZ 0) rfl ?_
  refine VB_isub (q := 241) dL_isRefused_240 rfl ?_
  refine VB_top (y := iZ (-1)) rfl ?_
  refine VB_goto (tgt := 251) dL_isRefused_241 (by decide) ?_
  refine VB_iconst (q := 252) dL_isRefused_251 rfl ?_
  refine VB_callUW (q := 255) dL_isRefused_252 (u_of2_no (a := a) (c := c) (S := S) (b := b) (d := d) (F := F) ho hg220 (-1) 0 (by omega) (by omega) (by unfold cOut; rw [if_neg (by decide)])) yw_of rfl gL_isRefused_L_of xU_U rfl (Nat.le_of_ble_eq_true rfl) (by decide) ⟨by show _ ≤ 64; omega, by show _ ≤ 6 * 64; omega⟩ (fun x252 g252 hP252 hg252 => ?_)
  refine VB_lo (lo' := 8) (by show 8 ≤ 7 + 1; omega) ?_
  refine VB_top (y := iZ (-982)) hP252 ?_
  refine VB_sipush (q := 258) dL_isRefused_255 (by decide) rfl ?_
  refine VB_icmp_ne (q := 261) (tgt := 452) dL_isRefused_258 (by decide) (by decide) (by decide) (fun hc => absurd hc (by decide)) (fun _ => ?_)
  refine VB_aload_n (q := 262) dL_isRefused_261 0 rfl rfl ?_
  refine VB_iconst (q := 263) dL_isRefused_262 rfl ?_
  refine VB_iload (q := 265) dL_isRefused_263 4 rfl rfl ?_
  refine VB_iconst (q := 266) dL_isRefused_265 rfl ?_
  refine VB_callUW (q := 269) dL_isRefused_266 (u_of3_no (a := a) (c := c) (S := S) (b := b) (d := d) (F := F) ho hg252 (-1) (-1) (by omega) (by omega) (by unfold cAdds; rw [iv_no hI (x := (-1)) (by omega)]; rfl)) yw_of rfl gL_isRefused_L_of xU_U rfl (Nat.le_of_ble_eq_true rfl) (by decide) ⟨by show _ ≤ 64; omega, by show _ ≤ 6 * 64; omega⟩ (fun x266 g266 hP266 hg266 => ?_)
  refine VB_lo (lo' := 9) (by show 9 ≤ 8 + 1; omega) ?_
  refine VB_top (y := iZ (-981)) hP266 ?_
  refine VB_sipush (q := 272) dL_isRefused_269 (by decide) rfl ?_
  refine VB_icmp_ne (q := 275) (tgt := 452) dL_isRefused_272 (by decide) (by decide) (by decide) (fun hc => absurd hc (by decide)) (fun _ => ?_)
  refine VB_aload_n (q := 276) dL_isRefused_275 0 rfl rfl ?_
  refine VB_iconst (q := 277) dL_isRefused_276 rfl ?_
  refine VB_iload_n (q := 278) dL_isRefused_277 3 rfl rfl ?_
  refine VB_if_eq (q := 281) (tgt := 285) dL_isRefused_278 (by decide) (by decide) (fun hc => absurd hc (by decide)) (fun _ => ?_)
  refine VB_iconst (q := 282) dL_isRefused_281 rfl ?_
  refine VB_goto (tgt := 287) dL_isRefused_282 (by decide) ?_
  refine VB_iconst (q := 288) dL_isRefused_287 rfl ?_
  refine VB_callUW (q := 291) dL_isRefused_288 (u_of4_no (a := a) (c := c) (S := S) (b := b) (d := d) (F := F) ho hg266 (-1) 0 (by omega) (by omega) (by unfold cFor; rw [if_neg (by decide)])) yw_of rfl gL_isRefused_L_of xU_U rfl (Nat.le_of_ble_eq_true rfl) (by decide) ⟨by show _ ≤ 64; omega, by show _ ≤ 6 * 64; omega⟩ (fun x288 g288 hP288 hg288 => ?_)
  refine VB_lo (lo' := 10) (by show 10 ≤ 9 + 1; omega) ?_
  refine VB_top (y := iZ (-982)) hP288 ?_
  refine VB_sipush (q := 294) dL_isRefused_291 (by decide) rfl ?_
  refine VB_icmp_ne (q := 297) (tgt := 452) dL_isRefused_294 (by decide) (by decide) (by decide) (fun hc => absurd hc (by decide)) (fun _ => ?_)
  refine VB_aload_n (q := 298) dL_isRefused_297 0 rfl rfl ?_
  refine VB_iconst (q := 299) dL_isRefused_298 rfl ?_
  refine VB_iconst (q := 300) dL_isRefused_299 rfl ?_
  refine VB_iload_n (q := 301) dL_isRefused_300 3 rfl rfl ?_
  refine VB_if_eq (q := 304) (tgt := 313) dL_isRefused_301 (by decide) (by decide) (fun hc => absurd hc (by decide)) (fun _ => ?_)
  refine VB_iconst (q := 305) dL_isRefused_304 rfl ?_
  refine VB_iload_n (q := 306) dL_isRefused_305 2 rfl rfl ?_
  refine VB_bipush (q := 308) dL_isRefused_306 (by decide) rfl ?_
  refine VB_irem (q := 309) (a := 0) (b := 30) dL_isRefused_308 (by omega) (by decide) (by decide) rfl ?_
  refine VB_top (y := iZ 0) rfl ?_
  refine VB_isub (q := 310) dL_isRefused_309 rfl ?_
  refine VB_top (y := iZ (-1)) rfl ?_
  refine VB_goto (tgt := 321) dL_isRefused_310 (by decide) ?_
  refine VB_callUW (q := 324) dL_isRefused_321 (u_of4_no (a := a) (c := c) (S := S) (b := b) (d := d) (F := F) ho hg288 0 (-1) (by omega) (by omega) (by unfold cFor; rw [if_neg (by decide)])) yw_of rfl gL_isRefused_L_of xU_U rfl (Nat.le_of_ble_eq_true rfl) (by decide) ⟨by show _ ≤ 64; omega, by show _ ≤ 6 * 64; omega⟩ (fun x321 g321 hP321 hg321 => ?_)
  refine VB_lo (lo' := 11) (by show 11 ≤ 10 + 1; omega) ?_
  refine VB_top (y := iZ (-982)) hP321 ?_
  refine VB_sipush (q := 327) dL_isRefused_324 (by decide) rfl ?_
  refine VB_icmp_ne (q := 330) (tgt := 452) dL_isRefused_327 (by decide) (by decide) (by decide) (fun hc => absurd hc (by decide)) (fun _ => ?_)
  refine VB_aload_n (q := 331) dL_isRefused_330 0 rfl rfl ?_
  refine VB_iconst (q := 332) dL_isRefused_331 rfl ?_
  refine VB_iload_n (q := 333) dL_isRefused_332 3 rfl rfl ?_
  refine VB_if_eq (q := 336) (tgt := 340) dL_isRefused_333 (by decide) (by decide) (fun hc => absurd hc (by decide)) (fun _ => ?_)
  refine VB_iconst (q := 337) dL_isRefused_336 rfl ?_
  refine VB_goto (tgt := 341) dL_isRefused_337 (by decide) ?_
  refine VB_iconst (q := 342) dL_isRefused_341 rfl ?_
  refine VB_callUW (q := 345) dL_isRefused_342 (u_of5_no (a := a) (c := c) (S := S) (b := b) (d := d) (F := F) ho hg321 (-1) (by omega) (by unfold cCare; rw [if_neg (by decide)])) yw_of rfl gL_isRefused_L_of xU_U rfl (Nat.le_of_ble_eq_true rfl) (by decide) ⟨by show _ ≤ 64; omega, by show _ ≤ 6 * 64; omega⟩ (fun x342 g342 hP342 hg342 => ?_)
  refine VB_lo (lo' := 12) (by show 12 ≤ 11 + 1; omega) ?_
  refine VB_top (y := iZ (-982)) hP342 ?_
  refine VB_sipush (q := 348) dL_isRefused_345 (by decide) rfl ?_
  refine VB_icmp_ne (q := 351) (tgt := 452) dL_isRefused_348 (by decide) (by decide) (by decide) (fun hc => absurd hc (by decide)) (fun _ => ?_)
  refine VB_aload_n (q := 352) dL_isRefused_351 0 rfl rfl ?_
  refine VB_bipush (q := 354) dL_isRefused_352 (by decide) rfl ?_
  refine VB_iload_n (q := 355) dL_isRefused_354 3 rfl rfl ?_
  refine VB_if_eq (q := 358) (tgt := 362) dL_isRefused_355 (by decide) (by decide) (fun hc => absurd hc (by decide)) (fun _ => ?_)
  refine VB_iconst (q := 359) dL_isRefused_358 rfl ?_
  refine VB_goto (tgt := 363) dL_isRefused_359 (by decide) ?_
  refine VB_iconst (q := 364) dL_isRefused_363 rfl ?_
  refine VB_callUW (q := 367) dL_isRefused_364 (u_of6_no (a := a) (c := c) (S := S) (b := b) (d := d) (F := F) ho hg342 (-1) (by omega) (by unfold cCare; rw [if_neg (by decide)])) yw_of rfl gL_isRefused_L_of xU_U rfl (Nat.le_of_ble_eq_true rfl) (by decide) ⟨by show _ ≤ 64; omega, by show _ ≤ 6 * 64; omega⟩ (fun x364 g364 hP364 hg364 => ?_)
  refine VB_lo (lo' := 13) (by show 13 ≤ 12 + 1; omega) ?_
  refine VB_top (y := iZ (-982)) hP364 ?_
  refine VB_sipush (q := 370) dL_isRefused_367 (by decide) rfl ?_
  refine VB_icmp_ne (q := 373) (tgt := 452) dL_isRefused_370 (by decide) (by decide) (by decide) (fun hc => absurd hc (by decide)) (fun _ => ?_)
  refine VB_aload_n (q := 374) dL_isRefused_373 0 rfl rfl ?_
  refine VB_bipush (q := 376) dL_isRefused_374 (by decide) rfl ?_
  refine VB_iload_n (q := 377) dL_isRefused_376 3 rfl rfl ?_
  refine VB_if_eq (q := 380) (tgt := 389) dL_isRefused_377 (by decide) (by decide) (fun hc => absurd hc (by decide)) (fun _ => ?_)
  refine VB_iconst (q := 381) dL_isRefused_380 rfl ?_
  refine VB_iload_n (q := 382) dL_isRefused_381 2 rfl rfl ?_
  refine VB_bipush (q := 384) dL_isRefused_382 (by decide) rfl ?_
  refine VB_irem (q := 385) (a := 0) (b := 30) dL_isRefused_384 (by omega) (by decide) (by decide) rfl ?_
  refine VB_top (y := iZ 0) rfl ?_
  refine VB_isub (q := 386) dL_isRefused_385 rfl ?_
  refine VB_top (y := iZ 0) rfl ?_
  refine VB_goto (tgt := 392) dL_isRefused_386 (by decide) ?_
  refine VB_iconst (q := 393) dL_isRefused_392 rfl ?_
  refine VB_callUW (q := 396) dL_isRefused_393 (u_of7_no (a := a) (c := c) (S := S) (b := b) (d := d) (F := F) ho hg364 0 0 (by omega) (by omega) (by unfold cPass; rw [if_neg (by decide)])) yw_of rfl gL_isRefused_L_of xU_U rfl (Nat.le_of_ble_eq_true rfl) (by decide) ⟨by show _ ≤ 64; omega, by show _ ≤ 6 * 64; omega⟩ (fun x393 g393 hP393 hg393 => ?_)
  refine VB_lo (lo' := 14) (by show 14 ≤ 13 + 1; omega) ?_
  refine VB_top (y := iZ (-982)) hP393 ?_
  refine VB_sipush (q := 399) dL_isRefused_396 (by decide) rfl ?_
  refine VB_icmp_ne (q := 402) (tgt := 452) dL_isRefused_399 (by decide) (by decide) (by decide) (fun hc => absurd hc (by decide)) (fun _ => ?_)
  refine VB_aload_n (q := 403) dL_isRefused_402 0 rfl rfl ?_
  refine VB_bipush (q := 405) dL_isRefused_403 (by decide) rfl ?_
  refine VB_iload_n (q := 406) dL_isRefused_405 3 rfl rfl ?_
  refine VB_if_eq (q := 409) (tgt := 413) dL_isRefused_406 (by decide) (by decide) (fun hc => absurd hc (by decide)) (fun _ => ?_)
  refine VB_iconst (q := 410) dL_isRefused_409 rfl ?_
  refine VB_goto (tgt := 415) dL_isRefused_410 (by decide) ?_
  refine VB_iconst (q := 416) dL_isRefused_415 rfl ?_
  refine VB_callUW (q := 419) dL_isRefused_416 (u_of8_no (a := a) (c := c) (S := S) (b := b) (d := d) (F := F) ho hg393 0 0 (by omega) (by omega) (by unfold cBag; rw [if_neg (by decide)])) yw_of rfl gL_isRefused_L_of xU_U rfl (Nat.le_of_ble_eq_true rfl) (by decide) ⟨by show _ ≤ 64; omega, by show _ ≤ 6 * 64; omega⟩ (fun x416 g416 hP416 hg416 => ?_)
  refine VB_lo (lo' := 15) (by show 15 ≤ 14 + 1; omega) ?_
  refine VB_top (y := iZ (-982)) hP416 ?_
  refine VB_sipush (q := 422) dL_isRefused_419 (by decide) rfl ?_
  refine VB_icmp_ne (q := 425) (tgt := 452) dL_isRefused_422 (by decide) (by decide) (by decide) (fun hc => absurd hc (by decide)) (fun _ => ?_)
  refine VB_aload_n (q := 426) dL_isRefused_425 0 rfl rfl ?_
  refine VB_bipush (q := 428) dL_isRefused_426 (by decide) rfl ?_
  refine VB_iconst (q := 429) dL_isRefused_428 rfl ?_
  refine VB_iload_n (q := 430) dL_isRefused_429 3 rfl rfl ?_
  refine VB_if_eq (q := 433) (tgt := 437) dL_isRefused_430 (by decide) (by decide) (fun hc => absurd hc (by decide)) (fun _ => ?_)
  refine VB_iconst (q := 434) dL_isRefused_433 rfl ?_
  refine VB_goto (tgt := 439) dL_isRefused_434 (by decide) ?_
  refine VB_callUW (q := 442) dL_isRefused_439 (u_of8_no (a := a) (c := c) (S := S) (b := b) (d := d) (F := F) ho hg416 1 (-1) (by omega) (by omega) (by unfold cBag; rw [if_neg (by decide)])) yw_of rfl gL_isRefused_L_of xU_U rfl (Nat.le_of_ble_eq_true rfl) (by decide) ⟨by show _ ≤ 64; omega, by show _ ≤ 6 * 64; omega⟩ (fun x439 g439 hP439 hg439 => ?_)
  refine VB_lo (lo' := 16) (by show 16 ≤ 15 + 1; omega) ?_
  refine VB_top (y := iZ (-982)) hP439 ?_
  refine VB_sipush (q := 445) dL_isRefused_442 (by decide) rfl ?_
  refine VB_icmp_ne (q := 448) (tgt := 452) dL_isRefused_445 (by decide) (by decide) (by decide) (fun hc => absurd hc (by decide)) (fun _ => ?_)
  refine VB_iconst (q := 449) dL_isRefused_448 rfl ?_
  refine VB_goto (tgt := 453) dL_isRefused_449 (by decide) ?_
  refine VB_istore (q := 455) (lv' := [(0, _), (1, _), (2, _), (3, _), (4, _), (5, _), (6, _), (8, _)]) dL_isRefused_453 (by decide) rfl rfl ?_
  refine VB_iload (q := 457) dL_isRefused_455 7 rfl rfl ?_
  refine VB_if_eq (q := 460) (tgt := 665) dL_isRefused_457 (by decide) (by decide) (fun hc => absurd hc (by decide)) (fun _ => ?_)
  refine VB_aload_n (q := 461) dL_isRefused_460 0 rfl rfl ?_
  refine VB_iconst (q := 462) dL_isRefused_461 rfl ?_
  refine VB_iload_n (q := 463) dL_isRefused_462 3 rfl rfl ?_
  refine VB_if_eq (q := 466) (tgt := 470) dL_isRefused_463 (by decide) (by decide) (fun hc => absurd hc (by decide)) (fun _ => ?_)
  refine VB_iconst (q := 467) dL_isRefused_466 rfl ?_
  refine VB_goto (tgt := 472) dL_isRefused_467 (by decide) ?_
  refine VB_iconst (q := 473) dL_isRefused_472 rfl ?_
  refine VB_iconst (q := 474) dL_isRefused_473 rfl ?_
  refine VB_callUW (q := 477) dL_isRefused_474 (u_yes0_no (a := a) (c := c) (S := S) (b := b) (d := d) (F := F) ho hg439 (-1) 0 (by omega) (by omega) (by unfold cClash; rw [if_neg (by decide)])) yw_yes rfl gL_isRefused_L_yes xU_U rfl (Nat.le_of_ble_eq_true rfl) (by decide) ⟨by show _ ≤ 64; omega, by show _ ≤ 6 * 64; omega⟩ (fun x474 g474 hP474 hg474 => ?_)
  refine VB_lo (lo' := 17) (by show 17 ≤ 16 + 1; omega) ?_
  refine VB_top (y := iZ (-982)) hP474 ?_
  refine VB_sipush (q := 480) dL_isRefused_477 (by decide) rfl ?_
  refine VB_icmp_ne (q := 483) (tgt := 665) dL_isRefused_480 (by decide) (by decide) (by decide) (fun hc => absurd hc (by decide)) (fun _ => ?_)
  refine VB_aload_n (q := 484) dL_isRefused_483 0 rfl rfl ?_
  refine VB_iconst (q := 485) dL_isRefused_484 rfl ?_
  refine VB_iconst (q := 486) dL_isRefused_485 rfl ?_
  refine VB_iload_n (q := 487) dL_isRefused_486 3 rfl rfl ?_
  refine VB_if_eq (q := 490) (tgt := 494) dL_isRefused_487 (by decide) (by decide) (fun hc => absurd hc (by decide)) (fun _ => ?_)
  refine VB_iconst (q := 491) dL_isRefused_490 rfl ?_
  refine VB_goto (tgt := 496) dL_isRefused_491 (by decide) ?_
  refine VB_iconst (q := 497) dL_isRefused_496 rfl ?_
  refine VB_callUW (q := 500) dL_isRefused_497 (u_yes0_no (a := a) (c := c) (S := S) (b := b) (d := d) (F := F) ho hg474 0 (-1) (by omega) (by omega) (by unfold cClash; rw [if_neg (by decide)])) yw_yes rfl gL_isRefused_L_yes xU_U rfl (Nat.le_of_ble_eq_true rfl) (by decide) ⟨by show _ ≤ 64; omega, by show _ ≤ 6 * 64; omega⟩ (fun x497 g497 hP497 hg497 => ?_)
  refine VB_lo (lo' := 18) (by show 18 ≤ 17 + 1; omega) ?_
  refine VB_top (y := iZ (-982)) hP497 ?_
  refine VB_sipush (q := 503) dL_isRefused_500 (by decide) rfl ?_
  refine VB_icmp_ne (q := 506) (tgt := 665) dL_isRefused_503 (by decide) (by decide) (by decide) (fun hc => absurd hc (by decide)) (fun _ => ?_)
  refine VB_aload_n (q := 507) dL_isRefused_506 0 rfl rfl ?_
  refine VB_iconst (q := 508) dL_isRefused_507 rfl ?_
  refine VB_iconst (q := 509) dL_isRefused_508 rfl ?_
  refine VB_iload_n (q := 510) dL_isRefused_509 3 rfl rfl ?_
  refine VB_if_eq (q := 513) (tgt := 517) dL_isRefused_510 (by decide) (by decide) (fun hc => absurd hc (by decide)) (fun _ => ?_)
  refine VB_iconst (q := 514) dL_isRefused_513 rfl ?_
  refine VB_goto (tgt := 519) dL_isRefused_514 (by decide) ?_
  refine VB_iconst (q := 520) dL_isRefused_519 rfl ?_
  refine VB_callUW (q := 523) dL_isRefused_520 (u_yes1_no (a := a) (c := c) (S := S) (b := b) (d := d) (F := F) ho hg497 (iZ 0) 0 0 (by omega) (by omega) (cEn_b (by decide))) yw_yes rfl gL_isRefused_L_yes xU_U rfl (Nat.le_of_ble_eq_true rfl) (by decide) ⟨by show _ ≤ 64; omega, by show _ ≤ 6 * 64; omega⟩ (fun x520 g520 hP520 hg520 => ?_)
  refine VB_lo (lo' := 19) (by show 19 ≤ 18 + 1; omega) ?_
  refine VB_top (y := iZ (-982)) hP520 ?_
  refine VB_sipush (q := 526) dL_isRefused_523 (by decide) rfl ?_
  refine VB_icmp_ne (q := 529) (tgt := 665) dL_isRefused_526 (by decide) (by decide) (by decide) (fun hc => absurd hc (by decide)) (fun _ => ?_)
  refine VB_aload_n (q := 530) dL_isRefused_529 0 rfl rfl ?_
  refine VB_iconst (q := 531) dL_isRefused_530 rfl ?_
  refine VB_iconst (q := 532) dL_isRefused_531 rfl ?_
  refine VB_iconst (q := 533) dL_isRefused_532 rfl ?_
  refine VB_iload_n (q := 534) dL_isRefused_533 3 rfl rfl ?_
  refine VB_if_eq (q := 537) (tgt := 541) dL_isRefused_534 (by decide) (by decide) (fun hc => absurd hc (by decide)) (fun _ => ?_)
  refine VB_iconst (q := 538) dL_isRefused_537 rfl ?_
  refine VB_goto (tgt := 543) dL_isRefused_538 (by decide) ?_
  refine VB_callUW (q := 546) dL_isRefused_543 (u_yes1_no (a := a) (c := c) (S := S) (b := b) (d := d) (F := F) ho hg520 (iZ 0) 1 (-1) (by omega) (by omega) (cEn_b (by decide))) yw_yes rfl gL_isRefused_L_yes xU_U rfl (Nat.le_of_ble_eq_true rfl) (by decide) ⟨by show _ ≤ 64; omega, by show _ ≤ 6 * 64; omega⟩ (fun x543 g543 hP543 hg543 => ?_)
  refine VB_lo (lo' := 20) (by show 20 ≤ 19 + 1; omega) ?_
  refine VB_top (y := iZ (-982)) hP543 ?_
  refine VB_sipush (q := 549) dL_isRefused_546 (by decide) rfl ?_
  refine VB_icmp_ne (q := 552) (tgt := 665) dL_isRefused_549 (by decide) (by decide) (by decide) (fun hc => absurd hc (by decide)) (fun _ => ?_)
  refine VB_aload_n (q := 553) dL_isRefused_552 0 rfl rfl ?_
  refine VB_iconst (q := 554) dL_isRefused_553 rfl ?_
  refine VB_iconst (q := 555) dL_isRefused_554 rfl ?_
  refine VB_bipush (q := 557) dL_isRefused_555 (by decide) rfl ?_
  refine VB_iload_n (q := 558) dL_isRefused_557 2 rfl rfl ?_
  refine VB_bipush (q := 560) dL_isRefused_558 (by decide) rfl ?_
  refine VB_irem (q := 561) (a := 0) (b := 19) dL_isRefused_560 (by omega) (by decide) (by decide) rfl ?_
  refine VB_top (y := iZ 0) rfl ?_
  refine VB_iadd (q := 562) dL_isRefused_561 rfl ?_
  refine VB_top (y := iZ 12) rfl ?_
  refine VB_ishl (q := 563) dL_isRefused_562 rfl ?_
  refine VB_top (y := iZ 4096) (by decide +kernel) ?_
  refine VB_iconst (q := 564) dL_isRefused_563 rfl ?_
  refine VB_iconst (q := 565) dL_isRefused_564 rfl ?_
  refine VB_callUW (q := 568) dL_isRefused_565 (u_yes1_no (a := a) (c := c) (S := S) (b := b) (d := d) (F := F) ho hg543 (iZ 4096) 1 1 (by omega) (by omega) (cEn_x (by decide +kernel))) yw_yes rfl gL_isRefused_L_yes xU_U rfl (Nat.le_of_ble_eq_true rfl) (by decide) ⟨by show _ ≤ 64; omega, by show _ ≤ 6 * 64; omega⟩ (fun x565 g565 hP565 hg565 => ?_)
  refine VB_lo (lo' := 21) (by show 21 ≤ 20 + 1; omega) ?_
  refine VB_top (y := iZ (-982)) hP565 ?_
  refine VB_sipush (q := 571) dL_isRefused_568 (by decide) rfl ?_
  refine VB_icmp_ne (q := 574) (tgt := 665) dL_isRefused_571 (by decide) (by decide) (by decide) (fun hc => absurd hc (by decide)) (fun _ => ?_)
  refine VB_aload_n (q := 575) dL_isRefused_574 0 rfl rfl ?_
  refine VB_iconst (q := 576) dL_isRefused_575 rfl ?_
  refine VB_iconst (q := 577) dL_isRefused_576 rfl ?_
  refine VB_iload_n (q := 578) dL_isRefused_577 2 rfl rfl ?_
  refine VB_bipush (q := 580) dL_isRefused_578 (by decide) rfl ?_
  refine VB_irem (q := 581) (a := 0) (b := 30) dL_isRefused_580 (by omega) (by decide) (by decide) rfl ?_
  refine VB_top (y := iZ 0) rfl ?_
  refine VB_isub (q := 582) dL_isRefused_581 rfl ?_
  refine VB_top (y := iZ (-1)) rfl ?_
  refine VB_iconst (q := 583) dL_isRefused_582 rfl ?_
  refine VB_iconst (q := 584) dL_isRefused_583 rfl ?_
  refine VB_callUW (q := 587) dL_isRefused_584 (u_yes1_no (a := a) (c := c) (S := S) (b := b) (d := d) (F := F) ho hg565 (iZ (-1)) 1 1 (by omega) (by omega) (cEn_x (by decide +kernel))) yw_yes rfl gL_isRefused_L_yes xU_U rfl (Nat.le_of_ble_eq_true rfl) (by decide) ⟨by show _ ≤ 64; omega, by show _ ≤ 6 * 64; omega⟩ (fun x584 g584 hP584 hg584 => ?_)
  refine VB_lo (lo' := 22) (by show 22 ≤ 21 + 1; omega) ?_
  refine VB_top (y := iZ (-982)) hP584 ?_
  refine VB_sipush (q := 590) dL_isRefused_587 (by decide) rfl ?_
  refine VB_icmp_ne (q := 593) (tgt := 665) dL_isRefused_590 (by decide) (by decide) (by decide) (fun hc => absurd hc (by decide)) (fun _ => ?_)
  refine VB_aload_n (q := 594) dL_isRefused_593 0 rfl rfl ?_
  refine VB_iconst (q := 595) dL_isRefused_594 rfl ?_
  refine VB_iload (q := 597) dL_isRefused_595 4 rfl rfl ?_
  refine VB_iconst (q := 598) dL_isRefused_597 rfl ?_
  refine VB_iconst (q := 599) dL_isRefused_598 rfl ?_
  refine VB_iconst (q := 600) dL_isRefused_599 rfl ?_
  refine VB_callUW (q := 603) dL_isRefused_600 (u_out0_nob (a := a) (c := c) (S := S) (b := b) (d := d) (F := F) ho hg584 (-1) 0 (-1) 0 (by omega) (by omega) (by omega) (by omega) (wrZ_no hI (by omega))) yw_outfit rfl gL_isRefused_L_outfit xU_U rfl (Nat.le_of_ble_eq_true rfl) (by decide) ⟨by show _ ≤ 64; omega, by show _ ≤ 6 * 64; omega⟩ (fun x600 g600 hP600 hg600 => ?_)
  refine VB_lo (lo' := 23) (by show 23 ≤ 22 + 1; omega) ?_
  refine VB_top (y := iZ (-981)) hP600 ?_
  refine VB_sipush (q := 606) dL_isRefused_603 (by decide) rfl ?_
  refine VB_icmp_ne (q := 609) (tgt := 665) dL_isRefused_606 (by decide) (by decide) (by decide) (fun hc => absurd hc (by decide)) (fun _ => ?_)
  refine VB_aload_n (q := 610) dL_isRefused_609 0 rfl rfl ?_
  refine VB_iconst (q := 611) dL_isRefused_610 rfl ?_
  refine VB_iload (q := 613) dL_isRefused_611 4 rfl rfl ?_
  refine VB_iload (q := 615) dL_isRefused_613 4 rfl rfl ?_
  refine VB_iload (q := 617) dL_isRefused_615 5 rfl rfl ?_
  refine VB_iconst (q := 618) dL_isRefused_617 rfl ?_
  refine VB_callUW (q := 621) dL_isRefused_618 (u_out0_nob (a := a) (c := c) (S := S) (b := b) (d := d) (F := F) ho hg600 (-1) (-1) (-2) 0 (by omega) (by omega) (by omega) (by omega) (wrZ_no hI (by omega))) yw_outfit rfl gL_isRefused_L_outfit xU_U rfl (Nat.le_of_ble_eq_true rfl) (by decide) ⟨by show _ ≤ 64; omega, by show _ ≤ 6 * 64; omega⟩ (fun x618 g618 hP618 hg618 => ?_)
  refine VB_lo (lo' := 24) (by show 24 ≤ 23 + 1; omega) ?_
  refine VB_top (y := iZ (-981)) hP618 ?_
  refine VB_sipush (q := 624) dL_isRefused_621 (by decide) rfl ?_
  refine VB_icmp_ne (q := 627) (tgt := 665) dL_isRefused_624 (by decide) (by decide) (by decide) (fun hc => absurd hc (by decide)) (fun _ => ?_)
  refine VB_aload_n (q := 628) dL_isRefused_627 0 rfl rfl ?_
  refine VB_iconst (q := 629) dL_isRefused_628 rfl ?_
  refine VB_iload (q := 631) dL_isRefused_629 4 rfl rfl ?_
  refine VB_iconst (q := 632) dL_isRefused_631 rfl ?_
  refine VB_iconst (q := 633) dL_isRefused_632 rfl ?_
  refine VB_iconst (q := 634) dL_isRefused_633 rfl ?_
  refine VB_callUW (q := 637) dL_isRefused_634 (u_out1_nob (a := a) (c := c) (S := S) (b := b) (d := d) (F := F) ho hg618 (-1) 0 0 (-1) (by omega) (by omega) (by omega) (by omega) (cSoon_w (wrZ_no hI (by omega)))) yw_outfit rfl gL_isRefused_L_outfit xU_U rfl (Nat.le_of_ble_eq_true rfl) (by decide) ⟨by show _ ≤ 64; omega, by show _ ≤ 6 * 64; omega⟩ (fun x634 g634 hP634 hg634 => ?_)
  refine VB_lo (lo' := 25) (by show 25 ≤ 24 + 1; omega) ?_
  refine VB_top (y := iZ (-981)) hP634 ?_
  refine VB_sipush (q := 640) dL_isRefused_637 (by decide) rfl ?_
  refine VB_icmp_ne (q := 643) (tgt := 665) dL_isRefused_640 (by decide) (by decide) (by decide) (fun hc => absurd hc (by decide)) (fun _ => ?_)
  refine VB_aload_n (q := 644) dL_isRefused_643 0 rfl rfl ?_
  refine VB_iconst (q := 645) dL_isRefused_644 rfl ?_
  refine VB_iload (q := 647) dL_isRefused_645 4 rfl rfl ?_
  refine VB_iload (q := 649) dL_isRefused_647 4 rfl rfl ?_
  refine VB_iload (q := 651) dL_isRefused_649 5 rfl rfl ?_
  refine VB_iconst (q := 652) dL_isRefused_651 rfl ?_
  refine VB_callUW (q := 655) dL_isRefused_652 (u_out2_nob (a := a) (c := c) (S := S) (b := b) (d := d) (F := F) ho hg634 (-1) (-1) (-2) (-1) (by omega) (by omega) (by omega) (by omega) (cWear_w (wrZ_no hI (by omega)))) yw_outfit rfl gL_isRefused_L_outfit xU_U rfl (Nat.le_of_ble_eq_true rfl) (by decide) ⟨by show _ ≤ 64; omega, by show _ ≤ 6 * 64; omega⟩ (fun x652 g652 hP652 hg652 => ?_)
  refine VB_lo (lo' := 26) (by show 26 ≤ 25 + 1; omega) ?_
  refine VB_top (y := iZ (-981)) hP652 ?_
  refine VB_sipush (q := 658) dL_isRefused_655 (by decide) rfl ?_
  refine VB_icmp_ne (q := 661) (tgt := 665) dL_isRefused_658 (by decide) (by decide) (by decide) (fun hc => absurd hc (by decide)) (fun _ => ?_)
  refine VB_iconst (q := 662) dL_isRefused_661 rfl ?_
  refine VB_goto (tgt := 666) dL_isRefused_662 (by decide) ?_
  refine VB_istore (q := 668) (lv' := [(0, _), (1, _), (2, _), (3, _), (4, _), (5, _), (6, _), (8, _)]) dL_isRefused_666 (by decide) rfl rfl ?_
  refine VB_iload (q := 670) dL_isRefused_668 7 rfl rfl ?_
  refine VB_if_eq (q := 673) (tgt := 688) dL_isRefused_670 (by decide) (by decide) (fun hc => absurd hc (by decide)) (fun _ => ?_)
  refine VB_aload_n (q := 674) dL_isRefused_673 0 rfl rfl ?_
  refine VB_aload_n (q := 675) dL_isRefused_674 1 rfl rfl ?_
  refine VB_callUL (q := 678) dL_isRefused_675 (u_all (a := a) (c := c) (S := S) (b := b) (d := d) (F := F) hI hg652) yv_L_all rfl gL_isRefused_L_all xU_U rfl (Nat.le_of_ble_eq_true rfl) (by decide) ⟨by show _ ≤ 64; omega, by show _ ≤ 6 * 64; omega⟩ (fun x675 g675 hg675 => ?_)
  refine VB_lload (q := 680) dL_isRefused_678 6 rfl rfl ?_
  refine VB_lcmp (q := 681) dL_isRefused_680 rfl ?_
  refine VB_uany (fun u680 => ?_)
  refine VB_uif_ne (q := 684) (tgt := 688) dL_isRefused_681 (by decide) ?_ ?_
  · skip
    refine VB_iconst (q := 689) dL_isRefused_688 rfl ?_
    exact VB_widen (k' := 64) (n' := 6 * 64) (by omega) (by omega) (VB_zretU dL_isRefused_689 rfl rfl trivial (by decide) hg675 rfl)
  · skip
    refine VB_iconst (q := 685) dL_isRefused_684 rfl ?_
    refine VB_goto (tgt := 689) dL_isRefused_685 (by decide) ?_
    exact VB_widen (k' := 64) (n' := 6 * 64) (by omega) (by omega) (VB_zretU dL_isRefused_689 rfl rfl trivial (by decide) hg675 rfl)
set_option maxRecDepth 100000 in
set_option maxHeartbeats 8000000 in
theorem u_isRefused1 {a : Nat → Nat} {c : Nat → ClassId} {S : St} {b : Nat → Nat} {d : Nat → ClassId} {F : Nat → Nat → Int32} {g : Nat → Nat} (hI : Iv S F 0) (hg : ∀ j, g j < 4096) : CtU yL_isRefused wsL_isRefused (rmU 11 64) (tyl c d) [.ref (a 0), .ref (b 4), .int (iZ 1)] (wal a c S b d F g) (wal a c S b d F) (fun _ => True) (fun x => if x = 0 then 0 else 26) 64 := by
  obtain ⟨ho, hn, hm4, hM0, hG, hC⟩ := id hI
  refine CtU_of (own := RL) (by decide) rfl rfl (Nat.le_of_ble_eq_true rfl) ?_
  refine VB_lvq (lv' := [(0, _), (1, _), (2, _)]) rfl ?_
  refine VB_iload_n (q := 1) dL_isRefused_0 2 rfl rfl ?_
  refine VB_iconst (q := 2) dL_isRefused_1 rfl ?_
  refine VB_irem (q := 3) (a := 1) (b := 2) dL_isRefused_2 (by omega) (by decide) (by decide) rfl ?_
  refine VB_top (y := iZ 1) rfl ?_
  refine VB_if_ne (q := 6) (tgt := 10) dL_isRefused_3 (by decide) (by decide) (fun _ => ?_) (fun hc => absurd hc (by decide))
  refine VB_iconst (q := 11) dL_isRefused_10 rfl ?_
  refine VB_istore_n (q := 12) (lv' := [(0, _), (1, _), (2, _), (3, _)]) dL_isRefused_11 (by decide) rfl rfl ?_
  refine VB_iload_n (q := 13) dL_isRefused_12 3 rfl rfl ?_
  refine VB_if_eq (q := 16) (tgt := 25) dL_isRefused_13 (by decide) (by decide) (fun _ => ?_) (fun hc => absurd hc (by decide))
  refine VB_aload_n (q := 26) dL_isRefused_25 1 rfl rfl ?_
  refine VB_iconst (q := 27) dL_isRefused_26 rfl ?_
  refine VB_iald (q := 28) (v := (iZ 0)) dL_isRefused_27 13 12 rfl rfl (0) (by omega) (by omega) (by decide) (hM0) rfl ?_
  refine VB_iload_n (q := 29) dL_isRefused_28 2 rfl rfl ?_
  refine VB_bipush (q := 31) dL_isRefused_29 (by decide) rfl ?_
  refine VB_irem (q := 32) (a := 1) (b := 30) dL_isRefused_31 (by omega) (by decide) (by decide) rfl ?_
  refine VB_top (y := iZ 1) rfl ?_
  refine VB_iadd (q := 33) dL_isRefused_32 rfl ?_
  refine VB_top (y := iZ 1) rfl ?_
  refine VB_istore (q := 35) (lv' := [(0, _), (1, _), (2, _), (3, _), (4, _)]) dL_isRefused_33 (by decide) rfl rfl ?_
  refine VB_iload_n (q := 36) dL_isRefused_35 3 rfl rfl ?_
  refine VB_if_eq (q := 39) (tgt := 49) dL_isRefused_36 (by decide) (by decide) (fun _ => ?_) (fun hc => absurd hc (by decide))
  refine VB_iload (q := 51) dL_isRefused_49 4 rfl rfl ?_
  refine VB_istore (q := 53) (lv' := [(0, _), (1, _), (2, _), (3, _), (4, _), (5, _)]) dL_isRefused_51 (by decide) rfl rfl ?_
  refine VB_aload_n (q := 54) dL_isRefused_53 0 rfl rfl ?_
  refine VB_aload_n (q := 55) dL_isRefused_54 1 rfl rfl ?_
  refine VB_callUL (q := 58) dL_isRefused_55 (u_all (a := a) (c := c) (S := S) (b := b) (d := d) (F := F) hI hg) yv_L_all rfl gL_isRefused_L_all xU_U rfl (Nat.le_of_ble_eq_true rfl) (by decide) ⟨by show _ ≤ 64; omega, by show _ ≤ 6 * 64; omega⟩ (fun x55 g55 hg55 => ?_)
  refine VB_lstore (q := 60) (lv' := [(0, _), (1, _), (2, _), (3, _), (4, _), (5, _), (6, _)]) dL_isRefused_58 (by decide) rfl rfl ?_
  refine VB_aload_n (q := 61) dL_isRefused_60 0 rfl rfl ?_
  refine VB_iload_n (q := 62) dL_isRefused_61 3 rfl rfl ?_
  refine VB_if_eq (q := 65) (tgt := 69) dL_isRefused_62 (by decide) (by decide) (fun _ => ?_) (fun hc => absurd hc (by decide))
  refine VB_iconst (q := 70) dL_isRefused_69 rfl ?_
  refine VB_iconst (q := 71) dL_isRefused_70 rfl ?_
  refine VB_iconst (q := 72) dL_isRefused_71 rfl ?_
  refine VB_iconst (q := 73) dL_isRefused_72 rfl ?_
  refine VB_iconst (q := 74) dL_isRefused_73 rfl ?_
  refine VB_callUW (q := 77) dL_isRefused_74 (u_add_no (a := a) (c := c) (S := S) (b := b) (d := d) (F := F) ho hg55 3 0 0 1 0 (by omega) (by omega) (by omega) (by omega) (by omega) (by unfold cAdd; rw [if_neg (by decide)])) yw_add rfl gL_isRefused_L_add xU_U rfl (Nat.le_of_ble_eq_true rfl) (by decide) ⟨by show _ ≤ 64; omega, by show _ ≤ 6 * 64; omega⟩ (fun x74 g74 hP74 hg74 => ?_)
  refine VB_lo (lo' := 1) (by show 1 ≤ 0 + 1; omega) ?_
  refine VB_top (y := iZ (-982)) hP74 ?_
  refine VB_sipush (q := 80) dL_isRefused_77 (by decide) rfl ?_
  refine VB_icmp_ne (q := 83) (tgt := 452) dL_isRefused_80 (by decide) (by decide) (by decide) (fun hc => absurd hc (by decide)) (fun _ => ?_)
  refine VB_aload_n (q := 84) dL_isRefused_83 0 rfl rfl ?_
  refine VB_iconst (q := 85) dL_isRefused_84 rfl ?_
  refine VB_iload_n (q := 86) dL_isRefused_85 3 rfl rfl ?_
  refine VB_if_eq (q := 89) (tgt := 93) dL_isRefused_86 (by decide) (by decide) (fun _ => ?_) (fun hc => absurd hc (by decide))
  refine VB_bipush (q := 95) dL_isRefused_93 (by decide) rfl ?_
  refine VB_iconst (q := 96) dL_isRefused_95 rfl ?_
  refine VB_iconst (q := 97) dL_isRefused_96 rfl ?_
  refine VB_iconst (q := 98) dL_isRefused_97 rfl ?_
  refine VB_callUW (q := 101) dL_isRefused_98 (u_add_no (a := a) (c := c) (S := S) (b := b) (d := d) (F := F) ho hg74 0 8 0 1 0 (by omega) (by omega) (by omega) (by omega) (by omega) (by unfold cAdd; rw [if_neg (by decide)])) yw_add rfl gL_isRefused_L_add xU_U rfl (Nat.le_of_ble_eq_true rfl) (by decide) ⟨by show _ ≤ 64; omega, by show _ ≤ 6 * 64; omega⟩ (fun x98 g98 hP98 hg98 => ?_)
  refine VB_lo (lo' := 2) (by show 2 ≤ 1 + 1; omega) ?_
  refine VB_top (y := iZ (-982)) hP98 ?_
  refine VB_sipush (q := 104) dL_isRefused_101 (by decide) rfl ?_
  refine VB_icmp_ne (q := 107) (tgt := 452) dL_isRefused_104 (by decide) (by decide) (by decide) (fun hc => absurd hc (by decide)) (fun _ => ?_)
  refine VB_aload_n (q := 108) dL_isRefused_107 0 rfl rfl ?_
  refine VB_iconst (q := 109) dL_isRefused_108 rfl ?_
  refine VB_iconst (q := 110) dL_isRefused_109 rfl ?_
  refine VB_iload_n (q := 111) dL_isRefused_110 3 rfl rfl ?_
  refine VB_if_eq (q := 114) (tgt := 118) dL_isRefused_111 (by decide) (by decide) (fun _ => ?_) (fun hc => absurd hc (by decide))
  refine VB_bipush (q := 120) dL_isRefused_118 (by decide) rfl ?_
  refine VB_iconst (q := 121) dL_isRefused_120 rfl ?_
  refine VB_iconst (q := 122) dL_isRefused_121 rfl ?_
  refine VB_callUW (q := 125) dL_isRefused_122 (u_add_no (a := a) (c := c) (S := S) (b := b) (d := d) (F := F) ho hg98 0 0 11 1 0 (by omega) (by omega) (by omega) (by omega) (by omega) (by unfold cAdd; rw [if_neg (by decide)])) yw_add rfl gL_isRefused_L_add xU_U rfl (Nat.le_of_ble_eq_true rfl) (by decide) ⟨by show _ ≤ 64; omega, by show _ ≤ 6 * 64; omega⟩ (fun x122 g122 hP122 hg122 => ?_)
  refine VB_lo (lo' := 3) (by show 3 ≤ 2 + 1; omega) ?_
  refine VB_top (y := iZ (-982)) hP122 ?_
  refine VB_sipush (q := 128) dL_isRefused_125 (by decide) rfl ?_
  refine VB_icmp_ne (q := 131) (tgt := 452) dL_isRefused_128 (by decide) (by decide) (by decide) (fun hc => absurd hc (by decide)) (fun _ => ?_)
  refine VB_aload_n (q := 132) dL_isRefused_131 0 rfl rfl ?_
  refine VB_iconst (q := 133) dL_isRefused_132 rfl ?_
  refine VB_iconst (q := 134) dL_isRefused_133 rfl ?_
  refine VB_iconst (q := 135) dL_isRefused_134 rfl ?_
  refine VB_iload_n (q := 136) dL_isRefused_135 3 rfl rfl ?_
  refine VB_if_eq (q := 139) (tgt := 143) dL_isRefused_136 (by decide) (by decide) (fun _ => ?_) (fun hc => absurd hc (by decide))
  refine VB_bipush (q := 145) dL_isRefused_143 (by decide) rfl ?_
  refine VB_iconst (q := 146) dL_isRefused_145 rfl ?_
  refine VB_callUW (q := 149) dL_isRefused_146 (u_add_no (a := a) (c := c) (S := S) (b := b) (d := d) (F := F) ho hg122 0 0 0 10 0 (by omega) (by omega) (by omega) (by omega) (by omega) (by unfold cAdd; rw [if_neg (by decide)])) yw_add rfl gL_isRefused_L_add xU_U rfl (Nat.le_of_ble_eq_true rfl) (by decide) ⟨by show _ ≤ 64; omega, by show _ ≤ 6 * 64; omega⟩ (fun x146 g146 hP146 hg146 => ?_)
  refine VB_lo (lo' := 4) (by show 4 ≤ 3 + 1; omega) ?_
  refine VB_top (y := iZ (-982)) hP146 ?_
  refine VB_sipush (q := 152) dL_isRefused_149 (by decide) rfl ?_
  refine VB_icmp_ne (q := 155) (tgt := 452) dL_isRefused_152 (by decide) (by decide) (by decide) (fun hc => absurd hc (by decide)) (fun _ => ?_)
  refine VB_aload_n (q := 156) dL_isRefused_155 0 rfl rfl ?_
  refine VB_iconst (q := 157) dL_isRefused_156 rfl ?_
  refine VB_iconst (q := 158) dL_isRefused_157 rfl ?_
  refine VB_iconst (q := 159) dL_isRefused_158 rfl ?_
  refine VB_iconst (q := 160) dL_isRefused_159 rfl ?_
  refine VB_iload_n (q := 161) dL_isRefused_160 3 rfl rfl ?_
  refine VB_if_eq (q := 164) (tgt := 168) dL_isRefused_161 (by decide) (by decide) (fun _ => ?_) (fun hc => absurd hc (by decide))
  refine VB_iconst (q := 169) dL_isRefused_168 rfl ?_
  refine VB_callUW (q := 172) dL_isRefused_169 (u_add_no (a := a) (c := c) (S := S) (b := b) (d := d) (F := F) ho hg146 0 0 0 1 3 (by omega) (by omega) (by omega) (by omega) (by omega) (by unfold cAdd; rw [if_neg (by decide)])) yw_add rfl gL_isRefused_L_add xU_U rfl (Nat.le_of_ble_eq_true rfl) (by decide) ⟨by show _ ≤ 64; omega, by show _ ≤ 6 * 64; omega⟩ (fun x169 g169 hP169 hg169 => ?_)
  refine VB_lo (lo' := 5) (by show 5 ≤ 4 + 1; omega) ?_
  refine VB_top (y := iZ (-982)) hP169 ?_
  refine VB_sipush (q := 175) dL_isRefused_172 (by decide) rfl ?_
  refine VB_icmp_ne (q := 178) (tgt := 452) dL_isRefused_175 (by decide) (by decide) (by decide) (fun hc => absurd hc (by decide)) (fun _ => ?_)
  refine VB_aload_n (q := 179) dL_isRefused_178 1 rfl rfl ?_
  refine VB_iconst (q := 180) dL_isRefused_179 rfl ?_
  refine VB_iald (q := 181) (v := (iZ 0)) dL_isRefused_180 13 12 rfl rfl (0) (by omega) (by omega) (by decide) (hM0) rfl ?_
  refine VB_bipush (q := 183) dL_isRefused_181 (by decide) rfl ?_
  refine VB_icmp_lt (q := 186) (tgt := 201) dL_isRefused_183 (by decide) (by decide) (by decide) (fun _ => ?_) (fun hc => absurd hc (by decide))
  refine VB_aload_n (q := 202) dL_isRefused_201 0 rfl rfl ?_
  refine VB_iconst (q := 203) dL_isRefused_202 rfl ?_
  refine VB_iload (q := 205) dL_isRefused_203 4 rfl rfl ?_
  refine VB_iconst (q := 206) dL_isRefused_205 rfl ?_
  refine VB_callUW (q := 209) dL_isRefused_206 (u_of0_no (a := a) (c := c) (S := S) (b := b) (d := d) (F := F) ho hg169 1 0 (by omega) (by omega) (by unfold cHas; rw [iv_no hI (x := 1) (by omega)]; rfl)) yw_of rfl gL_isRefused_L_of xU_U rfl (Nat.le_of_ble_eq_true rfl) (by decide) ⟨by show _ ≤ 64; omega, by show _ ≤ 6 * 64; omega⟩ (fun x206 g206 hP206 hg206 => ?_)
  refine VB_lo (lo' := 6) (by show 6 ≤ 5 + 1; omega) ?_
  refine VB_top (y := iZ (-981)) hP206 ?_
  refine VB_sipush (q := 212) dL_isRefused_209 (by decide) rfl ?_
  refine VB_icmp_ne (q := 215) (tgt := 452) dL_isRefused_212 (by decide) (by decide) (by decide) (fun hc => absurd hc (by decide)) (fun _ => ?_)
  refine VB_aload_n (q := 216) dL_isRefused_215 0 rfl rfl ?_
  refine VB_iconst (q := 217) dL_isRefused_216 rfl ?_
  refine VB_iload (q := 219) dL_isRefused_217 4 rfl rfl ?_
  refine VB_iconst (q := 220) dL_isRefused_219 rfl ?_
  refine VB_callUW (q := 223) dL_isRefused_220 (u_of1_no (a := a) (c := c) (S := S) (b := b) (d := d) (F := F) ho hg206 1 0 (by omega) (by omega) (by unfold cHas; rw [iv_no hI (x := 1) (by omega)]; rfl)) yw_of rfl gL_isRefused_L_of xU_U rfl (Nat.le_of_ble_eq_true rfl) (by decide) ⟨by show _ ≤ 64; omega, by show _ ≤ 6 * 64; omega⟩ (fun x220 g220 hP220 hg220 => ?_)
  refine VB_lo (lo' := 7) (by show 7 ≤ 6 + 1; omega) ?_
  refine VB_top (y := iZ (-981)) hP220 ?_
  refine VB_sipush (q := 226) dL_isRefused_223 (by decide) rfl ?_
  refine VB_icmp_ne (q := 229) (tgt := 452) dL_isRefused_226 (by decide) (by decide) (by decide) (fun hc => absurd hc (by decide)) (fun _ => ?_)
  refine VB_aload_n (q := 230) dL_isRefused_229 0 rfl rfl ?_
  refine VB_iconst (q := 231) dL_isRefused_230 rfl ?_
  refine VB_iload_n (q := 232) dL_isRefused_231 3 rfl rfl ?_
  refine VB_if_eq (q := 235) (tgt := 244) dL_isRefused_232 (by decide) (by decide) (fun _ => ?_) (fun hc => absurd hc (by decide))
  refine VB_bipush (q := 246) dL_isRefused_244 (by decide) rfl ?_
  refine VB_iload_n (q := 247) dL_isRefused_246 2 rfl rfl ?_
  refine VB_bipush (q := 249) dL_isRefused_247 (by decide) rfl ?_
  refine VB_irem (q := 250) (a := 1) (b := 30) dL_isRefused_249 (by omega) (by decide) (by decide) rfl ?_
  refine VB_top (y := iZ 1) rfl ?_
  refine VB_iadd (q := 251) dL_isRefused_250 rfl ?_
  refine VB_top (y := iZ 32) rfl ?_
  refine VB_iconst (q := 252) dL_isRefused_251 rfl ?_
  refine VB_callUW (q := 255) dL_isRefused_252 (u_of2_no (a := a) (c := c) (S := S) (b := b) (d := d) (F := F) ho hg220 32 0 (by omega) (by omega) (by unfold cOut; rw [if_neg (by decide)])) yw_of rfl gL_isRefused_L_of xU_U rfl (Nat.le_of_ble_eq_true rfl) (by decide) ⟨by show _ ≤ 64; omega, by show _ ≤ 6 * 64; omega⟩ (fun x252 g252 hP252 hg252 => ?_)
  refine VB_lo (lo' := 8) (by show 8 ≤ 7 + 1; omega) ?_
  refine VB_top (y := iZ (-982)) hP252 ?_
  refine VB_sipush (q := 258) dL_isRefused_255 (by decide) rfl ?_
  refine VB_icmp_ne (q := 261) (tgt := 452) dL_isRefused_258 (by decide) (by decide) (by decide) (fun hc => absurd hc (by decide)) (fun _ => ?_)
  refine VB_aload_n (q := 262) dL_isRefused_261 0 rfl rfl ?_
  refine VB_iconst (q := 263) dL_isRefused_262 rfl ?_
  refine VB_iload (q := 265) dL_isRefused_263 4 rfl rfl ?_
  refine VB_iconst (q := 266) dL_isRefused_265 rfl ?_
  refine VB_callUW (q := 269) dL_isRefused_266 (u_of3_no (a := a) (c := c) (S := S) (b := b) (d := d) (F := F) ho hg252 1 (-1) (by omega) (by omega) (by unfold cAdds; rw [iv_no hI (x := 1) (by omega)]; rfl)) yw_of rfl gL_isRefused_L_of xU_U rfl (Nat.le_of_ble_eq_true rfl) (by decide) ⟨by show _ ≤ 64; omega, by show _ ≤ 6 * 64; omega⟩ (fun x266 g266 hP266 hg266 => ?_)
  refine VB_lo (lo' := 9) (by show 9 ≤ 8 + 1; omega) ?_
  refine VB_top (y := iZ (-981)) hP266 ?_
  refine VB_sipush (q := 272) dL_isRefused_269 (by decide) rfl ?_
  refine VB_icmp_ne (q := 275) (tgt := 452) dL_isRefused_272 (by decide) (by decide) (by decide) (fun hc => absurd hc (by decide)) (fun _ => ?_)
  refine VB_aload_n (q := 276) dL_isRefused_275 0 rfl rfl ?_
  refine VB_iconst (q := 277) dL_isRefused_276 rfl ?_
  refine VB_iload_n (q := 278) dL_isRefused_277 3 rfl rfl ?_
  refine VB_if_eq (q := 281) (tgt := 285) dL_isRefused_278 (by decide) (by decide) (fun _ => ?_) (fun hc => absurd hc (by decide))
  refine VB_bipush (q := 287) dL_isRefused_285 (by decide) rfl ?_
  refine VB_iconst (q := 288) dL_isRefused_287 rfl ?_
  refine VB_callUW (q := 291) dL_isRefused_288 (u_of4_no (a := a) (c := c) (S := S) (b := b) (d := d) (F := F) ho hg266 31 0 (by omega) (by omega) (by unfold cFor; rw [if_neg (by decide)])) yw_of rfl gL_isRefused_L_of xU_U rfl (Nat.le_of_ble_eq_true rfl) (by decide) ⟨by show _ ≤ 64; omega, by show _ ≤ 6 * 64; omega⟩ (fun x288 g288 hP288 hg288 => ?_)
  refine VB_lo (lo' := 10) (by show 10 ≤ 9 + 1; omega) ?_
  refine VB_top (y := iZ (-982)) hP288 ?_
  refine VB_sipush (q := 294) dL_isRefused_291 (by decide) rfl ?_
  refine VB_icmp_ne (q := 297) (tgt := 452) dL_isRefused_294 (by decide) (by decide) (by decide) (fun hc => absurd hc (by decide)) (fun _ => ?_)
  refine VB_aload_n (q := 298) dL_isRefused_297 0 rfl rfl ?_
  refine VB_iconst (q := 299) dL_isRefused_298 rfl ?_
  refine VB_iconst (q := 300) dL_isRefused_299 rfl ?_
  refine VB_iload_n (q := 301) dL_isRefused_300 3 rfl rfl ?_
  refine VB_if_eq (q := 304) (tgt := 313) dL_isRefused_301 (by decide) (by decide) (fun _ => ?_) (fun hc => absurd hc (by decide))
  refine VB_sipush (q := 316) dL_isRefused_313 (by decide) rfl ?_
  refine VB_iload_n (q := 317) dL_isRefused_316 2 rfl rfl ?_
  refine VB_bipush (q := 319) dL_isRefused_317 (by decide) rfl ?_
  refine VB_irem (q := 320) (a := 1) (b := 30) dL_isRefused_319 (by omega) (by decide) (by decide) rfl ?_
  refine VB_top (y := iZ 1) rfl ?_
  refine VB_iadd (q := 321) dL_isRefused_320 rfl ?_
  refine VB_top (y := iZ 257) rfl ?_
  refine VB_callUW (q := 324) dL_isRefused_321 (u_of4_no (a := a) (c := c) (S := S) (b := b) (d := d) (F := F) ho hg288 0 257 (by omega) (by omega) (by unfold cFor; rw [if_neg (by decide)])) yw_of rfl gL_isRefused_L_of xU_U rfl (Nat.le_of_ble_eq_true rfl) (by decide) ⟨by show _ ≤ 64; omega, by show _ ≤ 6 * 64; omega⟩ (fun x321 g321 hP321 hg321 => ?_)
  refine VB_lo (lo' := 11) (by show 11 ≤ 10 + 1; omega) ?_
  refine VB_top (y := iZ (-982)) hP321 ?_
  refine VB_sipush (q := 327) dL_isRefused_324 (by decide) rfl ?_
  refine VB_icmp_ne (q := 330) (tgt := 452) dL_isRefused_327 (by decide) (by decide) (by decide) (fun hc => absurd hc (by decide)) (fun _ => ?_)
  refine VB_aload_n (q := 331) dL_isRefused_330 0 rfl rfl ?_
  refine VB_iconst (q := 332) dL_isRefused_331 rfl ?_
  refine VB_iload_n (q := 333) dL_isRefused_332 3 rfl rfl ?_
  refine VB_if_eq (q := 336) (tgt := 340) dL_isRefused_333 (by decide) (by decide) (fun _ => ?_) (fun hc => absurd hc (by decide))
  refine VB_iconst (q := 341) dL_isRefused_340 rfl ?_
  refine VB_iconst (q := 342) dL_isRefused_341 rfl ?_
  refine VB_callUW (q := 345) dL_isRefused_342 (u_of5_no (a := a) (c := c) (S := S) (b := b) (d := d) (F := F) ho hg321 3 (by omega) (by unfold cCare; rw [if_neg (by decide)])) yw_of rfl gL_isRefused_L_of xU_U rfl (Nat.le_of_ble_eq_true rfl) (by decide) ⟨by show _ ≤ 64; omega, by show _ ≤ 6 * 64; omega⟩ (fun x342 g342 hP342 hg342 => ?_)
  refine VB_lo (lo' := 12) (by show 12 ≤ 11 + 1; omega) ?_
  refine VB_top (y := iZ (-982)) hP342 ?_
  refine VB_sipush (q := 348) dL_isRefused_345 (by decide) rfl ?_
  refine VB_icmp_ne (q := 351) (tgt := 452) dL_isRefused_348 (by decide) (by decide) (by decide) (fun hc => absurd hc (by decide)) (fun _ => ?_)
  refine VB_aload_n (q := 352) dL_isRefused_351 0 rfl rfl ?_
  refine VB_bipush (q := 354) dL_isRefused_352 (by decide) rfl ?_
  refine VB_iload_n (q := 355) dL_isRefused_354 3 rfl rfl ?_
  refine VB_if_eq (q := 358) (tgt := 362) dL_isRefused_355 (by decide) (by decide) (fun _ => ?_) (fun hc => absurd hc (by decide))
  refine VB_iconst (q := 363) dL_isRefused_362 rfl ?_
  refine VB_iconst (q := 364) dL_isRefused_363 rfl ?_
  refine VB_callUW (q := 367) dL_isRefused_364 (u_of6_no (a := a) (c := c) (S := S) (b := b) (d := d) (F := F) ho hg342 3 (by omega) (by unfold cCare; rw [if_neg (by decide)])) yw_of rfl gL_isRefused_L_of xU_U rfl (Nat.le_of_ble_eq_true rfl) (by decide) ⟨by show _ ≤ 64; omega, by show _ ≤ 6 * 64; omega⟩ (fun x364 g364 hP364 hg364 => ?_)
  refine VB_lo (lo' := 13) (by show 13 ≤ 12 + 1; omega) ?_
  refine VB_top (y := iZ (-982)) hP364 ?_
  refine VB_sipush (q := 370) dL_isRefused_367 (by decide) rfl ?_
  refine VB_icmp_ne (q := 373) (tgt := 452) dL_isRefused_370 (by decide) (by decide) (by decide) (fun hc => absurd hc (by decide)) (fun _ => ?_)
  refine VB_aload_n (q := 374) dL_isRefused_373 0 rfl rfl ?_
  refine VB_bipush (q := 376) dL_isRefused_374 (by decide) rfl ?_
  refine VB_iload_n (q := 377) dL_isRefused_376 3 rfl rfl ?_
  refine VB_if_eq (q := 380) (tgt := 389) dL_isRefused_377 (by decide) (by decide) (fun _ => ?_) (fun hc => absurd hc (by decide))
  refine VB_sipush (q := 392) dL_isRefused_389 (by decide) rfl ?_
  refine VB_iconst (q := 393) dL_isRefused_392 rfl ?_
  refine VB_callUW (q := 396) dL_isRefused_393 (u_of7_no (a := a) (c := c) (S := S) (b := b) (d := d) (F := F) ho hg364 366 0 (by omega) (by omega) (by unfold cPass; rw [if_neg (by decide)])) yw_of rfl gL_isRefused_L_of xU_U rfl (Nat.le_of_ble_eq_true rfl) (by decide) ⟨by show _ ≤ 64; omega, by show _ ≤ 6 * 64; omega⟩ (fun x393 g393 hP393 hg393 => ?_)
  refine VB_lo (lo' := 14) (by show 14 ≤ 13 + 1; omega) ?_
  refine VB_top (y := iZ (-982)) hP393 ?_
  refine VB_sipush (q := 399) dL_isRefused_396 (by decide) rfl ?_
  refine VB_icmp_ne (q := 402) (tgt := 452) dL_isRefused_399 (by decide) (by decide) (by decide) (fun hc => absurd hc (by decide)) (fun _ => ?_)
  refine VB_aload_n (q := 403) dL_isRefused_402 0 rfl rfl ?_
  refine VB_bipush (q := 405) dL_isRefused_403 (by decide) rfl ?_
  refine VB_iload_n (q := 406) dL_isRefused_405 3 rfl rfl ?_
  refine VB_if_eq (q := 409) (tgt := 413) dL_isRefused_406 (by decide) (by decide) (fun _ => ?_) (fun hc => absurd hc (by decide))
  refine VB_bipush (q := 415) dL_isRefused_413 (by decide) rfl ?_
  refine VB_iconst (q := 416) dL_isRefused_415 rfl ?_
  refine VB_callUW (q := 419) dL_isRefused_416 (u_of8_no (a := a) (c := c) (S := S) (b := b) (d := d) (F := F) ho hg393 21 0 (by omega) (by omega) (by unfold cBag; rw [if_neg (by decide)])) yw_of rfl gL_isRefused_L_of xU_U rfl (Nat.le_of_ble_eq_true rfl) (by decide) ⟨by show _ ≤ 64; omega, by show _ ≤ 6 * 64; omega⟩ (fun x416 g416 hP416 hg416 => ?_)
  refine VB_lo (lo' := 15) (by show 15 ≤ 14 + 1; omega) ?_
  refine VB_top (y := iZ (-982)) hP416 ?_
  refine VB_sipush (q := 422) dL_isRefused_419 (by decide) rfl ?_
  refine VB_icmp_ne (q := 425) (tgt := 452) dL_isRefused_422 (by decide) (by decide) (by decide) (fun hc => absurd hc (by decide)) (fun _ => ?_)
  refine VB_aload_n (q := 426) dL_isRefused_425 0 rfl rfl ?_
  refine VB_bipush (q := 428) dL_isRefused_426 (by decide) rfl ?_
  refine VB_iconst (q := 429) dL_isRefused_428 rfl ?_
  refine VB_iload_n (q := 430) dL_isRefused_429 3 rfl rfl ?_
  refine VB_if_eq (q := 433) (tgt := 437) dL_isRefused_430 (by decide) (by decide) (fun _ => ?_) (fun hc => absurd hc (by decide))
  refine VB_bipush (q := 439) dL_isRefused_437 (by decide) rfl ?_
  refine VB_callUW (q := 442) dL_isRefused_439 (u_of8_no (a := a) (c := c) (S := S) (b := b) (d := d) (F := F) ho hg416 1 21 (by omega) (by omega) (by unfold cBag; rw [if_neg (by decide)])) yw_of rfl gL_isRefused_L_of xU_U rfl (Nat.le_of_ble_eq_true rfl) (by decide) ⟨by show _ ≤ 64; omega, by show _ ≤ 6 * 64; omega⟩ (fun x439 g439 hP439 hg439 => ?_)
  refine VB_lo (lo' := 16) (by show 16 ≤ 15 + 1; omega) ?_
  refine VB_top (y := iZ (-982)) hP439 ?_
  refine VB_sipush (q := 445) dL_isRefused_442 (by decide) rfl ?_
  refine VB_icmp_ne (q := 448) (tgt := 452) dL_isRefused_445 (by decide) (by decide) (by decide) (fun hc => absurd hc (by decide)) (fun _ => ?_)
  refine VB_iconst (q := 449) dL_isRefused_448 rfl ?_
  refine VB_goto (tgt := 453) dL_isRefused_449 (by decide) ?_
  refine VB_istore (q := 455) (lv' := [(0, _), (1, _), (2, _), (3, _), (4, _), (5, _), (6, _), (8, _)]) dL_isRefused_453 (by decide) rfl rfl ?_
  refine VB_iload (q := 457) dL_isRefused_455 7 rfl rfl ?_
  refine VB_if_eq (q := 460) (tgt := 665) dL_isRefused_457 (by decide) (by decide) (fun hc => absurd hc (by decide)) (fun _ => ?_)
  refine VB_aload_n (q := 461) dL_isRefused_460 0 rfl rfl ?_
  refine VB_iconst (q := 462) dL_isRefused_461 rfl ?_
  refine VB_iload_n (q := 463) dL_isRefused_462 3 rfl rfl ?_
  refine VB_if_eq (q := 466) (tgt := 470) dL_isRefused_463 (by decide) (by decide) (fun _ => ?_) (fun hc => absurd hc (by decide))
  refine VB_bipush (q := 472) dL_isRefused_470 (by decide) rfl ?_
  refine VB_iconst (q := 473) dL_isRefused_472 rfl ?_
  refine VB_iconst (q := 474) dL_isRefused_473 rfl ?_
  refine VB_callUW (q := 477) dL_isRefused_474 (u_yes0_no (a := a) (c := c) (S := S) (b := b) (d := d) (F := F) ho hg439 8 0 (by omega) (by omega) (by unfold cClash; rw [if_neg (by decide)])) yw_yes rfl gL_isRefused_L_yes xU_U rfl (Nat.le_of_ble_eq_true rfl) (by decide) ⟨by show _ ≤ 64; omega, by show _ ≤ 6 * 64; omega⟩ (fun x474 g474 hP474 hg474 => ?_)
  refine VB_lo (lo' := 17) (by show 17 ≤ 16 + 1; omega) ?_
  refine VB_top (y := iZ (-982)) hP474 ?_
  refine VB_sipush (q := 480) dL_isRefused_477 (by decide) rfl ?_
  refine VB_icmp_ne (q := 483) (tgt := 665) dL_isRefused_480 (by decide) (by decide) (by decide) (fun hc => absurd hc (by decide)) (fun _ => ?_)
  refine VB_aload_n (q := 484) dL_isRefused_483 0 rfl rfl ?_
  refine VB_iconst (q := 485) dL_isRefused_484 rfl ?_
  refine VB_iconst (q := 486) dL_isRefused_485 rfl ?_
  refine VB_iload_n (q := 487) dL_isRefused_486 3 rfl rfl ?_
  refine VB_if_eq (q := 490) (tgt := 494) dL_isRefused_487 (by decide) (by decide) (fun _ => ?_) (fun hc => absurd hc (by decide))
  refine VB_bipush (q := 496) dL_isRefused_494 (by decide) rfl ?_
  refine VB_iconst (q := 497) dL_isRefused_496 rfl ?_
  refine VB_callUW (q := 500) dL_isRefused_497 (u_yes0_no (a := a) (c := c) (S := S) (b := b) (d := d) (F := F) ho hg474 0 8 (by omega) (by omega) (by unfold cClash; rw [if_neg (by decide)])) yw_yes rfl gL_isRefused_L_yes xU_U rfl (Nat.le_of_ble_eq_true rfl) (by decide) ⟨by show _ ≤ 64; omega, by show _ ≤ 6 * 64; omega⟩ (fun x497 g497 hP497 hg497 => ?_)
  refine VB_lo (lo' := 18) (by show 18 ≤ 17 + 1; omega) ?_
  refine VB_top (y := iZ (-982)) hP497 ?_
  refine VB_sipush (q := 503) dL_isRefused_500 (by decide) rfl ?_
  refine VB_icmp_ne (q := 506) (tgt := 665) dL_isRefused_503 (by decide) (by decide) (by decide) (fun hc => absurd hc (by decide)) (fun _ => ?_)
  refine VB_aload_n (q := 507) dL_isRefused_506 0 rfl rfl ?_
  refine VB_iconst (q := 508) dL_isRefused_507 rfl ?_
  refine VB_iconst (q := 509) dL_isRefused_508 rfl ?_
  refine VB_iload_n (q := 510) dL_isRefused_509 3 rfl rfl ?_
  refine VB_if_eq (q := 513) (tgt := 517) dL_isRefused_510 (by decide) (by decide) (fun _ => ?_) (fun hc => absurd hc (by decide))
  refine VB_bipush (q := 519) dL_isRefused_517 (by decide) rfl ?_
  refine VB_iconst (q := 520) dL_isRefused_519 rfl ?_
  refine VB_callUW (q := 523) dL_isRefused_520 (u_yes1_no (a := a) (c := c) (S := S) (b := b) (d := d) (F := F) ho hg497 (iZ 0) 21 0 (by omega) (by omega) (cEn_b (by decide))) yw_yes rfl gL_isRefused_L_yes xU_U rfl (Nat.le_of_ble_eq_true rfl) (by decide) ⟨by show _ ≤ 64; omega, by show _ ≤ 6 * 64; omega⟩ (fun x520 g520 hP520 hg520 => ?_)
  refine VB_lo (lo' := 19) (by show 19 ≤ 18 + 1; omega) ?_
  refine VB_top (y := iZ (-982)) hP520 ?_
  refine VB_sipush (q := 526) dL_isRefused_523 (by decide) rfl ?_
  refine VB_icmp_ne (q := 529) (tgt := 665) dL_isRefused_526 (by decide) (by decide) (by decide) (fun hc => absurd hc (by decide)) (fun _ => ?_)
  refine VB_aload_n (q := 530) dL_isRefused_529 0 rfl rfl ?_
  refine VB_iconst (q := 531) dL_isRefused_530 rfl ?_
  refine VB_iconst (q := 532) dL_isRefused_531 rfl ?_
  refine VB_iconst (q := 533) dL_isRefused_532 rfl ?_
  refine VB_iload_n (q := 534) dL_isRefused_533 3 rfl rfl ?_
  refine VB_if_eq (q := 537) (tgt := 541) dL_isRefused_534 (by decide) (by decide) (fun _ => ?_) (fun hc => absurd hc (by decide))
  refine VB_bipush (q := 543) dL_isRefused_541 (by decide) rfl ?_
  refine VB_callUW (q := 546) dL_isRefused_543 (u_yes1_no (a := a) (c := c) (S := S) (b := b) (d := d) (F := F) ho hg520 (iZ 0) 1 21 (by omega) (by omega) (cEn_b (by decide))) yw_yes rfl gL_isRefused_L_yes xU_U rfl (Nat.le_of_ble_eq_true rfl) (by decide) ⟨by show _ ≤ 64; omega, by show _ ≤ 6 * 64; omega⟩ (fun x543 g543 hP543 hg543 => ?_)
  refine VB_lo (lo' := 20) (by show 20 ≤ 19 + 1; omega) ?_
  refine VB_top (y := iZ (-982)) hP543 ?_
  refine VB_sipush (q := 549) dL_isRefused_546 (by decide) rfl ?_
  refine VB_icmp_ne (q := 552) (tgt := 665) dL_isRefused_549 (by decide) (by decide) (by decide) (fun hc => absurd hc (by decide)) (fun _ => ?_)
  refine VB_aload_n (q := 553) dL_isRefused_552 0 rfl rfl ?_
  refine VB_iconst (q := 554) dL_isRefused_553 rfl ?_
  refine VB_iconst (q := 555) dL_isRefused_554 rfl ?_
  refine VB_bipush (q := 557) dL_isRefused_555 (by decide) rfl ?_
  refine VB_iload_n (q := 558) dL_isRefused_557 2 rfl rfl ?_
  refine VB_bipush (q := 560) dL_isRefused_558 (by decide) rfl ?_
  refine VB_irem (q := 561) (a := 1) (b := 19) dL_isRefused_560 (by omega) (by decide) (by decide) rfl ?_
  refine VB_top (y := iZ 1) rfl ?_
  refine VB_iadd (q := 562) dL_isRefused_561 rfl ?_
  refine VB_top (y := iZ 13) rfl ?_
  refine VB_ishl (q := 563) dL_isRefused_562 rfl ?_
  refine VB_top (y := iZ 8192) (by decide +kernel) ?_
  refine VB_iconst (q := 564) dL_isRefused_563 rfl ?_
  refine VB_iconst (q := 565) dL_isRefused_564 rfl ?_
  refine VB_callUW (q := 568) dL_isRefused_565 (u_yes1_no (a := a) (c := c) (S := S) (b := b) (d := d) (F := F) ho hg543 (iZ 8192) 1 1 (by omega) (by omega) (cEn_x (by decide +kernel))) yw_yes rfl gL_isRefused_L_yes xU_U rfl (Nat.le_of_ble_eq_true rfl) (by decide) ⟨by show _ ≤ 64; omega, by show _ ≤ 6 * 64; omega⟩ (fun x565 g565 hP565 hg565 => ?_)
  refine VB_lo (lo' := 21) (by show 21 ≤ 20 + 1; omega) ?_
  refine VB_top (y := iZ (-982)) hP565 ?_
  refine VB_sipush (q := 571) dL_isRefused_568 (by decide) rfl ?_
  refine VB_icmp_ne (q := 574) (tgt := 665) dL_isRefused_571 (by decide) (by decide) (by decide) (fun hc => absurd hc (by decide)) (fun _ => ?_)
  refine VB_aload_n (q := 575) dL_isRefused_574 0 rfl rfl ?_
  refine VB_iconst (q := 576) dL_isRefused_575 rfl ?_
  refine VB_iconst (q := 577) dL_isRefused_576 rfl ?_
  refine VB_iload_n (q := 578) dL_isRefused_577 2 rfl rfl ?_
  refine VB_bipush (q := 580) dL_isRefused_578 (by decide) rfl ?_
  refine VB_irem (q := 581) (a := 1) (b := 30) dL_isRefused_580 (by omega) (by decide) (by decide) rfl ?_
  refine VB_top (y := iZ 1) rfl ?_
  refine VB_isub (q := 582) dL_isRefused_581 rfl ?_
  refine VB_top (y := iZ (-2)) rfl ?_
  refine VB_iconst (q := 583) dL_isRefused_582 rfl ?_
  refine VB_iconst (q := 584) dL_isRefused_583 rfl ?_
  refine VB_callUW (q := 587) dL_isRefused_584 (u_yes1_no (a := a) (c := c) (S := S) (b := b) (d := d) (F := F) ho hg565 (iZ (-2)) 1 1 (by omega) (by omega) (cEn_x (by decide +kernel))) yw_yes rfl gL_isRefused_L_yes xU_U rfl (Nat.le_of_ble_eq_true rfl) (by decide) ⟨by show _ ≤ 64; omega, by show _ ≤ 6 * 64; omega⟩ (fun x584 g584 hP584 hg584 => ?_)
  refine VB_lo (lo' := 22) (by show 22 ≤ 21 + 1; omega) ?_
  refine VB_top (y := iZ (-982)) hP584 ?_
  refine VB_sipush (q := 590) dL_isRefused_587 (by decide) rfl ?_
  refine VB_icmp_ne (q := 593) (tgt := 665) dL_isRefused_590 (by decide) (by decide) (by decide) (fun hc => absurd hc (by decide)) (fun _ => ?_)
  refine VB_aload_n (q := 594) dL_isRefused_593 0 rfl rfl ?_
  refine VB_iconst (q := 595) dL_isRefused_594 rfl ?_
  refine VB_iload (q := 597) dL_isRefused_595 4 rfl rfl ?_
  refine VB_iconst (q := 598) dL_isRefused_597 rfl ?_
  refine VB_iconst (q := 599) dL_isRefused_598 rfl ?_
  refine VB_iconst (q := 600) dL_isRefused_599 rfl ?_
  refine VB_callUW (q := 603) dL_isRefused_600 (u_out0_nob (a := a) (c := c) (S := S) (b := b) (d := d) (F := F) ho hg584 1 0 (-1) 0 (by omega) (by omega) (by omega) (by omega) (wrZ_no hI (by omega))) yw_outfit rfl gL_isRefused_L_outfit xU_U rfl (Nat.le_of_ble_eq_true rfl) (by decide) ⟨by show _ ≤ 64; omega, by show _ ≤ 6 * 64; omega⟩ (fun x600 g600 hP600 hg600 => ?_)
  refine VB_lo (lo' := 23) (by show 23 ≤ 22 + 1; omega) ?_
  refine VB_top (y := iZ (-981)) hP600 ?_
  refine VB_sipush (q := 606) dL_isRefused_603 (by decide) rfl ?_
  refine VB_icmp_ne (q := 609) (tgt := 665) dL_isRefused_606 (by decide) (by decide) (by decide) (fun hc => absurd hc (by decide)) (fun _ => ?_)
  refine VB_aload_n (q := 610) dL_isRefused_609 0 rfl rfl ?_
  refine VB_iconst (q := 611) dL_isRefused_610 rfl ?_
  refine VB_iload (q := 613) dL_isRefused_611 4 rfl rfl ?_
  refine VB_iload (q := 615) dL_isRefused_613 4 rfl rfl ?_
  refine VB_iload (q := 617) dL_isRefused_615 5 rfl rfl ?_
  refine VB_iconst (q := 618) dL_isRefused_617 rfl ?_
  refine VB_callUW (q := 621) dL_isRefused_618 (u_out0_nob (a := a) (c := c) (S := S) (b := b) (d := d) (F := F) ho hg600 1 1 1 0 (by omega) (by omega) (by omega) (by omega) (wrZ_no hI (by omega))) yw_outfit rfl gL_isRefused_L_outfit xU_U rfl (Nat.le_of_ble_eq_true rfl) (by decide) ⟨by show _ ≤ 64; omega, by show _ ≤ 6 * 64; omega⟩ (fun x618 g618 hP618 hg618 => ?_)
  refine VB_lo (lo' := 24) (by show 24 ≤ 23 + 1; omega) ?_
  refine VB_top (y := iZ (-981)) hP618 ?_
  refine VB_sipush (q := 624) dL_isRefused_621 (by decide) rfl ?_
  refine VB_icmp_ne (q := 627) (tgt := 665) dL_isRefused_624 (by decide) (by decide) (by decide) (fun hc => absurd hc (by decide)) (fun _ => ?_)
  refine VB_aload_n (q := 628) dL_isRefused_627 0 rfl rfl ?_
  refine VB_iconst (q := 629) dL_isRefused_628 rfl ?_
  refine VB_iload (q := 631) dL_isRefused_629 4 rfl rfl ?_
  refine VB_iconst (q := 632) dL_isRefused_631 rfl ?_
  refine VB_iconst (q := 633) dL_isRefused_632 rfl ?_
  refine VB_iconst (q := 634) dL_isRefused_633 rfl ?_
  refine VB_callUW (q := 637) dL_isRefused_634 (u_out1_nob (a := a) (c := c) (S := S) (b := b) (d := d) (F := F) ho hg618 1 0 0 (-1) (by omega) (by omega) (by omega) (by omega) (cSoon_w (wrZ_no hI (by omega)))) yw_outfit rfl gL_isRefused_L_outfit xU_U rfl (Nat.le_of_ble_eq_true rfl) (by decide) ⟨by show _ ≤ 64; omega, by show _ ≤ 6 * 64; omega⟩ (fun x634 g634 hP634 hg634 => ?_)
  refine VB_lo (lo' := 25) (by show 25 ≤ 24 + 1; omega) ?_
  refine VB_top (y := iZ (-981)) hP634 ?_
  refine VB_sipush (q := 640) dL_isRefused_637 (by decide) rfl ?_
  refine VB_icmp_ne (q := 643) (tgt := 665) dL_isRefused_640 (by decide) (by decide) (by decide) (fun hc => absurd hc (by decide)) (fun _ => ?_)
  refine VB_aload_n (q := 644) dL_isRefused_643 0 rfl rfl ?_
  refine VB_iconst (q := 645) dL_isRefused_644 rfl ?_
  refine VB_iload (q := 647) dL_isRefused_645 4 rfl rfl ?_
  refine VB_iload (q := 649) dL_isRefused_647 4 rfl rfl ?_
  refine VB_iload (q := 651) dL_isRefused_649 5 rfl rfl ?_
  refine VB_iconst (q := 652) dL_isRefused_651 rfl ?_
  refine VB_callUW (q := 655) dL_isRefused_652 (u_out2_nob (a := a) (c := c) (S := S) (b := b) (d := d) (F := F) ho hg634 1 1 1 (-1) (by omega) (by omega) (by omega) (by omega) (cWear_w (wrZ_no hI (by omega)))) yw_outfit rfl gL_isRefused_L_outfit xU_U rfl (Nat.le_of_ble_eq_true rfl) (by decide) ⟨by show _ ≤ 64; omega, by show _ ≤ 6 * 64; omega⟩ (fun x652 g652 hP652 hg652 => ?_)
  refine VB_lo (lo' := 26) (by show 26 ≤ 25 + 1; omega) ?_
  refine VB_top (y := iZ (-981)) hP652 ?_
  refine VB_sipush (q := 658) dL_isRefused_655 (by decide) rfl ?_
  refine VB_icmp_ne (q := 661) (tgt := 665) dL_isRefused_658 (by decide) (by decide) (by decide) (fun hc => absurd hc (by decide)) (fun _ => ?_)
  refine VB_iconst (q := 662) dL_isRefused_661 rfl ?_
  refine VB_goto (tgt := 666) dL_isRefused_662 (by decide) ?_
  refine VB_istore (q := 668) (lv' := [(0, _), (1, _), (2, _), (3, _), (4, _), (5, _), (6, _), (8, _)]) dL_isRefused_666 (by decide) rfl rfl ?_
  refine VB_iload (q := 670) dL_isRefused_668 7 rfl rfl ?_
  refine VB_if_eq (q := 673) (tgt := 688) dL_isRefused_670 (by decide) (by decide) (fun hc => absurd hc (by decide)) (fun _ => ?_)
  refine VB_aload_n (q := 674) dL_isRefused_673 0 rfl rfl ?_
  refine VB_aload_n (q := 675) dL_isRefused_674 1 rfl rfl ?_
  refine VB_callUL (q := 678) dL_isRefused_675 (u_all (a := a) (c := c) (S := S) (b := b) (d := d) (F := F) hI hg652) yv_L_all rfl gL_isRefused_L_all xU_U rfl (Nat.le_of_ble_eq_true rfl) (by decide) ⟨by show _ ≤ 64; omega, by show _ ≤ 6 * 64; omega⟩ (fun x675 g675 hg675 => ?_)
  refine VB_lload (q := 680) dL_isRefused_678 6 rfl rfl ?_
  refine VB_lcmp (q := 681) dL_isRefused_680 rfl ?_
  refine VB_uany (fun u680 => ?_)
  refine VB_uif_ne (q := 684) (tgt := 688) dL_isRefused_681 (by decide) ?_ ?_
  · skip
    refine VB_iconst (q := 689) dL_isRefused_688 rfl ?_
    exact VB_widen (k' := 64) (n' := 6 * 64) (by omega) (by omega) (VB_zretU dL_isRefused_689 rfl rfl trivial (by decide) hg675 rfl)
  · skip
    refine VB_iconst (q := 685) dL_isRefused_684 rfl ?_
    refine VB_goto (tgt := 689) dL_isRefused_685 (by decide) ?_
    exact VB_widen (k' := 64) (n' := 6 * 64) (by omega) (by omega) (VB_zretU dL_isRefused_689 rfl rfl trivial (by decide) hg675 rfl)
set_option maxRecDepth 100000 in
set_option maxHeartbeats 8000000 in
theorem u_isRefused10 {a : Nat → Nat} {c : Nat → ClassId} {S : St} {b : Nat → Nat} {d : Nat → ClassId} {F : Nat → Nat → Int32} {g : Nat → Nat} (hI : Iv S F 1) (hg : ∀ j, g j < 4096) : CtU yL_isRefused wsL_isRefused (rmU 11 64) (tyl c d) [.ref (a 0), .ref (b 4), .int (iZ 10)] (wal a c S b d F g) (wal a c S b d F) (fun _ => True) (fun x => if x = 0 then 0 else 26) 64 := by
  obtain ⟨ho, hn, hm4, hM0, hG, hC⟩ := id hI
  refine CtU_of (own := RL) (by decide) rfl rfl (Nat.le_of_ble_eq_true rfl) ?_
  refine VB_lvq (lv' := [(0, _), (1, _), (2, _)]) rfl ?_
  refine VB_iload_n (q := 1) dL_isRefused_0 2 rfl rfl ?_
  refine VB_iconst (q := 2) dL_isRefused_1 rfl ?_
  refine VB_irem (q := 3) (a := 10) (b := 2) dL_isRefused_2 (by omega) (by decide) (by decide) rfl ?_
  refine VB_top (y := iZ 0) rfl ?_
  refine VB_if_ne (q := 6) (tgt := 10) dL_isRefused_3 (by decide) (by decide) (fun hc => absurd hc (by decide)) (fun _ => ?_)
  refine VB_iconst (q := 7) dL_isRefused_6 rfl ?_
  refine VB_goto (tgt := 11) dL_isRefused_7 (by decide) ?_
  refine VB_istore_n (q := 12) (lv' := [(0, _), (1, _), (2, _), (3, _)]) dL_isRefused_11 (by decide) rfl rfl ?_
  refine VB_iload_n (q := 13) dL_isRefused_12 3 rfl rfl ?_
  refine VB_if_eq (q := 16) (tgt := 25) dL_isRefused_13 (by decide) (by decide) (fun hc => absurd hc (by decide)) (fun _ => ?_)
  refine VB_iconst (q := 17) dL_isRefused_16 rfl ?_
  refine VB_iload_n (q := 18) dL_isRefused_17 2 rfl rfl ?_
  refine VB_bipush (q := 20) dL_isRefused_18 (by decide) rfl ?_
  refine VB_irem (q := 21) (a := 10) (b := 30) dL_isRefused_20 (by omega) (by decide) (by decide) rfl ?_
  refine VB_top (y := iZ 10) rfl ?_
  refine VB_isub (q := 22) dL_isRefused_21 rfl ?_
  refine VB_top (y := iZ (-11)) rfl ?_
  refine VB_goto (tgt := 33) dL_isRefused_22 (by decide) ?_
  refine VB_istore (q := 35) (lv' := [(0, _), (1, _), (2, _), (3, _), (4, _)]) dL_isRefused_33 (by decide) rfl rfl ?_
  refine VB_iload_n (q := 36) dL_isRefused_35 3 rfl rfl ?_
  refine VB_if_eq (q := 39) (tgt := 49) dL_isRefused_36 (by decide) (by decide) (fun hc => absurd hc (by decide)) (fun _ => ?_)
  refine VB_bipush (q := 41) dL_isRefused_39 (by decide) rfl ?_
  refine VB_iload_n (q := 42) dL_isRefused_41 2 rfl rfl ?_
  refine VB_bipush (q := 44) dL_isRefused_42 (by decide) rfl ?_
  refine VB_irem (q := 45) (a := 10) (b := 30) dL_isRefused_44 (by omega) (by decide) (by decide) rfl ?_
  refine VB_top (y := iZ 10) rfl ?_
  refine VB_isub (q := 46) dL_isRefused_45 rfl ?_
  refine VB_top (y := iZ (-12)) rfl ?_
  refine VB_goto (tgt := 51) dL_isRefused_46 (by decide) ?_
  refine VB_istore (q := 53) (lv' := [(0, _), (1, _), (2, _), (3, _), (4, _), (5, _)]) dL_isRefused_51 (by decide) rfl rfl ?_
  refine VB_aload_n (q := 54) dL_isRefused_53 0 rfl rfl ?_
  refine VB_aload_n (q := 55) dL_isRefused_54 1 rfl rfl ?_
  refine VB_callUL (q := 58) dL_isRefused_55 (u_all (a := a) (c := c) (S := S) (b := b) (d := d) (F := F) hI hg) yv_L_all rfl gL_isRefused_L_all xU_U rfl (Nat.le_of_ble_eq_true rfl) (by decide) ⟨by show _ ≤ 64; omega, by show _ ≤ 6 * 64; omega⟩ (fun x55 g55 hg55 => ?_)
  refine VB_lstore (q := 60) (lv' := [(0, _), (1, _), (2, _), (3, _), (4, _), (5, _), (6, _)]) dL_isRefused_58 (by decide) rfl rfl ?_
  refine VB_aload_n (q := 61) dL_isRefused_60 0 rfl rfl ?_
  refine VB_iload_n (q := 62) dL_isRefused_61 3 rfl rfl ?_
  refine VB_if_eq (q := 65) (tgt := 69) dL_isRefused_62 (by decide) (by decide) (fun hc => absurd hc (by decide)) (fun _ => ?_)
  refine VB_iconst (q := 66) dL_isRefused_65 rfl ?_
  refine VB_goto (tgt := 70) dL_isRefused_66 (by decide) ?_
  refine VB_iconst (q := 71) dL_isRefused_70 rfl ?_
  refine VB_iconst (q := 72) dL_isRefused_71 rfl ?_
  refine VB_iconst (q := 73) dL_isRefused_72 rfl ?_
  refine VB_iconst (q := 74) dL_isRefused_73 rfl ?_
  refine VB_callUW (q := 77) dL_isRefused_74 (u_add_no (a := a) (c := c) (S := S) (b := b) (d := d) (F := F) ho hg55 (-1) 0 0 1 0 (by omega) (by omega) (by omega) (by omega) (by omega) (by unfold cAdd; rw [if_neg (by decide)])) yw_add rfl gL_isRefused_L_add xU_U rfl (Nat.le_of_ble_eq_true rfl) (by decide) ⟨by show _ ≤ 64; omega, by show _ ≤ 6 * 64; omega⟩ (fun x74 g74 hP74 hg74 => ?_)
  refine VB_lo (lo' := 1) (by show 1 ≤ 0 + 1; omega) ?_
  refine VB_top (y := iZ (-982)) hP74 ?_
  refine VB_sipush (q := 80) dL_isRefused_77 (by decide) rfl ?_
  refine VB_icmp_ne (q := 83) (tgt := 452) dL_isRefused_80 (by decide) (by decide) (by decide) (fun hc => absurd hc (by decide)) (fun _ => ?_)
  refine VB_aload_n (q := 84) dL_isRefused_83 0 rfl rfl ?_
  refine VB_iconst (q := 85) dL_isRefused_84 rfl ?_
  refine VB_iload_n (q := 86) dL_isRefused_85 3 rfl rfl ?_
  refine VB_if_eq (q := 89) (tgt := 93) dL_isRefused_86 (by decide) (by decide) (fun hc => absurd hc (by decide)) (fun _ => ?_)
  refine VB_iconst (q := 90) dL_isRefused_89 rfl ?_
  refine VB_goto (tgt := 95) dL_isRefused_90 (by decide) ?_
  refine VB_iconst (q := 96) dL_isRefused_95 rfl ?_
  refine VB_iconst (q := 97) dL_isRefused_96 rfl ?_
  refine VB_iconst (q := 98) dL_isRefused_97 rfl ?_
  refine VB_callUW (q := 101) dL_isRefused_98 (u_add_no (a := a) (c := c) (S := S) (b := b) (d := d) (F := F) ho hg74 0 (-1) 0 1 0 (by omega) (by omega) (by omega) (by omega) (by omega) (by unfold cAdd; rw [if_neg (by decide)])) yw_add rfl gL_isRefused_L_add xU_U rfl (Nat.le_of_ble_eq_true rfl) (by decide) ⟨by show _ ≤ 64; omega, by show _ ≤ 6 * 64; omega⟩ (fun x98 g98 hP98 hg98 => ?_)
  refine VB_lo (lo' := 2) (by show 2 ≤ 1 + 1; omega) ?_
  refine VB_top (y := iZ (-982)) hP98 ?_
  refine VB_sipush (q := 104) dL_isRefused_101 (by decide) rfl ?_
  refine VB_icmp_ne (q := 107) (tgt := 452) dL_isRefused_104 (by decide) (by decide) (by decide) (fun hc => absurd hc (by decide)) (fun _ => ?_)
  refine VB_aload_n (q := 108) dL_isRefused_107 0 rfl rfl ?_
  refine VB_iconst (q := 109) dL_isRefused_108 rfl ?_
  refine VB_iconst (q := 110) dL_isRefused_109 rfl ?_
  refine VB_iload_n (q := 111) dL_isRefused_110 3 rfl rfl ?_
  refine VB_if_eq (q := 114) (tgt := 118) dL_isRefused_111 (by decide) (by decide) (fun hc => absurd hc (by decide)) (fun _ => ?_)
  refine VB_iconst (q := 115) dL_isRefused_114 rfl ?_
  refine VB_goto (tgt := 120) dL_isRefused_115 (by decide) ?_
  refine VB_iconst (q := 121) dL_isRefused_120 rfl ?_
  refine VB_iconst (q := 122) dL_isRefused_121 rfl ?_
  refine VB_callUW (q := 125) dL_isRefused_122 (u_add_no (a := a) (c := c) (S := S) (b := b) (d := d) (F := F) ho hg98 0 0 (-1) 1 0 (by omega) (by omega) (by omega) (by omega) (by omega) (by unfold cAdd; rw [if_neg (by decide)])) yw_add rfl gL_isRefused_L_add xU_U rfl (Nat.le_of_ble_eq_true rfl) (by decide) ⟨by show _ ≤ 64; omega, by show _ ≤ 6 * 64; omega⟩ (fun x122 g122 hP122 hg122 => ?_)
  refine VB_lo (lo' := 3) (by show 3 ≤ 2 + 1; omega) ?_
  refine VB_top (y := iZ (-982)) hP122 ?_
  refine VB_sipush (q := 128) dL_isRefused_125 (by decide) rfl ?_
  refine VB_icmp_ne (q := 131) (tgt := 452) dL_isRefused_128 (by decide) (by decide) (by decide) (fun hc => absurd hc (by decide)) (fun _ => ?_)
  refine VB_aload_n (q := 132) dL_isRefused_131 0 rfl rfl ?_
  refine VB_iconst (q := 133) dL_isRefused_132 rfl ?_
  refine VB_iconst (q := 134) dL_isRefused_133 rfl ?_
  refine VB_iconst (q := 135) dL_isRefused_134 rfl ?_
  refine VB_iload_n (q := 136) dL_isRefused_135 3 rfl rfl ?_
  refine VB_if_eq (q := 139) (tgt := 143) dL_isRefused_136 (by decide) (by decide) (fun hc => absurd hc (by decide)) (fun _ => ?_)
  refine VB_iconst (q := 140) dL_isRefused_139 rfl ?_
  refine VB_goto (tgt := 145) dL_isRefused_140 (by decide) ?_
  refine VB_iconst (q := 146) dL_isRefused_145 rfl ?_
  refine VB_callUW (q := 149) dL_isRefused_146 (u_add_no (a := a) (c := c) (S := S) (b := b) (d := d) (F := F) ho hg122 0 0 0 0 0 (by omega) (by omega) (by omega) (by omega) (by omega) (by unfold cAdd; rw [if_neg (by decide)])) yw_add rfl gL_isRefused_L_add xU_U rfl (Nat.le_of_ble_eq_true rfl) (by decide) ⟨by show _ ≤ 64; omega, by show _ ≤ 6 * 64; omega⟩ (fun x146 g146 hP146 hg146 => ?_)
  refine VB_lo (lo' := 4) (by show 4 ≤ 3 + 1; omega) ?_
  refine VB_top (y := iZ (-982)) hP146 ?_
  refine VB_sipush (q := 152) dL_isRefused_149 (by decide) rfl ?_
  refine VB_icmp_ne (q := 155) (tgt := 452) dL_isRefused_152 (by decide) (by decide) (by decide) (fun hc => absurd hc (by decide)) (fun _ => ?_)
  refine VB_aload_n (q := 156) dL_isRefused_155 0 rfl rfl ?_
  refine VB_iconst (q := 157) dL_isRefused_156 rfl ?_
  refine VB_iconst (q := 158) dL_isRefused_157 rfl ?_
  refine VB_iconst (q := 159) dL_isRefused_158 rfl ?_
  refine VB_iconst (q := 160) dL_isRefused_159 rfl ?_
  refine VB_iload_n (q := 161) dL_isRefused_160 3 rfl rfl ?_
  refine VB_if_eq (q := 164) (tgt := 168) dL_isRefused_161 (by decide) (by decide) (fun hc => absurd hc (by decide)) (fun _ => ?_)
  refine VB_iconst (q := 165) dL_isRefused_164 rfl ?_
  refine VB_goto (tgt := 169) dL_isRefused_165 (by decide) ?_
  refine VB_callUW (q := 172) dL_isRefused_169 (u_add_no (a := a) (c := c) (S := S) (b := b) (d := d) (F := F) ho hg146 0 0 0 1 (-1) (by omega) (by omega) (by omega) (by omega) (by omega) (by unfold cAdd; rw [if_neg (by decide)])) yw_add rfl gL_isRefused_L_add xU_U rfl (Nat.le_of_ble_eq_true rfl) (by decide) ⟨by show _ ≤ 64; omega, by show _ ≤ 6 * 64; omega⟩ (fun x169 g169 hP169 hg169 => ?_)
  refine VB_lo (lo' := 5) (by show 5 ≤ 4 + 1; omega) ?_
  refine VB_top (y := iZ (-982)) hP169 ?_
  refine VB_sipush (q := 175) dL_isRefused_172 (by decide) rfl ?_
  refine VB_icmp_ne (q := 178) (tgt := 452) dL_isRefused_175 (by decide) (by decide) (by decide) (fun hc => absurd hc (by decide)) (fun _ => ?_)
  refine VB_aload_n (q := 179) dL_isRefused_178 1 rfl rfl ?_
  refine VB_iconst (q := 180) dL_isRefused_179 rfl ?_
  refine VB_iald (q := 181) (v := (iZ 1)) dL_isRefused_180 13 12 rfl rfl (0) (by omega) (by omega) (by decide) (hM0) rfl ?_
  refine VB_bipush (q := 183) dL_isRefused_181 (by decide) rfl ?_
  refine VB_icmp_lt (q := 186) (tgt := 201) dL_isRefused_183 (by decide) (by decide) (by decide) (fun _ => ?_) (fun hc => absurd hc (by decide))
  refine VB_aload_n (q := 202) dL_isRefused_201 0 rfl rfl ?_
  refine VB_iconst (q := 203) dL_isRefused_202 rfl ?_
  refine VB_iload (q := 205) dL_isRefused_203 4 rfl rfl ?_
  refine VB_iconst (q := 206) dL_isRefused_205 rfl ?_
  refine VB_callUW (q := 209) dL_isRefused_206 (u_of0_no (a := a) (c := c) (S := S) (b := b) (d := d) (F := F) ho hg169 (-11) 0 (by omega) (by omega) (by unfold cHas; rw [iv_no hI (x := (-11)) (by omega)]; rfl)) yw_of rfl gL_isRefused_L_of xU_U rfl (Nat.le_of_ble_eq_true rfl) (by decide) ⟨by show _ ≤ 64; omega, by show _ ≤ 6 * 64; omega⟩ (fun x206 g206 hP206 hg206 => ?_)
  refine VB_lo (lo' := 6) (by show 6 ≤ 5 + 1; omega) ?_
  refine VB_top (y := iZ (-981)) hP206 ?_
  refine VB_sipush (q := 212) dL_isRefused_209 (by decide) rfl ?_
  refine VB_icmp_ne (q := 215) (tgt := 452) dL_isRefused_212 (by decide) (by decide) (by decide) (fun hc => absurd hc (by decide)) (fun _ => ?_)
  refine VB_aload_n (q := 216) dL_isRefused_215 0 rfl rfl ?_
  refine VB_iconst (q := 217) dL_isRefused_216 rfl ?_
  refine VB_iload (q := 219) dL_isRefused_217 4 rfl rfl ?_
  refine VB_iconst (q := 220) dL_isRefused_219 rfl ?_
  refine VB_callUW (q := 223) dL_isRefused_220 (u_of1_no (a := a) (c := c) (S := S) (b := b) (d := d) (F := F) ho hg206 (-11) 0 (by omega) (by omega) (by unfold cHas; rw [iv_no hI (x := (-11)) (by omega)]; rfl)) yw_of rfl gL_isRefused_L_of xU_U rfl (Nat.le_of_ble_eq_true rfl) (by decide) ⟨by show _ ≤ 64; omega, by show _ ≤ 6 * 64; omega⟩ (fun x220 g220 hP220 hg220 => ?_)
  refine VB_lo (lo' := 7) (by show 7 ≤ 6 + 1; omega) ?_
  refine VB_top (y := iZ (-981)) hP220 ?_
  refine VB_sipush (q := 226) dL_isRefused_223 (by decide) rfl ?_
  refine VB_icmp_ne (q := 229) (tgt := 452) dL_isRefused_226 (by decide) (by decide) (by decide) (fun hc => absurd hc (by decide)) (fun _ => ?_)
  refine VB_aload_n (q := 230) dL_isRefused_229 0 rfl rfl ?_
  refine VB_iconst (q := 231) dL_isRefused_230 rfl ?_
  refine VB_iload_n (q := 232) dL_isRefused_231 3 rfl rfl ?_
  refine VB_if_eq (q := 235) (tgt := 244) dL_isRefused_232 (by decide) (by decide) (fun hc => absurd hc (by decide)) (fun _ => ?_)
  refine VB_iconst (q := 236) dL_isRefused_235 rfl ?_
  refine VB_iload_n (q := 237) dL_isRefused_236 2 rfl rfl ?_
  refine VB_bipush (q := 239) dL_isRefused_237 (by decide) rfl ?_
  refine VB_irem (q := 240) (a := 10) (b := 30) dL_isRefused_239 (by omega) (by decide) (by decide) rfl ?_
  refine VB_top (y := iZ 10) rfl ?_
  refine VB_isub (q := 241) dL_isRefused_240 rfl ?_
  refine VB_top (y := iZ (-11)) rfl ?_
  refine VB_goto (tgt := 251) dL_isRefused_241 (by decide) ?_
  refine VB_iconst (q := 252) dL_isRefused_251 rfl ?_
  refine VB_callUW (q := 255) dL_isRefused_252 (u_of2_no (a := a) (c := c) (S := S) (b := b) (d := d) (F := F) ho hg220 (-11) 0 (by omega) (by omega) (by unfold cOut; rw [if_neg (by decide)])) yw_of rfl gL_isRefused_L_of xU_U rfl (Nat.le_of_ble_eq_true rfl) (by decide) ⟨by show _ ≤ 64; omega, by show _ ≤ 6 * 64; omega⟩ (fun x252 g252 hP252 hg252 => ?_)
  refine VB_lo (lo' := 8) (by show 8 ≤ 7 + 1; omega) ?_
  refine VB_top (y := iZ (-982)) hP252 ?_
  refine VB_sipush (q := 258) dL_isRefused_255 (by decide) rfl ?_
  refine VB_icmp_ne (q := 261) (tgt := 452) dL_isRefused_258 (by decide) (by decide) (by decide) (fun hc => absurd hc (by decide)) (fun _ => ?_)
  refine VB_aload_n (q := 262) dL_isRefused_261 0 rfl rfl ?_
  refine VB_iconst (q := 263) dL_isRefused_262 rfl ?_
  refine VB_iload (q := 265) dL_isRefused_263 4 rfl rfl ?_
  refine VB_iconst (q := 266) dL_isRefused_265 rfl ?_
  refine VB_callUW (q := 269) dL_isRefused_266 (u_of3_no (a := a) (c := c) (S := S) (b := b) (d := d) (F := F) ho hg252 (-11) (-1) (by omega) (by omega) (by unfold cAdds; rw [iv_no hI (x := (-11)) (by omega)]; rfl)) yw_of rfl gL_isRefused_L_of xU_U rfl (Nat.le_of_ble_eq_true rfl) (by decide) ⟨by show _ ≤ 64; omega, by show _ ≤ 6 * 64; omega⟩ (fun x266 g266 hP266 hg266 => ?_)
  refine VB_lo (lo' := 9) (by show 9 ≤ 8 + 1; omega) ?_
  refine VB_top (y := iZ (-981)) hP266 ?_
  refine VB_sipush (q := 272) dL_isRefused_269 (by decide) rfl ?_
  refine VB_icmp_ne (q := 275) (tgt := 452) dL_isRefused_272 (by decide) (by decide) (by decide) (fun hc => absurd hc (by decide)) (fun _ => ?_)
  refine VB_aload_n (q := 276) dL_isRefused_275 0 rfl rfl ?_
  refine VB_iconst (q := 277) dL_isRefused_276 rfl ?_
  refine VB_iload_n (q := 278) dL_isRefused_277 3 rfl rfl ?_
  refine VB_if_eq (q := 281) (tgt := 285) dL_isRefused_278 (by decide) (by decide) (fun hc => absurd hc (by decide)) (fun _ => ?_)
  refine VB_iconst (q := 282) dL_isRefused_281 rfl ?_
  refine VB_goto (tgt := 287) dL_isRefused_282 (by decide) ?_
  refine VB_iconst (q := 288) dL_isRefused_287 rfl ?_
  refine VB_callUW (q := 291) dL_isRefused_288 (u_of4_no (a := a) (c := c) (S := S) (b := b) (d := d) (F := F) ho hg266 (-1) 0 (by omega) (by omega) (by unfold cFor; rw [if_neg (by decide)])) yw_of rfl gL_isRefused_L_of xU_U rfl (Nat.le_of_ble_eq_true rfl) (by decide) ⟨by show _ ≤ 64; omega, by show _ ≤ 6 * 64; omega⟩ (fun x288 g288 hP288 hg288 => ?_)
  refine VB_lo (lo' := 10) (by show 10 ≤ 9 + 1; omega) ?_
  refine VB_top (y := iZ (-982)) hP288 ?_
  refine VB_sipush (q := 294) dL_isRefused_291 (by decide) rfl ?_
  refine VB_icmp_ne (q := 297) (tgt := 452) dL_isRefused_294 (by decide) (by decide) (by decide) (fun hc => absurd hc (by decide)) (fun _ => ?_)
  refine VB_aload_n (q := 298) dL_isRefused_297 0 rfl rfl ?_
  refine VB_iconst (q := 299) dL_isRefused_298 rfl ?_
  refine VB_iconst (q := 300) dL_isRefused_299 rfl ?_
  refine VB_iload_n (q := 301) dL_isRefused_300 3 rfl rfl ?_
  refine VB_if_eq (q := 304) (tgt := 313) dL_isRefused_301 (by decide) (by decide) (fun hc => absurd hc (by decide)) (fun _ => ?_)
  refine VB_iconst (q := 305) dL_isRefused_304 rfl ?_
  refine VB_iload_n (q := 306) dL_isRefused_305 2 rfl rfl ?_
  refine VB_bipush (q := 308) dL_isRefused_306 (by decide) rfl ?_
  refine VB_irem (q := 309) (a := 10) (b := 30) dL_isRefused_308 (by omega) (by decide) (by decide) rfl ?_
  refine VB_top (y := iZ 10) rfl ?_
  refine VB_isub (q := 310) dL_isRefused_309 rfl ?_
  refine VB_top (y := iZ (-11)) rfl ?_
  refine VB_goto (tgt := 321) dL_isRefused_310 (by decide) ?_
  refine VB_callUW (q := 324) dL_isRefused_321 (u_of4_no (a := a) (c := c) (S := S) (b := b) (d := d) (F := F) ho hg288 0 (-11) (by omega) (by omega) (by unfold cFor; rw [if_neg (by decide)])) yw_of rfl gL_isRefused_L_of xU_U rfl (Nat.le_of_ble_eq_true rfl) (by decide) ⟨by show _ ≤ 64; omega, by show _ ≤ 6 * 64; omega⟩ (fun x321 g321 hP321 hg321 => ?_)
  refine VB_lo (lo' := 11) (by show 11 ≤ 10 + 1; omega) ?_
  refine VB_top (y := iZ (-982)) hP321 ?_
  refine VB_sipush (q := 327) dL_isRefused_324 (by decide) rfl ?_
  refine VB_icmp_ne (q := 330) (tgt := 452) dL_isRefused_327 (by decide) (by decide) (by decide) (fun hc => absurd hc (by decide)) (fun _ => ?_)
  refine VB_aload_n (q := 331) dL_isRefused_330 0 rfl rfl ?_
  refine VB_iconst (q := 332) dL_isRefused_331 rfl ?_
  refine VB_iload_n (q := 333) dL_isRefused_332 3 rfl rfl ?_
  refine VB_if_eq (q := 336) (tgt := 340) dL_isRefused_333 (by decide) (by decide) (fun hc => absurd hc (by decide)) (fun _ => ?_)
  refine VB_iconst (q := 337) dL_isRefused_336 rfl ?_
  refine VB_goto (tgt := 341) dL_isRefused_337 (by decide) ?_
  refine VB_iconst (q := 342) dL_isRefused_341 rfl ?_
  refine VB_callUW (q := 345) dL_isRefused_342 (u_of5_no (a := a) (c := c) (S := S) (b := b) (d := d) (F := F) ho hg321 (-1) (by omega) (by unfold cCare; rw [if_neg (by decide)])) yw_of rfl gL_isRefused_L_of xU_U rfl (Nat.le_of_ble_eq_true rfl) (by decide) ⟨by show _ ≤ 64; omega, by show _ ≤ 6 * 64; omega⟩ (fun x342 g342 hP342 hg342 => ?_)
  refine VB_lo (lo' := 12) (by show 12 ≤ 11 + 1; omega) ?_
  refine VB_top (y := iZ (-982)) hP342 ?_
  refine VB_sipush (q := 348) dL_isRefused_345 (by decide) rfl ?_
  refine VB_icmp_ne (q := 351) (tgt := 452) dL_isRefused_348 (by decide) (by decide) (by decide) (fun hc => absurd hc (by decide)) (fun _ => ?_)
  refine VB_aload_n (q := 352) dL_isRefused_351 0 rfl rfl ?_
  refine VB_bipush (q := 354) dL_isRefused_352 (by decide) rfl ?_
  refine VB_iload_n (q := 355) dL_isRefused_354 3 rfl rfl ?_
  refine VB_if_eq (q := 358) (tgt := 362) dL_isRefused_355 (by decide) (by decide) (fun hc => absurd hc (by decide)) (fun _ => ?_)
  refine VB_iconst (q := 359) dL_isRefused_358 rfl ?_
  refine VB_goto (tgt := 363) dL_isRefused_359 (by decide) ?_
  refine VB_iconst (q := 364) dL_isRefused_363 rfl ?_
  refine VB_callUW (q := 367) dL_isRefused_364 (u_of6_no (a := a) (c := c) (S := S) (b := b) (d := d) (F := F) ho hg342 (-1) (by omega) (by unfold cCare; rw [if_neg (by decide)])) yw_of rfl gL_isRefused_L_of xU_U rfl (Nat.le_of_ble_eq_true rfl) (by decide) ⟨by show _ ≤ 64; omega, by show _ ≤ 6 * 64; omega⟩ (fun x364 g364 hP364 hg364 => ?_)
  refine VB_lo (lo' := 13) (by show 13 ≤ 12 + 1; omega) ?_
  refine VB_top (y := iZ (-982)) hP364 ?_
  refine VB_sipush (q := 370) dL_isRefused_367 (by decide) rfl ?_
  refine VB_icmp_ne (q := 373) (tgt := 452) dL_isRefused_370 (by decide) (by decide) (by decide) (fun hc => absurd hc (by decide)) (fun _ => ?_)
  refine VB_aload_n (q := 374) dL_isRefused_373 0 rfl rfl ?_
  refine VB_bipush (q := 376) dL_isRefused_374 (by decide) rfl ?_
  refine VB_iload_n (q := 377) dL_isRefused_376 3 rfl rfl ?_
  refine VB_if_eq (q := 380) (tgt := 389) dL_isRefused_377 (by decide) (by decide) (fun hc => absurd hc (by decide)) (fun _ => ?_)
  refine VB_iconst (q := 381) dL_isRefused_380 rfl ?_
  refine VB_iload_n (q := 382) dL_isRefused_381 2 rfl rfl ?_
  refine VB_bipush (q := 384) dL_isRefused_382 (by decide) rfl ?_
  refine VB_irem (q := 385) (a := 10) (b := 30) dL_isRefused_384 (by omega) (by decide) (by decide) rfl ?_
  refine VB_top (y := iZ 10) rfl ?_
  refine VB_isub (q := 386) dL_isRefused_385 rfl ?_
  refine VB_top (y := iZ (-10)) rfl ?_
  refine VB_goto (tgt := 392) dL_isRefused_386 (by decide) ?_
  refine VB_iconst (q := 393) dL_isRefused_392 rfl ?_
  refine VB_callUW (q := 396) dL_isRefused_393 (u_of7_no (a := a) (c := c) (S := S) (b := b) (d := d) (F := F) ho hg364 (-10) 0 (by omega) (by omega) (by unfold cPass; rw [if_neg (by decide)])) yw_of rfl gL_isRefused_L_of xU_U rfl (Nat.le_of_ble_eq_true rfl) (by decide) ⟨by show _ ≤ 64; omega, by show _ ≤ 6 * 64; omega⟩ (fun x393 g393 hP393 hg393 => ?_)
  refine VB_lo (lo' := 14) (by show 14 ≤ 13 + 1; omega) ?_
  refine VB_top (y := iZ (-982)) hP393 ?_
  refine VB_sipush (q := 399) dL_isRefused_396 (by decide) rfl ?_
  refine VB_icmp_ne (q := 402) (tgt := 452) dL_isRefused_399 (by decide) (by decide) (by decide) (fun hc => absurd hc (by decide)) (fun _ => ?_)
  refine VB_aload_n (q := 403) dL_isRefused_402 0 rfl rfl ?_
  refine VB_bipush (q := 405) dL_isRefused_403 (by decide) rfl ?_
  refine VB_iload_n (q := 406) dL_isRefused_405 3 rfl rfl ?_
  refine VB_if_eq (q := 409) (tgt := 413) dL_isRefused_406 (by decide) (by decide) (fun hc => absurd hc (by decide)) (fun _ => ?_)
  refine VB_iconst (q := 410) dL_isRefused_409 rfl ?_
  refine VB_goto (tgt := 415) dL_isRefused_410 (by decide) ?_
  refine VB_iconst (q := 416) dL_isRefused_415 rfl ?_
  refine VB_callUW (q := 419) dL_isRefused_416 (u_of8_no (a := a) (c := c) (S := S) (b := b) (d := d) (F := F) ho hg393 0 0 (by omega) (by omega) (by unfold cBag; rw [if_neg (by decide)])) yw_of rfl gL_isRefused_L_of xU_U rfl (Nat.le_of_ble_eq_true rfl) (by decide) ⟨by show _ ≤ 64; omega, by show _ ≤ 6 * 64; omega⟩ (fun x416 g416 hP416 hg416 => ?_)
  refine VB_lo (lo' := 15) (by show 15 ≤ 14 + 1; omega) ?_
  refine VB_top (y := iZ (-982)) hP416 ?_
  refine VB_sipush (q := 422) dL_isRefused_419 (by decide) rfl ?_
  refine VB_icmp_ne (q := 425) (tgt := 452) dL_isRefused_422 (by decide) (by decide) (by decide) (fun hc => absurd hc (by decide)) (fun _ => ?_)
  refine VB_aload_n (q := 426) dL_isRefused_425 0 rfl rfl ?_
  refine VB_bipush (q := 428) dL_isRefused_426 (by decide) rfl ?_
  refine VB_iconst (q := 429) dL_isRefused_428 rfl ?_
  refine VB_iload_n (q := 430) dL_isRefused_429 3 rfl rfl ?_
  refine VB_if_eq (q := 433) (tgt := 437) dL_isRefused_430 (by decide) (by decide) (fun hc => absurd hc (by decide)) (fun _ => ?_)
  refine VB_iconst (q := 434) dL_isRefused_433 rfl ?_
  refine VB_goto (tgt := 439) dL_isRefused_434 (by decide) ?_
  refine VB_callUW (q := 442) dL_isRefused_439 (u_of8_no (a := a) (c := c) (S := S) (b := b) (d := d) (F := F) ho hg416 1 (-1) (by omega) (by omega) (by unfold cBag; rw [if_neg (by decide)])) yw_of rfl gL_isRefused_L_of xU_U rfl (Nat.le_of_ble_eq_true rfl) (by decide) ⟨by show _ ≤ 64; omega, by show _ ≤ 6 * 64; omega⟩ (fun x439 g439 hP439 hg439 => ?_)
  refine VB_lo (lo' := 16) (by show 16 ≤ 15 + 1; omega) ?_
  refine VB_top (y := iZ (-982)) hP439 ?_
  refine VB_sipush (q := 445) dL_isRefused_442 (by decide) rfl ?_
  refine VB_icmp_ne (q := 448) (tgt := 452) dL_isRefused_445 (by decide) (by decide) (by decide) (fun hc => absurd hc (by decide)) (fun _ => ?_)
  refine VB_iconst (q := 449) dL_isRefused_448 rfl ?_
  refine VB_goto (tgt := 453) dL_isRefused_449 (by decide) ?_
  refine VB_istore (q := 455) (lv' := [(0, _), (1, _), (2, _), (3, _), (4, _), (5, _), (6, _), (8, _)]) dL_isRefused_453 (by decide) rfl rfl ?_
  refine VB_iload (q := 457) dL_isRefused_455 7 rfl rfl ?_
  refine VB_if_eq (q := 460) (tgt := 665) dL_isRefused_457 (by decide) (by decide) (fun hc => absurd hc (by decide)) (fun _ => ?_)
  refine VB_aload_n (q := 461) dL_isRefused_460 0 rfl rfl ?_
  refine VB_iconst (q := 462) dL_isRefused_461 rfl ?_
  refine VB_iload_n (q := 463) dL_isRefused_462 3 rfl rfl ?_
  refine VB_if_eq (q := 466) (tgt := 470) dL_isRefused_463 (by decide) (by decide) (fun hc => absurd hc (by decide)) (fun _ => ?_)
  refine VB_iconst (q := 467) dL_isRefused_466 rfl ?_
  refine VB_goto (tgt := 472) dL_isRefused_467 (by decide) ?_
  refine VB_iconst (q := 473) dL_isRefused_472 rfl ?_
  refine VB_iconst (q := 474) dL_isRefused_473 rfl ?_
  refine VB_callUW (q := 477) dL_isRefused_474 (u_yes0_no (a := a) (c := c) (S := S) (b := b) (d := d) (F := F) ho hg439 (-1) 0 (by omega) (by omega) (by unfold cClash; rw [if_neg (by decide)])) yw_yes rfl gL_isRefused_L_yes xU_U rfl (Nat.le_of_ble_eq_true rfl) (by decide) ⟨by show _ ≤ 64; omega, by show _ ≤ 6 * 64; omega⟩ (fun x474 g474 hP474 hg474 => ?_)
  refine VB_lo (lo' := 17) (by show 17 ≤ 16 + 1; omega) ?_
  refine VB_top (y := iZ (-982)) hP474 ?_
  refine VB_sipush (q := 480) dL_isRefused_477 (by decide) rfl ?_
  refine VB_icmp_ne (q := 483) (tgt := 665) dL_isRefused_480 (by decide) (by decide) (by decide) (fun hc => absurd hc (by decide)) (fun _ => ?_)
  refine VB_aload_n (q := 484) dL_isRefused_483 0 rfl rfl ?_
  refine VB_iconst (q := 485) dL_isRefused_484 rfl ?_
  refine VB_iconst (q := 486) dL_isRefused_485 rfl ?_
  refine VB_iload_n (q := 487) dL_isRefused_486 3 rfl rfl ?_
  refine VB_if_eq (q := 490) (tgt := 494) dL_isRefused_487 (by decide) (by decide) (fun hc => absurd hc (by decide)) (fun _ => ?_)
  refine VB_iconst (q := 491) dL_isRefused_490 rfl ?_
  refine VB_goto (tgt := 496) dL_isRefused_491 (by decide) ?_
  refine VB_iconst (q := 497) dL_isRefused_496 rfl ?_
  refine VB_callUW (q := 500) dL_isRefused_497 (u_yes0_no (a := a) (c := c) (S := S) (b := b) (d := d) (F := F) ho hg474 0 (-1) (by omega) (by omega) (by unfold cClash; rw [if_neg (by decide)])) yw_yes rfl gL_isRefused_L_yes xU_U rfl (Nat.le_of_ble_eq_true rfl) (by decide) ⟨by show _ ≤ 64; omega, by show _ ≤ 6 * 64; omega⟩ (fun x497 g497 hP497 hg497 => ?_)
  refine VB_lo (lo' := 18) (by show 18 ≤ 17 + 1; omega) ?_
  refine VB_top (y := iZ (-982)) hP497 ?_
  refine VB_sipush (q := 503) dL_isRefused_500 (by decide) rfl ?_
  refine VB_icmp_ne (q := 506) (tgt := 665) dL_isRefused_503 (by decide) (by decide) (by decide) (fun hc => absurd hc (by decide)) (fun _ => ?_)
  refine VB_aload_n (q := 507) dL_isRefused_506 0 rfl rfl ?_
  refine VB_iconst (q := 508) dL_isRefused_507 rfl ?_
  refine VB_iconst (q := 509) dL_isRefused_508 rfl ?_
  refine VB_iload_n (q := 510) dL_isRefused_509 3 rfl rfl ?_
  refine VB_if_eq (q := 513) (tgt := 517) dL_isRefused_510 (by decide) (by decide) (fun hc => absurd hc (by decide)) (fun _ => ?_)
  refine VB_iconst (q := 514) dL_isRefused_513 rfl ?_
  refine VB_goto (tgt := 519) dL_isRefused_514 (by decide) ?_
  refine VB_iconst (q := 520) dL_isRefused_519 rfl ?_
  refine VB_callUW (q := 523) dL_isRefused_520 (u_yes1_no (a := a) (c := c) (S := S) (b := b) (d := d) (F := F) ho hg497 (iZ 0) 0 0 (by omega) (by omega) (cEn_b (by decide))) yw_yes rfl gL_isRefused_L_yes xU_U rfl (Nat.le_of_ble_eq_true rfl) (by decide) ⟨by show _ ≤ 64; omega, by show _ ≤ 6 * 64; omega⟩ (fun x520 g520 hP520 hg520 => ?_)
  refine VB_lo (lo' := 19) (by show 19 ≤ 18 + 1; omega) ?_
  refine VB_top (y := iZ (-982)) hP520 ?_
  refine VB_sipush (q := 526) dL_isRefused_523 (by decide) rfl ?_
  refine VB_icmp_ne (q := 529) (tgt := 665) dL_isRefused_526 (by decide) (by decide) (by decide) (fun hc => absurd hc (by decide)) (fun _ => ?_)
  refine VB_aload_n (q := 530) dL_isRefused_529 0 rfl rfl ?_
  refine VB_iconst (q := 531) dL_isRefused_530 rfl ?_
  refine VB_iconst (q := 532) dL_isRefused_531 rfl ?_
  refine VB_iconst (q := 533) dL_isRefused_532 rfl ?_
  refine VB_iload_n (q := 534) dL_isRefused_533 3 rfl rfl ?_
  refine VB_if_eq (q := 537) (tgt := 541) dL_isRefused_534 (by decide) (by decide) (fun hc => absurd hc (by decide)) (fun _ => ?_)
  refine VB_iconst (q := 538) dL_isRefused_537 rfl ?_
  refine VB_goto (tgt := 543) dL_isRefused_538 (by decide) ?_
  refine VB_callUW (q := 546) dL_isRefused_543 (u_yes1_no (a := a) (c := c) (S := S) (b := b) (d := d) (F := F) ho hg520 (iZ 0) 1 (-1) (by omega) (by omega) (cEn_b (by decide))) yw_yes rfl gL_isRefused_L_yes xU_U rfl (Nat.le_of_ble_eq_true rfl) (by decide) ⟨by show _ ≤ 64; omega, by show _ ≤ 6 * 64; omega⟩ (fun x543 g543 hP543 hg543 => ?_)
  refine VB_lo (lo' := 20) (by show 20 ≤ 19 + 1; omega) ?_
  refine VB_top (y := iZ (-982)) hP543 ?_
  refine VB_sipush (q := 549) dL_isRefused_546 (by decide) rfl ?_
  refine VB_icmp_ne (q := 552) (tgt := 665) dL_isRefused_549 (by decide) (by decide) (by decide) (fun hc => absurd hc (by decide)) (fun _ => ?_)
  refine VB_aload_n (q := 553) dL_isRefused_552 0 rfl rfl ?_
  refine VB_iconst (q := 554) dL_isRefused_553 rfl ?_
  refine VB_iconst (q := 555) dL_isRefused_554 rfl ?_
  refine VB_bipush (q := 557) dL_isRefused_555 (by decide) rfl ?_
  refine VB_iload_n (q := 558) dL_isRefused_557 2 rfl rfl ?_
  refine VB_bipush (q := 560) dL_isRefused_558 (by decide) rfl ?_
  refine VB_irem (q := 561) (a := 10) (b := 19) dL_isRefused_560 (by omega) (by decide) (by decide) rfl ?_
  refine VB_top (y := iZ 10) rfl ?_
  refine VB_iadd (q := 562) dL_isRefused_561 rfl ?_
  refine VB_top (y := iZ 22) rfl ?_
  refine VB_ishl (q := 563) dL_isRefused_562 rfl ?_
  refine VB_top (y := iZ 4194304) (by decide +kernel) ?_
  refine VB_iconst (q := 564) dL_isRefused_563 rfl ?_
  refine VB_iconst (q := 565) dL_isRefused_564 rfl ?_
  refine VB_callUW (q := 568) dL_isRefused_565 (u_yes1_no (a := a) (c := c) (S := S) (b := b) (d := d) (F := F) ho hg543 (iZ 4194304) 1 1 (by omega) (by omega) (cEn_x (by decide +kernel))) yw_yes rfl gL_isRefused_L_yes xU_U rfl (Nat.le_of_ble_eq_true rfl) (by decide) ⟨by show _ ≤ 64; omega, by show _ ≤ 6 * 64; omega⟩ (fun x565 g565 hP565 hg565 => ?_)
  refine VB_lo (lo' := 21) (by show 21 ≤ 20 + 1; omega) ?_
  refine VB_top (y := iZ (-982)) hP565 ?_
  refine VB_sipush (q := 571) dL_isRefused_568 (by decide) rfl ?_
  refine VB_icmp_ne (q := 574) (tgt := 665) dL_isRefused_571 (by decide) (by decide) (by decide) (fun hc => absurd hc (by decide)) (fun _ => ?_)
  refine VB_aload_n (q := 575) dL_isRefused_574 0 rfl rfl ?_
  refine VB_iconst (q := 576) dL_isRefused_575 rfl ?_
  refine VB_iconst (q := 577) dL_isRefused_576 rfl ?_
  refine VB_iload_n (q := 578) dL_isRefused_577 2 rfl rfl ?_
  refine VB_bipush (q := 580) dL_isRefused_578 (by decide) rfl ?_
  refine VB_irem (q := 581) (a := 10) (b := 30) dL_isRefused_580 (by omega) (by decide) (by decide) rfl ?_
  refine VB_top (y := iZ 10) rfl ?_
  refine VB_isub (q := 582) dL_isRefused_581 rfl ?_
  refine VB_top (y := iZ (-11)) rfl ?_
  refine VB_iconst (q := 583) dL_isRefused_582 rfl ?_
  refine VB_iconst (q := 584) dL_isRefused_583 rfl ?_
  refine VB_callUW (q := 587) dL_isRefused_584 (u_yes1_no (a := a) (c := c) (S := S) (b := b) (d := d) (F := F) ho hg565 (iZ (-11)) 1 1 (by omega) (by omega) (cEn_x (by decide +kernel))) yw_yes rfl gL_isRefused_L_yes xU_U rfl (Nat.le_of_ble_eq_true rfl) (by decide) ⟨by show _ ≤ 64; omega, by show _ ≤ 6 * 64; omega⟩ (fun x584 g584 hP584 hg584 => ?_)
  refine VB_lo (lo' := 22) (by show 22 ≤ 21 + 1; omega) ?_
  refine VB_top (y := iZ (-982)) hP584 ?_
  refine VB_sipush (q := 590) dL_isRefused_587 (by decide) rfl ?_
  refine VB_icmp_ne (q := 593) (tgt := 665) dL_isRefused_590 (by decide) (by decide) (by decide) (fun hc => absurd hc (by decide)) (fun _ => ?_)
  refine VB_aload_n (q := 594) dL_isRefused_593 0 rfl rfl ?_
  refine VB_iconst (q := 595) dL_isRefused_594 rfl ?_
  refine VB_iload (q := 597) dL_isRefused_595 4 rfl rfl ?_
  refine VB_iconst (q := 598) dL_isRefused_597 rfl ?_
  refine VB_iconst (q := 599) dL_isRefused_598 rfl ?_
  refine VB_iconst (q := 600) dL_isRefused_599 rfl ?_
  refine VB_callUW (q := 603) dL_isRefused_600 (u_out0_nob (a := a) (c := c) (S := S) (b := b) (d := d) (F := F) ho hg584 (-11) 0 (-1) 0 (by omega) (by omega) (by omega) (by omega) (wrZ_no hI (by omega))) yw_outfit rfl gL_isRefused_L_outfit xU_U rfl (Nat.le_of_ble_eq_true rfl) (by decide) ⟨by show _ ≤ 64; omega, by show _ ≤ 6 * 64; omega⟩ (fun x600 g600 hP600 hg600 => ?_)
  refine VB_lo (lo' := 23) (by show 23 ≤ 22 + 1; omega) ?_
  refine VB_top (y := iZ (-981)) hP600 ?_
  refine VB_sipush (q := 606) dL_isRefused_603 (by decide) rfl ?_
  refine VB_icmp_ne (q := 609) (tgt := 665) dL_isRefused_606 (by decide) (by decide) (by decide) (fun hc => absurd hc (by decide)) (fun _ => ?_)
  refine VB_aload_n (q := 610) dL_isRefused_609 0 rfl rfl ?_
  refine VB_iconst (q := 611) dL_isRefused_610 rfl ?_
  refine VB_iload (q := 613) dL_isRefused_611 4 rfl rfl ?_
  refine VB_iload (q := 615) dL_isRefused_613 4 rfl rfl ?_
  refine VB_iload (q := 617) dL_isRefused_615 5 rfl rfl ?_
  refine VB_iconst (q := 618) dL_isRefused_617 rfl ?_
  refine VB_callUW (q := 621) dL_isRefused_618 (u_out0_nob (a := a) (c := c) (S := S) (b := b) (d := d) (F := F) ho hg600 (-11) (-11) (-12) 0 (by omega) (by omega) (by omega) (by omega) (wrZ_no hI (by omega))) yw_outfit rfl gL_isRefused_L_outfit xU_U rfl (Nat.le_of_ble_eq_true rfl) (by decide) ⟨by show _ ≤ 64; omega, by show _ ≤ 6 * 64; omega⟩ (fun x618 g618 hP618 hg618 => ?_)
  refine VB_lo (lo' := 24) (by show 24 ≤ 23 + 1; omega) ?_
  refine VB_top (y := iZ (-981)) hP618 ?_
  refine VB_sipush (q := 624) dL_isRefused_621 (by decide) rfl ?_
  refine VB_icmp_ne (q := 627) (tgt := 665) dL_isRefused_624 (by decide) (by decide) (by decide) (fun hc => absurd hc (by decide)) (fun _ => ?_)
  refine VB_aload_n (q := 628) dL_isRefused_627 0 rfl rfl ?_
  refine VB_iconst (q := 629) dL_isRefused_628 rfl ?_
  refine VB_iload (q := 631) dL_isRefused_629 4 rfl rfl ?_
  refine VB_iconst (q := 632) dL_isRefused_631 rfl ?_
  refine VB_iconst (q := 633) dL_isRefused_632 rfl ?_
  refine VB_iconst (q := 634) dL_isRefused_633 rfl ?_
  refine VB_callUW (q := 637) dL_isRefused_634 (u_out1_nob (a := a) (c := c) (S := S) (b := b) (d := d) (F := F) ho hg618 (-11) 0 0 (-1) (by omega) (by omega) (by omega) (by omega) (cSoon_w (wrZ_no hI (by omega)))) yw_outfit rfl gL_isRefused_L_outfit xU_U rfl (Nat.le_of_ble_eq_true rfl) (by decide) ⟨by show _ ≤ 64; omega, by show _ ≤ 6 * 64; omega⟩ (fun x634 g634 hP634 hg634 => ?_)
  refine VB_lo (lo' := 25) (by show 25 ≤ 24 + 1; omega) ?_
  refine VB_top (y := iZ (-981)) hP634 ?_
  refine VB_sipush (q := 640) dL_isRefused_637 (by decide) rfl ?_
  refine VB_icmp_ne (q := 643) (tgt := 665) dL_isRefused_640 (by decide) (by decide) (by decide) (fun hc => absurd hc (by decide)) (fun _ => ?_)
  refine VB_aload_n (q := 644) dL_isRefused_643 0 rfl rfl ?_
  refine VB_iconst (q := 645) dL_isRefused_644 rfl ?_
  refine VB_iload (q := 647) dL_isRefused_645 4 rfl rfl ?_
  refine VB_iload (q := 649) dL_isRefused_647 4 rfl rfl ?_
  refine VB_iload (q := 651) dL_isRefused_649 5 rfl rfl ?_
  refine VB_iconst (q := 652) dL_isRefused_651 rfl ?_
  refine VB_callUW (q := 655) dL_isRefused_652 (u_out2_nob (a := a) (c := c) (S := S) (b := b) (d := d) (F := F) ho hg634 (-11) (-11) (-12) (-1) (by omega) (by omega) (by omega) (by omega) (cWear_w (wrZ_no hI (by omega)))) yw_outfit rfl gL_isRefused_L_outfit xU_U rfl (Nat.le_of_ble_eq_true rfl) (by decide) ⟨by show _ ≤ 64; omega, by show _ ≤ 6 * 64; omega⟩ (fun x652 g652 hP652 hg652 => ?_)
  refine VB_lo (lo' := 26) (by show 26 ≤ 25 + 1; omega) ?_
  refine VB_top (y := iZ (-981)) hP652 ?_
  refine VB_sipush (q := 658) dL_isRefused_655 (by decide) rfl ?_
  refine VB_icmp_ne (q := 661) (tgt := 665) dL_isRefused_658 (by decide) (by decide) (by decide) (fun hc => absurd hc (by decide)) (fun _ => ?_)
  refine VB_iconst (q := 662) dL_isRefused_661 rfl ?_
  refine VB_goto (tgt := 666) dL_isRefused_662 (by decide) ?_
  refine VB_istore (q := 668) (lv' := [(0, _), (1, _), (2, _), (3, _), (4, _), (5, _), (6, _), (8, _)]) dL_isRefused_666 (by decide) rfl rfl ?_
  refine VB_iload (q := 670) dL_isRefused_668 7 rfl rfl ?_
  refine VB_if_eq (q := 673) (tgt := 688) dL_isRefused_670 (by decide) (by decide) (fun hc => absurd hc (by decide)) (fun _ => ?_)
  refine VB_aload_n (q := 674) dL_isRefused_673 0 rfl rfl ?_
  refine VB_aload_n (q := 675) dL_isRefused_674 1 rfl rfl ?_
  refine VB_callUL (q := 678) dL_isRefused_675 (u_all (a := a) (c := c) (S := S) (b := b) (d := d) (F := F) hI hg652) yv_L_all rfl gL_isRefused_L_all xU_U rfl (Nat.le_of_ble_eq_true rfl) (by decide) ⟨by show _ ≤ 64; omega, by show _ ≤ 6 * 64; omega⟩ (fun x675 g675 hg675 => ?_)
  refine VB_lload (q := 680) dL_isRefused_678 6 rfl rfl ?_
  refine VB_lcmp (q := 681) dL_isRefused_680 rfl ?_
  refine VB_uany (fun u680 => ?_)
  refine VB_uif_ne (q := 684) (tgt := 688) dL_isRefused_681 (by decide) ?_ ?_
  · skip
    refine VB_iconst (q := 689) dL_isRefused_688 rfl ?_
    exact VB_widen (k' := 64) (n' := 6 * 64) (by omega) (by omega) (VB_zretU dL_isRefused_689 rfl rfl trivial (by decide) hg675 rfl)
  · skip
    refine VB_iconst (q := 685) dL_isRefused_684 rfl ?_
    refine VB_goto (tgt := 689) dL_isRefused_685 (by decide) ?_
    exact VB_widen (k' := 64) (n' := 6 * 64) (by omega) (by omega) (VB_zretU dL_isRefused_689 rfl rfl trivial (by decide) hg675 rfl)
set_option maxRecDepth 100000 in
set_option maxHeartbeats 8000000 in
theorem u_isRefused10b {a : Nat → Nat} {c : Nat → ClassId} {S : St} {b : Nat → Nat} {d : Nat → ClassId} {F : Nat → Nat → Int32} {g : Nat → Nat} (hI : Iv S F 4) (hg : ∀ j, g j < 4096) : CtU yL_isRefused wsL_isRefused (rmU 11 64) (tyl c d) [.ref (a 0), .ref (b 4), .int (iZ 10)] (wal a c S b d F g) (wal a c S b d F) (fun _ => True) (fun x => if x = 0 then 0 else 26) 64 := by
  obtain ⟨ho, hn, hm4, hM0, hG, hC⟩ := id hI
  refine CtU_of (own := RL) (by decide) rfl rfl (Nat.le_of_ble_eq_true rfl) ?_
  refine VB_lvq (lv' := [(0, _), (1, _), (2, _)]) rfl ?_
  refine VB_iload_n (q := 1) dL_isRefused_0 2 rfl rfl ?_
  refine VB_iconst (q := 2) dL_isRefused_1 rfl ?_
  refine VB_irem (q := 3) (a := 10) (b := 2) dL_isRefused_2 (by omega) (by decide) (by decide) rfl ?_
  refine VB_top (y := iZ 0) rfl ?_
  refine VB_if_ne (q := 6) (tgt := 10) dL_isRefused_3 (by decide) (by decide) (fun hc => absurd hc (by decide)) (fun _ => ?_)
  refine VB_iconst (q := 7) dL_isRefused_6 rfl ?_
  refine VB_goto (tgt := 11) dL_isRefused_7 (by decide) ?_
  refine VB_istore_n (q := 12) (lv' := [(0, _), (1, _), (2, _), (3, _)]) dL_isRefused_11 (by decide) rfl rfl ?_
  refine VB_iload_n (q := 13) dL_isRefused_12 3 rfl rfl ?_
  refine VB_if_eq (q := 16) (tgt := 25) dL_isRefused_13 (by decide) (by decide) (fun hc => absurd hc (by decide)) (fun _ => ?_)
  refine VB_iconst (q := 17) dL_isRefused_16 rfl ?_
  refine VB_iload_n (q := 18) dL_isRefused_17 2 rfl rfl ?_
  refine VB_bipush (q := 20) dL_isRefused_18 (by decide) rfl ?_
  refine VB_irem (q := 21) (a := 10) (b := 30) dL_isRefused_20 (by omega) (by decide) (by decide) rfl ?_
  refine VB_top (y := iZ 10) rfl ?_
  refine VB_isub (q := 22) dL_isRefused_21 rfl ?_
  refine VB_top (y := iZ (-11)) rfl ?_
  refine VB_goto (tgt := 33) dL_isRefused_22 (by decide) ?_
  refine VB_istore (q := 35) (lv' := [(0, _), (1, _), (2, _), (3, _), (4, _)]) dL_isRefused_33 (by decide) rfl rfl ?_
  refine VB_iload_n (q := 36) dL_isRefused_35 3 rfl rfl ?_
  refine VB_if_eq (q := 39) (tgt := 49) dL_isRefused_36 (by decide) (by decide) (fun hc => absurd hc (by decide)) (fun _ => ?_)
  refine VB_bipush (q := 41) dL_isRefused_39 (by decide) rfl ?_
  refine VB_iload_n (q := 42) dL_isRefused_41 2 rfl rfl ?_
  refine VB_bipush (q := 44) dL_isRefused_42 (by decide) rfl ?_
  refine VB_irem (q := 45) (a := 10) (b := 30) dL_isRefused_44 (by omega) (by decide) (by decide) rfl ?_
  refine VB_top (y := iZ 10) rfl ?_
  refine VB_isub (q := 46) dL_isRefused_45 rfl ?_
  refine VB_top (y := iZ (-12)) rfl ?_
  refine VB_goto (tgt := 51) dL_isRefused_46 (by decide) ?_
  refine VB_istore (q := 53) (lv' := [(0, _), (1, _), (2, _), (3, _), (4, _), (5, _)]) dL_isRefused_51 (by decide) rfl rfl ?_
  refine VB_aload_n (q := 54) dL_isRefused_53 0 rfl rfl ?_
  refine VB_aload_n (q := 55) dL_isRefused_54 1 rfl rfl ?_
  refine VB_callUL (q := 58) dL_isRefused_55 (u_all (a := a) (c := c) (S := S) (b := b) (d := d) (F := F) hI hg) yv_L_all rfl gL_isRefused_L_all xU_U rfl (Nat.le_of_ble_eq_true rfl) (by decide) ⟨by show _ ≤ 64; omega, by show _ ≤ 6 * 64; omega⟩ (fun x55 g55 hg55 => ?_)
  refine VB_lstore (q := 60) (lv' := [(0, _), (1, _), (2, _), (3, _), (4, _), (5, _), (6, _)]) dL_isRefused_58 (by decide) rfl rfl ?_
  refine VB_aload_n (q := 61) dL_isRefused_60 0 rfl rfl ?_
  refine VB_iload_n (q := 62) dL_isRefused_61 3 rfl rfl ?_
  refine VB_if_eq (q := 65) (tgt := 69) dL_isRefused_62 (by decide) (by decide) (fun hc => absurd hc (by decide)) (fun _ => ?_)
  refine VB_iconst (q := 66) dL_isRefused_65 rfl ?_
  refine VB_goto (tgt := 70) dL_isRefused_66 (by decide) ?_
  refine VB_iconst (q := 71) dL_isRefused_70 rfl ?_
  refine VB_iconst (q := 72) dL_isRefused_71 rfl ?_
  refine VB_iconst (q := 73) dL_isRefused_72 rfl ?_
  refine VB_iconst (q := 74) dL_isRefused_73 rfl ?_
  refine VB_callUW (q := 77) dL_isRefused_74 (u_add_no (a := a) (c := c) (S := S) (b := b) (d := d) (F := F) ho hg55 (-1) 0 0 1 0 (by omega) (by omega) (by omega) (by omega) (by omega) (by unfold cAdd; rw [if_neg (by decide)])) yw_add rfl gL_isRefused_L_add xU_U rfl (Nat.le_of_ble_eq_true rfl) (by decide) ⟨by show _ ≤ 64; omega, by show _ ≤ 6 * 64; omega⟩ (fun x74 g74 hP74 hg74 => ?_)
  refine VB_lo (lo' := 1) (by show 1 ≤ 0 + 1; omega) ?_
  refine VB_top (y := iZ (-982)) hP74 ?_
  refine VB_sipush (q := 80) dL_isRefused_77 (by decide) rfl ?_
  refine VB_icmp_ne (q := 83) (tgt := 452) dL_isRefused_80 (by decide) (by decide) (by decide) (fun hc => absurd hc (by decide)) (fun _ => ?_)
  refine VB_aload_n (q := 84) dL_isRefused_83 0 rfl rfl ?_
  refine VB_iconst (q := 85) dL_isRefused_84 rfl ?_
  refine VB_iload_n (q := 86) dL_isRefused_85 3 rfl rfl ?_
  refine VB_if_eq (q := 89) (tgt := 93) dL_isRefused_86 (by decide) (by decide) (fun hc => absurd hc (by decide)) (fun _ => ?_)
  refine VB_iconst (q := 90) dL_isRefused_89 rfl ?_
  refine VB_goto (tgt := 95) dL_isRefused_90 (by decide) ?_
  refine VB_iconst (q := 96) dL_isRefused_95 rfl ?_
  refine VB_iconst (q := 97) dL_isRefused_96 rfl ?_
  refine VB_iconst (q := 98) dL_isRefused_97 rfl ?_
  refine VB_callUW (q := 101) dL_isRefused_98 (u_add_no (a := a) (c := c) (S := S) (b := b) (d := d) (F := F) ho hg74 0 (-1) 0 1 0 (by omega) (by omega) (by omega) (by omega) (by omega) (by unfold cAdd; rw [if_neg (by decide)])) yw_add rfl gL_isRefused_L_add xU_U rfl (Nat.le_of_ble_eq_true rfl) (by decide) ⟨by show _ ≤ 64; omega, by show _ ≤ 6 * 64; omega⟩ (fun x98 g98 hP98 hg98 => ?_)
  refine VB_lo (lo' := 2) (by show 2 ≤ 1 + 1; omega) ?_
  refine VB_top (y := iZ (-982)) hP98 ?_
  refine VB_sipush (q := 104) dL_isRefused_101 (by decide) rfl ?_
  refine VB_icmp_ne (q := 107) (tgt := 452) dL_isRefused_104 (by decide) (by decide) (by decide) (fun hc => absurd hc (by decide)) (fun _ => ?_)
  refine VB_aload_n (q := 108) dL_isRefused_107 0 rfl rfl ?_
  refine VB_iconst (q := 109) dL_isRefused_108 rfl ?_
  refine VB_iconst (q := 110) dL_isRefused_109 rfl ?_
  refine VB_iload_n (q := 111) dL_isRefused_110 3 rfl rfl ?_
  refine VB_if_eq (q := 114) (tgt := 118) dL_isRefused_111 (by decide) (by decide) (fun hc => absurd hc (by decide)) (fun _ => ?_)
  refine VB_iconst (q := 115) dL_isRefused_114 rfl ?_
  refine VB_goto (tgt := 120) dL_isRefused_115 (by decide) ?_
  refine VB_iconst (q := 121) dL_isRefused_120 rfl ?_
  refine VB_iconst (q := 122) dL_isRefused_121 rfl ?_
  refine VB_callUW (q := 125) dL_isRefused_122 (u_add_no (a := a) (c := c) (S := S) (b := b) (d := d) (F := F) ho hg98 0 0 (-1) 1 0 (by omega) (by omega) (by omega) (by omega) (by omega) (by unfold cAdd; rw [if_neg (by decide)])) yw_add rfl gL_isRefused_L_add xU_U rfl (Nat.le_of_ble_eq_true rfl) (by decide) ⟨by show _ ≤ 64; omega, by show _ ≤ 6 * 64; omega⟩ (fun x122 g122 hP122 hg122 => ?_)
  refine VB_lo (lo' := 3) (by show 3 ≤ 2 + 1; omega) ?_
  refine VB_top (y := iZ (-982)) hP122 ?_
  refine VB_sipush (q := 128) dL_isRefused_125 (by decide) rfl ?_
  refine VB_icmp_ne (q := 131) (tgt := 452) dL_isRefused_128 (by decide) (by decide) (by decide) (fun hc => absurd hc (by decide)) (fun _ => ?_)
  refine VB_aload_n (q := 132) dL_isRefused_131 0 rfl rfl ?_
  refine VB_iconst (q := 133) dL_isRefused_132 rfl ?_
  refine VB_iconst (q := 134) dL_isRefused_133 rfl ?_
  refine VB_iconst (q := 135) dL_isRefused_134 rfl ?_
  refine VB_iload_n (q := 136) dL_isRefused_135 3 rfl rfl ?_
  refine VB_if_eq (q := 139) (tgt := 143) dL_isRefused_136 (by decide) (by decide) (fun hc => absurd hc (by decide)) (fun _ => ?_)
  refine VB_iconst (q := 140) dL_isRefused_139 rfl ?_
  refine VB_goto (tgt := 145) dL_isRefused_140 (by decide) ?_
  refine VB_iconst (q := 146) dL_isRefused_145 rfl ?_
  refine VB_callUW (q := 149) dL_isRefused_146 (u_add_no (a := a) (c := c) (S := S) (b := b) (d := d) (F := F) ho hg122 0 0 0 0 0 (by omega) (by omega) (by omega) (by omega) (by omega) (by unfold cAdd; rw [if_neg (by decide)])) yw_add rfl gL_isRefused_L_add xU_U rfl (Nat.le_of_ble_eq_true rfl) (by decide) ⟨by show _ ≤ 64; omega, by show _ ≤ 6 * 64; omega⟩ (fun x146 g146 hP146 hg146 => ?_)
  refine VB_lo (lo' := 4) (by show 4 ≤ 3 + 1; omega) ?_
  refine VB_top (y := iZ (-982)) hP146 ?_
  refine VB_sipush (q := 152) dL_isRefused_149 (by decide) rfl ?_
  refine VB_icmp_ne (q := 155) (tgt := 452) dL_isRefused_152 (by decide) (by decide) (by decide) (fun hc => absurd hc (by decide)) (fun _ => ?_)
  refine VB_aload_n (q := 156) dL_isRefused_155 0 rfl rfl ?_
  refine VB_iconst (q := 157) dL_isRefused_156 rfl ?_
  refine VB_iconst (q := 158) dL_isRefused_157 rfl ?_
  refine VB_iconst (q := 159) dL_isRefused_158 rfl ?_
  refine VB_iconst (q := 160) dL_isRefused_159 rfl ?_
  refine VB_iload_n (q := 161) dL_isRefused_160 3 rfl rfl ?_
  refine VB_if_eq (q := 164) (tgt := 168) dL_isRefused_161 (by decide) (by decide) (fun hc => absurd hc (by decide)) (fun _ => ?_)
  refine VB_iconst (q := 165) dL_isRefused_164 rfl ?_
  refine VB_goto (tgt := 169) dL_isRefused_165 (by decide) ?_
  refine VB_callUW (q := 172) dL_isRefused_169 (u_add_no (a := a) (c := c) (S := S) (b := b) (d := d) (F := F) ho hg146 0 0 0 1 (-1) (by omega) (by omega) (by omega) (by omega) (by omega) (by unfold cAdd; rw [if_neg (by decide)])) yw_add rfl gL_isRefused_L_add xU_U rfl (Nat.le_of_ble_eq_true rfl) (by decide) ⟨by show _ ≤ 64; omega, by show _ ≤ 6 * 64; omega⟩ (fun x169 g169 hP169 hg169 => ?_)
  refine VB_lo (lo' := 5) (by show 5 ≤ 4 + 1; omega) ?_
  refine VB_top (y := iZ (-982)) hP169 ?_
  refine VB_sipush (q := 175) dL_isRefused_172 (by decide) rfl ?_
  refine VB_icmp_ne (q := 178) (tgt := 452) dL_isRefused_175 (by decide) (by decide) (by decide) (fun hc => absurd hc (by decide)) (fun _ => ?_)
  refine VB_aload_n (q := 179) dL_isRefused_178 1 rfl rfl ?_
  refine VB_iconst (q := 180) dL_isRefused_179 rfl ?_
  refine VB_iald (q := 181) (v := (iZ 4)) dL_isRefused_180 13 12 rfl rfl (0) (by omega) (by omega) (by decide) (hM0) rfl ?_
  refine VB_bipush (q := 183) dL_isRefused_181 (by decide) rfl ?_
  refine VB_icmp_lt (q := 186) (tgt := 201) dL_isRefused_183 (by decide) (by decide) (by decide) (fun _ => ?_) (fun hc => absurd hc (by decide))
  refine VB_aload_n (q := 202) dL_isRefused_201 0 rfl rfl ?_
  refine VB_iconst (q := 203) dL_isRefused_202 rfl ?_
  refine VB_iload (q := 205) dL_isRefused_203 4 rfl rfl ?_
  refine VB_iconst (q := 206) dL_isRefused_205 rfl ?_
  refine VB_callUW (q := 209) dL_isRefused_206 (u_of0_no (a := a) (c := c) (S := S) (b := b) (d := d) (F := F) ho hg169 (-11) 0 (by omega) (by omega) (by unfold cHas; rw [iv_no hI (x := (-11)) (by omega)]; rfl)) yw_of rfl gL_isRefused_L_of xU_U rfl (Nat.le_of_ble_eq_true rfl) (by decide) ⟨by show _ ≤ 64; omega, by show _ ≤ 6 * 64; omega⟩ (fun x206 g206 hP206 hg206 => ?_)
  refine VB_lo (lo' := 6) (by show 6 ≤ 5 + 1; omega) ?_
  refine VB_top (y := iZ (-981)) hP206 ?_
  refine VB_sipush (q := 212) dL_isRefused_209 (by decide) rfl ?_
  refine VB_icmp_ne (q := 215) (tgt := 452) dL_isRefused_212 (by decide) (by decide) (by decide) (fun hc => absurd hc (by decide)) (fun _ => ?_)
  refine VB_aload_n (q := 216) dL_isRefused_215 0 rfl rfl ?_
  refine VB_iconst (q := 217) dL_isRefused_216 rfl ?_
  refine VB_iload (q := 219) dL_isRefused_217 4 rfl rfl ?_
  refine VB_iconst (q := 220) dL_isRefused_219 rfl ?_
  refine VB_callUW (q := 223) dL_isRefused_220 (u_of1_no (a := a) (c := c) (S := S) (b := b) (d := d) (F := F) ho hg206 (-11) 0 (by omega) (by omega) (by unfold cHas; rw [iv_no hI (x := (-11)) (by omega)]; rfl)) yw_of rfl gL_isRefused_L_of xU_U rfl (Nat.le_of_ble_eq_true rfl) (by decide) ⟨by show _ ≤ 64; omega, by show _ ≤ 6 * 64; omega⟩ (fun x220 g220 hP220 hg220 => ?_)
  refine VB_lo (lo' := 7) (by show 7 ≤ 6 + 1; omega) ?_
  refine VB_top (y := iZ (-981)) hP220 ?_
  refine VB_sipush (q := 226) dL_isRefused_223 (by decide) rfl ?_
  refine VB_icmp_ne (q := 229) (tgt := 452) dL_isRefused_226 (by decide) (by decide) (by decide) (fun hc => absurd hc (by decide)) (fun _ => ?_)
  refine VB_aload_n (q := 230) dL_isRefused_229 0 rfl rfl ?_
  refine VB_iconst (q := 231) dL_isRefused_230 rfl ?_
  refine VB_iload_n (q := 232) dL_isRefused_231 3 rfl rfl ?_
  refine VB_if_eq (q := 235) (tgt := 244) dL_isRefused_232 (by decide) (by decide) (fun hc => absurd hc (by decide)) (fun _ => ?_)
  refine VB_iconst (q := 236) dL_isRefused_235 rfl ?_
  refine VB_iload_n (q := 237) dL_isRefused_236 2 rfl rfl ?_
  refine VB_bipush (q := 239) dL_isRefused_237 (by decide) rfl ?_
  refine VB_irem (q := 240) (a := 10) (b := 30) dL_isRefused_239 (by omega) (by decide) (by decide) rfl ?_
  refine VB_top (y := iZ 10) rfl ?_
  refine VB_isub (q := 241) dL_isRefused_240 rfl ?_
  refine VB_top (y := iZ (-11)) rfl ?_
  refine VB_goto (tgt := 251) dL_isRefused_241 (by decide) ?_
  refine VB_iconst (q := 252) dL_isRefused_251 rfl ?_
  refine VB_callUW (q := 255) dL_isRefused_252 (u_of2_no (a := a) (c := c) (S := S) (b := b) (d := d) (F := F) ho hg220 (-11) 0 (by omega) (by omega) (by unfold cOut; rw [if_neg (by decide)])) yw_of rfl gL_isRefused_L_of xU_U rfl (Nat.le_of_ble_eq_true rfl) (by decide) ⟨by show _ ≤ 64; omega, by show _ ≤ 6 * 64; omega⟩ (fun x252 g252 hP252 hg252 => ?_)
  refine VB_lo (lo' := 8) (by show 8 ≤ 7 + 1; omega) ?_
  refine VB_top (y := iZ (-982)) hP252 ?_
  refine VB_sipush (q := 258) dL_isRefused_255 (by decide) rfl ?_
  refine VB_icmp_ne (q := 261) (tgt := 452) dL_isRefused_258 (by decide) (by decide) (by decide) (fun hc => absurd hc (by decide)) (fun _ => ?_)
  refine VB_aload_n (q := 262) dL_isRefused_261 0 rfl rfl ?_
  refine VB_iconst (q := 263) dL_isRefused_262 rfl ?_
  refine VB_iload (q := 265) dL_isRefused_263 4 rfl rfl ?_
  refine VB_iconst (q := 266) dL_isRefused_265 rfl ?_
  refine VB_callUW (q := 269) dL_isRefused_266 (u_of3_no (a := a) (c := c) (S := S) (b := b) (d := d) (F := F) ho hg252 (-11) (-1) (by omega) (by omega) (by unfold cAdds; rw [iv_no hI (x := (-11)) (by omega)]; rfl)) yw_of rfl gL_isRefused_L_of xU_U rfl (Nat.le_of_ble_eq_true rfl) (by decide) ⟨by show _ ≤ 64; omega, by show _ ≤ 6 * 64; omega⟩ (fun x266 g266 hP266 hg266 => ?_)
  refine VB_lo (lo' := 9) (by show 9 ≤ 8 + 1; omega) ?_
  refine VB_top (y := iZ (-981)) hP266 ?_
  refine VB_sipush (q := 272) dL_isRefused_269 (by decide) rfl ?_
  refine VB_icmp_ne (q := 275) (tgt := 452) dL_isRefused_272 (by decide) (by decide) (by decide) (fun hc => absurd hc (by decide)) (fun _ => ?_)
  refine VB_aload_n (q := 276) dL_isRefused_275 0 rfl rfl ?_
  refine VB_iconst (q := 277) dL_isRefused_276 rfl ?_
  refine VB_iload_n (q := 278) dL_isRefused_277 3 rfl rfl ?_
  refine VB_if_eq (q := 281) (tgt := 285) dL_isRefused_278 (by decide) (by decide) (fun hc => absurd hc (by decide)) (fun _ => ?_)
  refine VB_iconst (q := 282) dL_isRefused_281 rfl ?_
  refine VB_goto (tgt := 287) dL_isRefused_282 (by decide) ?_
  refine VB_iconst (q := 288) dL_isRefused_287 rfl ?_
  refine VB_callUW (q := 291) dL_isRefused_288 (u_of4_no (a := a) (c := c) (S := S) (b := b) (d := d) (F := F) ho hg266 (-1) 0 (by omega) (by omega) (by unfold cFor; rw [if_neg (by decide)])) yw_of rfl gL_isRefused_L_of xU_U rfl (Nat.le_of_ble_eq_true rfl) (by decide) ⟨by show _ ≤ 64; omega, by show _ ≤ 6 * 64; omega⟩ (fun x288 g288 hP288 hg288 => ?_)
  refine VB_lo (lo' := 10) (by show 10 ≤ 9 + 1; omega) ?_
  refine VB_top (y := iZ (-982)) hP288 ?_
  refine VB_sipush (q := 294) dL_isRefused_291 (by decide) rfl ?_
  refine VB_icmp_ne (q := 297) (tgt := 452) dL_isRefused_294 (by decide) (by decide) (by decide) (fun hc => absurd hc (by decide)) (fun _ => ?_)
  refine VB_aload_n (q := 298) dL_isRefused_297 0 rfl rfl ?_
  refine VB_iconst (q := 299) dL_isRefused_298 rfl ?_
  refine VB_iconst (q := 300) dL_isRefused_299 rfl ?_
  refine VB_iload_n (q := 301) dL_isRefused_300 3 rfl rfl ?_
  refine VB_if_eq (q := 304) (tgt := 313) dL_isRefused_301 (by decide) (by decide) (fun hc => absurd hc (by decide)) (fun _ => ?_)
  refine VB_iconst (q := 305) dL_isRefused_304 rfl ?_
  refine VB_iload_n (q := 306) dL_isRefused_305 2 rfl rfl ?_
  refine VB_bipush (q := 308) dL_isRefused_306 (by decide) rfl ?_
  refine VB_irem (q := 309) (a := 10) (b := 30) dL_isRefused_308 (by omega) (by decide) (by decide) rfl ?_
  refine VB_top (y := iZ 10) rfl ?_
  refine VB_isub (q := 310) dL_isRefused_309 rfl ?_
  refine VB_top (y := iZ (-11)) rfl ?_
  refine VB_goto (tgt := 321) dL_isRefused_310 (by decide) ?_
  refine VB_callUW (q := 324) dL_isRefused_321 (u_of4_no (a := a) (c := c) (S := S) (b := b) (d := d) (F := F) ho hg288 0 (-11) (by omega) (by omega) (by unfold cFor; rw [if_neg (by decide)])) yw_of rfl gL_isRefused_L_of xU_U rfl (Nat.le_of_ble_eq_true rfl) (by decide) ⟨by show _ ≤ 64; omega, by show _ ≤ 6 * 64; omega⟩ (fun x321 g321 hP321 hg321 => ?_)
  refine VB_lo (lo' := 11) (by show 11 ≤ 10 + 1; omega) ?_
  refine VB_top (y := iZ (-982)) hP321 ?_
  refine VB_sipush (q := 327) dL_isRefused_324 (by decide) rfl ?_
  refine VB_icmp_ne (q := 330) (tgt := 452) dL_isRefused_327 (by decide) (by decide) (by decide) (fun hc => absurd hc (by decide)) (fun _ => ?_)
  refine VB_aload_n (q := 331) dL_isRefused_330 0 rfl rfl ?_
  refine VB_iconst (q := 332) dL_isRefused_331 rfl ?_
  refine VB_iload_n (q := 333) dL_isRefused_332 3 rfl rfl ?_
  refine VB_if_eq (q := 336) (tgt := 340) dL_isRefused_333 (by decide) (by decide) (fun hc => absurd hc (by decide)) (fun _ => ?_)
  refine VB_iconst (q := 337) dL_isRefused_336 rfl ?_
  refine VB_goto (tgt := 341) dL_isRefused_337 (by decide) ?_
  refine VB_iconst (q := 342) dL_isRefused_341 rfl ?_
  refine VB_callUW (q := 345) dL_isRefused_342 (u_of5_no (a := a) (c := c) (S := S) (b := b) (d := d) (F := F) ho hg321 (-1) (by omega) (by unfold cCare; rw [if_neg (by decide)])) yw_of rfl gL_isRefused_L_of xU_U rfl (Nat.le_of_ble_eq_true rfl) (by decide) ⟨by show _ ≤ 64; omega, by show _ ≤ 6 * 64; omega⟩ (fun x342 g342 hP342 hg342 => ?_)
  refine VB_lo (lo' := 12) (by show 12 ≤ 11 + 1; omega) ?_
  refine VB_top (y := iZ (-982)) hP342 ?_
  refine VB_sipush (q := 348) dL_isRefused_345 (by decide) rfl ?_
  refine VB_icmp_ne (q := 351) (tgt := 452) dL_isRefused_348 (by decide) (by decide) (by decide) (fun hc => absurd hc (by decide)) (fun _ => ?_)
  refine VB_aload_n (q := 352) dL_isRefused_351 0 rfl rfl ?_
  refine VB_bipush (q := 354) dL_isRefused_352 (by decide) rfl ?_
  refine VB_iload_n (q := 355) dL_isRefused_354 3 rfl rfl ?_
  refine VB_if_eq (q := 358) (tgt := 362) dL_isRefused_355 (by decide) (by decide) (fun hc => absurd hc (by decide)) (fun _ => ?_)
  refine VB_iconst (q := 359) dL_isRefused_358 rfl ?_
  refine VB_goto (tgt := 363) dL_isRefused_359 (by decide) ?_
  refine VB_iconst (q := 364) dL_isRefused_363 rfl ?_
  refine VB_callUW (q := 367) dL_isRefused_364 (u_of6_no (a := a) (c := c) (S := S) (b := b) (d := d) (F := F) ho hg342 (-1) (by omega) (by unfold cCare; rw [if_neg (by decide)])) yw_of rfl gL_isRefused_L_of xU_U rfl (Nat.le_of_ble_eq_true rfl) (by decide) ⟨by show _ ≤ 64; omega, by show _ ≤ 6 * 64; omega⟩ (fun x364 g364 hP364 hg364 => ?_)
  refine VB_lo (lo' := 13) (by show 13 ≤ 12 + 1; omega) ?_
  refine VB_top (y := iZ (-982)) hP364 ?_
  refine VB_sipush (q := 370) dL_isRefused_367 (by decide) rfl ?_
  refine VB_icmp_ne (q := 373) (tgt := 452) dL_isRefused_370 (by decide) (by decide) (by decide) (fun hc => absurd hc (by decide)) (fun _ => ?_)
  refine VB_aload_n (q := 374) dL_isRefused_373 0 rfl rfl ?_
  refine VB_bipush (q := 376) dL_isRefused_374 (by decide) rfl ?_
  refine VB_iload_n (q := 377) dL_isRefused_376 3 rfl rfl ?_
  refine VB_if_eq (q := 380) (tgt := 389) dL_isRefused_377 (by decide) (by decide) (fun hc => absurd hc (by decide)) (fun _ => ?_)
  refine VB_iconst (q := 381) dL_isRefused_380 rfl ?_
  refine VB_iload_n (q := 382) dL_isRefused_381 2 rfl rfl ?_
  refine VB_bipush (q := 384) dL_isRefused_382 (by decide) rfl ?_
  refine VB_irem (q := 385) (a := 10) (b := 30) dL_isRefused_384 (by omega) (by decide) (by decide) rfl ?_
  refine VB_top (y := iZ 10) rfl ?_
  refine VB_isub (q := 386) dL_isRefused_385 rfl ?_
  refine VB_top (y := iZ (-10)) rfl ?_
  refine VB_goto (tgt := 392) dL_isRefused_386 (by decide) ?_
  refine VB_iconst (q := 393) dL_isRefused_392 rfl ?_
  refine VB_callUW (q := 396) dL_isRefused_393 (u_of7_no (a := a) (c := c) (S := S) (b := b) (d := d) (F := F) ho hg364 (-10) 0 (by omega) (by omega) (by unfold cPass; rw [if_neg (by decide)])) yw_of rfl gL_isRefused_L_of xU_U rfl (Nat.le_of_ble_eq_true rfl) (by decide) ⟨by show _ ≤ 64; omega, by show _ ≤ 6 * 64; omega⟩ (fun x393 g393 hP393 hg393 => ?_)
  refine VB_lo (lo' := 14) (by show 14 ≤ 13 + 1; omega) ?_
  refine VB_top (y := iZ (-982)) hP393 ?_
  refine VB_sipush (q := 399) dL_isRefused_396 (by decide) rfl ?_
  refine VB_icmp_ne (q := 402) (tgt := 452) dL_isRefused_399 (by decide) (by decide) (by decide) (fun hc => absurd hc (by decide)) (fun _ => ?_)
  refine VB_aload_n (q := 403) dL_isRefused_402 0 rfl rfl ?_
  refine VB_bipush (q := 405) dL_isRefused_403 (by decide) rfl ?_
  refine VB_iload_n (q := 406) dL_isRefused_405 3 rfl rfl ?_
  refine VB_if_eq (q := 409) (tgt := 413) dL_isRefused_406 (by decide) (by decide) (fun hc => absurd hc (by decide)) (fun _ => ?_)
  refine VB_iconst (q := 410) dL_isRefused_409 rfl ?_
  refine VB_goto (tgt := 415) dL_isRefused_410 (by decide) ?_
  refine VB_iconst (q := 416) dL_isRefused_415 rfl ?_
  refine VB_callUW (q := 419) dL_isRefused_416 (u_of8_no (a := a) (c := c) (S := S) (b := b) (d := d) (F := F) ho hg393 0 0 (by omega) (by omega) (by unfold cBag; rw [if_neg (by decide)])) yw_of rfl gL_isRefused_L_of xU_U rfl (Nat.le_of_ble_eq_true rfl) (by decide) ⟨by show _ ≤ 64; omega, by show _ ≤ 6 * 64; omega⟩ (fun x416 g416 hP416 hg416 => ?_)
  refine VB_lo (lo' := 15) (by show 15 ≤ 14 + 1; omega) ?_
  refine VB_top (y := iZ (-982)) hP416 ?_
  refine VB_sipush (q := 422) dL_isRefused_419 (by decide) rfl ?_
  refine VB_icmp_ne (q := 425) (tgt := 452) dL_isRefused_422 (by decide) (by decide) (by decide) (fun hc => absurd hc (by decide)) (fun _ => ?_)
  refine VB_aload_n (q := 426) dL_isRefused_425 0 rfl rfl ?_
  refine VB_bipush (q := 428) dL_isRefused_426 (by decide) rfl ?_
  refine VB_iconst (q := 429) dL_isRefused_428 rfl ?_
  refine VB_iload_n (q := 430) dL_isRefused_429 3 rfl rfl ?_
  refine VB_if_eq (q := 433) (tgt := 437) dL_isRefused_430 (by decide) (by decide) (fun hc => absurd hc (by decide)) (fun _ => ?_)
  refine VB_iconst (q := 434) dL_isRefused_433 rfl ?_
  refine VB_goto (tgt := 439) dL_isRefused_434 (by decide) ?_
  refine VB_callUW (q := 442) dL_isRefused_439 (u_of8_no (a := a) (c := c) (S := S) (b := b) (d := d) (F := F) ho hg416 1 (-1) (by omega) (by omega) (by unfold cBag; rw [if_neg (by decide)])) yw_of rfl gL_isRefused_L_of xU_U rfl (Nat.le_of_ble_eq_true rfl) (by decide) ⟨by show _ ≤ 64; omega, by show _ ≤ 6 * 64; omega⟩ (fun x439 g439 hP439 hg439 => ?_)
  refine VB_lo (lo' := 16) (by show 16 ≤ 15 + 1; omega) ?_
  refine VB_top (y := iZ (-982)) hP439 ?_
  refine VB_sipush (q := 445) dL_isRefused_442 (by decide) rfl ?_
  refine VB_icmp_ne (q := 448) (tgt := 452) dL_isRefused_445 (by decide) (by decide) (by decide) (fun hc => absurd hc (by decide)) (fun _ => ?_)
  refine VB_iconst (q := 449) dL_isRefused_448 rfl ?_
  refine VB_goto (tgt := 453) dL_isRefused_449 (by decide) ?_
  refine VB_istore (q := 455) (lv' := [(0, _), (1, _), (2, _), (3, _), (4, _), (5, _), (6, _), (8, _)]) dL_isRefused_453 (by decide) rfl rfl ?_
  refine VB_iload (q := 457) dL_isRefused_455 7 rfl rfl ?_
  refine VB_if_eq (q := 460) (tgt := 665) dL_isRefused_457 (by decide) (by decide) (fun hc => absurd hc (by decide)) (fun _ => ?_)
  refine VB_aload_n (q := 461) dL_isRefused_460 0 rfl rfl ?_
  refine VB_iconst (q := 462) dL_isRefused_461 rfl ?_
  refine VB_iload_n (q := 463) dL_isRefused_462 3 rfl rfl ?_
  refine VB_if_eq (q := 466) (tgt := 470) dL_isRefused_463 (by decide) (by decide) (fun hc => absurd hc (by decide)) (fun _ => ?_)
  refine VB_iconst (q := 467) dL_isRefused_466 rfl ?_
  refine VB_goto (tgt := 472) dL_isRefused_467 (by decide) ?_
  refine VB_iconst (q := 473) dL_isRefused_472 rfl ?_
  refine VB_iconst (q := 474) dL_isRefused_473 rfl ?_
  refine VB_callUW (q := 477) dL_isRefused_474 (u_yes0_no (a := a) (c := c) (S := S) (b := b) (d := d) (F := F) ho hg439 (-1) 0 (by omega) (by omega) (by unfold cClash; rw [if_neg (by decide)])) yw_yes rfl gL_isRefused_L_yes xU_U rfl (Nat.le_of_ble_eq_true rfl) (by decide) ⟨by show _ ≤ 64; omega, by show _ ≤ 6 * 64; omega⟩ (fun x474 g474 hP474 hg474 => ?_)
  refine VB_lo (lo' := 17) (by show 17 ≤ 16 + 1; omega) ?_
  refine VB_top (y := iZ (-982)) hP474 ?_
  refine VB_sipush (q := 480) dL_isRefused_477 (by decide) rfl ?_
  refine VB_icmp_ne (q := 483) (tgt := 665) dL_isRefused_480 (by decide) (by decide) (by decide) (fun hc => absurd hc (by decide)) (fun _ => ?_)
  refine VB_aload_n (q := 484) dL_isRefused_483 0 rfl rfl ?_
  refine VB_iconst (q := 485) dL_isRefused_484 rfl ?_
  refine VB_iconst (q := 486) dL_isRefused_485 rfl ?_
  refine VB_iload_n (q := 487) dL_isRefused_486 3 rfl rfl ?_
  refine VB_if_eq (q := 490) (tgt := 494) dL_isRefused_487 (by decide) (by decide) (fun hc => absurd hc (by decide)) (fun _ => ?_)
  refine VB_iconst (q := 491) dL_isRefused_490 rfl ?_
  refine VB_goto (tgt := 496) dL_isRefused_491 (by decide) ?_
  refine VB_iconst (q := 497) dL_isRefused_496 rfl ?_
  refine VB_callUW (q := 500) dL_isRefused_497 (u_yes0_no (a := a) (c := c) (S := S) (b := b) (d := d) (F := F) ho hg474 0 (-1) (by omega) (by omega) (by unfold cClash; rw [if_neg (by decide)])) yw_yes rfl gL_isRefused_L_yes xU_U rfl (Nat.le_of_ble_eq_true rfl) (by decide) ⟨by show _ ≤ 64; omega, by show _ ≤ 6 * 64; omega⟩ (fun x497 g497 hP497 hg497 => ?_)
  refine VB_lo (lo' := 18) (by show 18 ≤ 17 + 1; omega) ?_
  refine VB_top (y := iZ (-982)) hP497 ?_
  refine VB_sipush (q := 503) dL_isRefused_500 (by decide) rfl ?_
  refine VB_icmp_ne (q := 506) (tgt := 665) dL_isRefused_503 (by decide) (by decide) (by decide) (fun hc => absurd hc (by decide)) (fun _ => ?_)
  refine VB_aload_n (q := 507) dL_isRefused_506 0 rfl rfl ?_
  refine VB_iconst (q := 508) dL_isRefused_507 rfl ?_
  refine VB_iconst (q := 509) dL_isRefused_508 rfl ?_
  refine VB_iload_n (q := 510) dL_isRefused_509 3 rfl rfl ?_
  refine VB_if_eq (q := 513) (tgt := 517) dL_isRefused_510 (by decide) (by decide) (fun hc => absurd hc (by decide)) (fun _ => ?_)
  refine VB_iconst (q := 514) dL_isRefused_513 rfl ?_
  refine VB_goto (tgt := 519) dL_isRefused_514 (by decide) ?_
  refine VB_iconst (q := 520) dL_isRefused_519 rfl ?_
  refine VB_callUW (q := 523) dL_isRefused_520 (u_yes1_no (a := a) (c := c) (S := S) (b := b) (d := d) (F := F) ho hg497 (iZ 0) 0 0 (by omega) (by omega) (cEn_b (by decide))) yw_yes rfl gL_isRefused_L_yes xU_U rfl (Nat.le_of_ble_eq_true rfl) (by decide) ⟨by show _ ≤ 64; omega, by show _ ≤ 6 * 64; omega⟩ (fun x520 g520 hP520 hg520 => ?_)
  refine VB_lo (lo' := 19) (by show 19 ≤ 18 + 1; omega) ?_
  refine VB_top (y := iZ (-982)) hP520 ?_
  refine VB_sipush (q := 526) dL_isRefused_523 (by decide) rfl ?_
  refine VB_icmp_ne (q := 529) (tgt := 665) dL_isRefused_526 (by decide) (by decide) (by decide) (fun hc => absurd hc (by decide)) (fun _ => ?_)
  refine VB_aload_n (q := 530) dL_isRefused_529 0 rfl rfl ?_
  refine VB_iconst (q := 531) dL_isRefused_530 rfl ?_
  refine VB_iconst (q := 532) dL_isRefused_531 rfl ?_
  refine VB_iconst (q := 533) dL_isRefused_532 rfl ?_
  refine VB_iload_n (q := 534) dL_isRefused_533 3 rfl rfl ?_
  refine VB_if_eq (q := 537) (tgt := 541) dL_isRefused_534 (by decide) (by decide) (fun hc => absurd hc (by decide)) (fun _ => ?_)
  refine VB_iconst (q := 538) dL_isRefused_537 rfl ?_
  refine VB_goto (tgt := 543) dL_isRefused_538 (by decide) ?_
  refine VB_callUW (q := 546) dL_isRefused_543 (u_yes1_no (a := a) (c := c) (S := S) (b := b) (d := d) (F := F) ho hg520 (iZ 0) 1 (-1) (by omega) (by omega) (cEn_b (by decide))) yw_yes rfl gL_isRefused_L_yes xU_U rfl (Nat.le_of_ble_eq_true rfl) (by decide) ⟨by show _ ≤ 64; omega, by show _ ≤ 6 * 64; omega⟩ (fun x543 g543 hP543 hg543 => ?_)
  refine VB_lo (lo' := 20) (by show 20 ≤ 19 + 1; omega) ?_
  refine VB_top (y := iZ (-982)) hP543 ?_
  refine VB_sipush (q := 549) dL_isRefused_546 (by decide) rfl ?_
  refine VB_icmp_ne (q := 552) (tgt := 665) dL_isRefused_549 (by decide) (by decide) (by decide) (fun hc => absurd hc (by decide)) (fun _ => ?_)
  refine VB_aload_n (q := 553) dL_isRefused_552 0 rfl rfl ?_
  refine VB_iconst (q := 554) dL_isRefused_553 rfl ?_
  refine VB_iconst (q := 555) dL_isRefused_554 rfl ?_
  refine VB_bipush (q := 557) dL_isRefused_555 (by decide) rfl ?_
  refine VB_iload_n (q := 558) dL_isRefused_557 2 rfl rfl ?_
  refine VB_bipush (q := 560) dL_isRefused_558 (by decide) rfl ?_
  refine VB_irem (q := 561) (a := 10) (b := 19) dL_isRefused_560 (by omega) (by decide) (by decide) rfl ?_
  refine VB_top (y := iZ 10) rfl ?_
  refine VB_iadd (q := 562) dL_isRefused_561 rfl ?_
  refine VB_top (y := iZ 22) rfl ?_
  refine VB_ishl (q := 563) dL_isRefused_562 rfl ?_
  refine VB_top (y := iZ 4194304) (by decide +kernel) ?_
  refine VB_iconst (q := 564) dL_isRefused_563 rfl ?_
  refine VB_iconst (q := 565) dL_isRefused_564 rfl ?_
  refine VB_callUW (q := 568) dL_isRefused_565 (u_yes1_no (a := a) (c := c) (S := S) (b := b) (d := d) (F := F) ho hg543 (iZ 4194304) 1 1 (by omega) (by omega) (cEn_x (by decide +kernel))) yw_yes rfl gL_isRefused_L_yes xU_U rfl (Nat.le_of_ble_eq_true rfl) (by decide) ⟨by show _ ≤ 64; omega, by show _ ≤ 6 * 64; omega⟩ (fun x565 g565 hP565 hg565 => ?_)
  refine VB_lo (lo' := 21) (by show 21 ≤ 20 + 1; omega) ?_
  refine VB_top (y := iZ (-982)) hP565 ?_
  refine VB_sipush (q := 571) dL_isRefused_568 (by decide) rfl ?_
  refine VB_icmp_ne (q := 574) (tgt := 665) dL_isRefused_571 (by decide) (by decide) (by decide) (fun hc => absurd hc (by decide)) (fun _ => ?_)
  refine VB_aload_n (q := 575) dL_isRefused_574 0 rfl rfl ?_
  refine VB_iconst (q := 576) dL_isRefused_575 rfl ?_
  refine VB_iconst (q := 577) dL_isRefused_576 rfl ?_
  refine VB_iload_n (q := 578) dL_isRefused_577 2 rfl rfl ?_
  refine VB_bipush (q := 580) dL_isRefused_578 (by decide) rfl ?_
  refine VB_irem (q := 581) (a := 10) (b := 30) dL_isRefused_580 (by omega) (by decide) (by decide) rfl ?_
  refine VB_top (y := iZ 10) rfl ?_
  refine VB_isub (q := 582) dL_isRefused_581 rfl ?_
  refine VB_top (y := iZ (-11)) rfl ?_
  refine VB_iconst (q := 583) dL_isRefused_582 rfl ?_
  refine VB_iconst (q := 584) dL_isRefused_583 rfl ?_
  refine VB_callUW (q := 587) dL_isRefused_584 (u_yes1_no (a := a) (c := c) (S := S) (b := b) (d := d) (F := F) ho hg565 (iZ (-11)) 1 1 (by omega) (by omega) (cEn_x (by decide +kernel))) yw_yes rfl gL_isRefused_L_yes xU_U rfl (Nat.le_of_ble_eq_true rfl) (by decide) ⟨by show _ ≤ 64; omega, by show _ ≤ 6 * 64; omega⟩ (fun x584 g584 hP584 hg584 => ?_)
  refine VB_lo (lo' := 22) (by show 22 ≤ 21 + 1; omega) ?_
  refine VB_top (y := iZ (-982)) hP584 ?_
  refine VB_sipush (q := 590) dL_isRefused_587 (by decide) rfl ?_
  refine VB_icmp_ne (q := 593) (tgt := 665) dL_isRefused_590 (by decide) (by decide) (by decide) (fun hc => absurd hc (by decide)) (fun _ => ?_)
  refine VB_aload_n (q := 594) dL_isRefused_593 0 rfl rfl ?_
  refine VB_iconst (q := 595) dL_isRefused_594 rfl ?_
  refine VB_iload (q := 597) dL_isRefused_595 4 rfl rfl ?_
  refine VB_iconst (q := 598) dL_isRefused_597 rfl ?_
  refine VB_iconst (q := 599) dL_isRefused_598 rfl ?_
  refine VB_iconst (q := 600) dL_isRefused_599 rfl ?_
  refine VB_callUW (q := 603) dL_isRefused_600 (u_out0_nob (a := a) (c := c) (S := S) (b := b) (d := d) (F := F) ho hg584 (-11) 0 (-1) 0 (by omega) (by omega) (by omega) (by omega) (wrZ_no hI (by omega))) yw_outfit rfl gL_isRefused_L_outfit xU_U rfl (Nat.le_of_ble_eq_true rfl) (by decide) ⟨by show _ ≤ 64; omega, by show _ ≤ 6 * 64; omega⟩ (fun x600 g600 hP600 hg600 => ?_)
  refine VB_lo (lo' := 23) (by show 23 ≤ 22 + 1; omega) ?_
  refine VB_top (y := iZ (-981)) hP600 ?_
  refine VB_sipush (q := 606) dL_isRefused_603 (by decide) rfl ?_
  refine VB_icmp_ne (q := 609) (tgt := 665) dL_isRefused_606 (by decide) (by decide) (by decide) (fun hc => absurd hc (by decide)) (fun _ => ?_)
  refine VB_aload_n (q := 610) dL_isRefused_609 0 rfl rfl ?_
  refine VB_iconst (q := 611) dL_isRefused_610 rfl ?_
  refine VB_iload (q := 613) dL_isRefused_611 4 rfl rfl ?_
  refine VB_iload (q := 615) dL_isRefused_613 4 rfl rfl ?_
  refine VB_iload (q := 617) dL_isRefused_615 5 rfl rfl ?_
  refine VB_iconst (q := 618) dL_isRefused_617 rfl ?_
  refine VB_callUW (q := 621) dL_isRefused_618 (u_out0_nob (a := a) (c := c) (S := S) (b := b) (d := d) (F := F) ho hg600 (-11) (-11) (-12) 0 (by omega) (by omega) (by omega) (by omega) (wrZ_no hI (by omega))) yw_outfit rfl gL_isRefused_L_outfit xU_U rfl (Nat.le_of_ble_eq_true rfl) (by decide) ⟨by show _ ≤ 64; omega, by show _ ≤ 6 * 64; omega⟩ (fun x618 g618 hP618 hg618 => ?_)
  refine VB_lo (lo' := 24) (by show 24 ≤ 23 + 1; omega) ?_
  refine VB_top (y := iZ (-981)) hP618 ?_
  refine VB_sipush (q := 624) dL_isRefused_621 (by decide) rfl ?_
  refine VB_icmp_ne (q := 627) (tgt := 665) dL_isRefused_624 (by decide) (by decide) (by decide) (fun hc => absurd hc (by decide)) (fun _ => ?_)
  refine VB_aload_n (q := 628) dL_isRefused_627 0 rfl rfl ?_
  refine VB_iconst (q := 629) dL_isRefused_628 rfl ?_
  refine VB_iload (q := 631) dL_isRefused_629 4 rfl rfl ?_
  refine VB_iconst (q := 632) dL_isRefused_631 rfl ?_
  refine VB_iconst (q := 633) dL_isRefused_632 rfl ?_
  refine VB_iconst (q := 634) dL_isRefused_633 rfl ?_
  refine VB_callUW (q := 637) dL_isRefused_634 (u_out1_nob (a := a) (c := c) (S := S) (b := b) (d := d) (F := F) ho hg618 (-11) 0 0 (-1) (by omega) (by omega) (by omega) (by omega) (cSoon_w (wrZ_no hI (by omega)))) yw_outfit rfl gL_isRefused_L_outfit xU_U rfl (Nat.le_of_ble_eq_true rfl) (by decide) ⟨by show _ ≤ 64; omega, by show _ ≤ 6 * 64; omega⟩ (fun x634 g634 hP634 hg634 => ?_)
  refine VB_lo (lo' := 25) (by show 25 ≤ 24 + 1; omega) ?_
  refine VB_top (y := iZ (-981)) hP634 ?_
  refine VB_sipush (q := 640) dL_isRefused_637 (by decide) rfl ?_
  refine VB_icmp_ne (q := 643) (tgt := 665) dL_isRefused_640 (by decide) (by decide) (by decide) (fun hc => absurd hc (by decide)) (fun _ => ?_)
  refine VB_aload_n (q := 644) dL_isRefused_643 0 rfl rfl ?_
  refine VB_iconst (q := 645) dL_isRefused_644 rfl ?_
  refine VB_iload (q := 647) dL_isRefused_645 4 rfl rfl ?_
  refine VB_iload (q := 649) dL_isRefused_647 4 rfl rfl ?_
  refine VB_iload (q := 651) dL_isRefused_649 5 rfl rfl ?_
  refine VB_iconst (q := 652) dL_isRefused_651 rfl ?_
  refine VB_callUW (q := 655) dL_isRefused_652 (u_out2_nob (a := a) (c := c) (S := S) (b := b) (d := d) (F := F) ho hg634 (-11) (-11) (-12) (-1) (by omega) (by omega) (by omega) (by omega) (cWear_w (wrZ_no hI (by omega)))) yw_outfit rfl gL_isRefused_L_outfit xU_U rfl (Nat.le_of_ble_eq_true rfl) (by decide) ⟨by show _ ≤ 64; omega, by show _ ≤ 6 * 64; omega⟩ (fun x652 g652 hP652 hg652 => ?_)
  refine VB_lo (lo' := 26) (by show 26 ≤ 25 + 1; omega) ?_
  refine VB_top (y := iZ (-981)) hP652 ?_
  refine VB_sipush (q := 658) dL_isRefused_655 (by decide) rfl ?_
  refine VB_icmp_ne (q := 661) (tgt := 665) dL_isRefused_658 (by decide) (by decide) (by decide) (fun hc => absurd hc (by decide)) (fun _ => ?_)
  refine VB_iconst (q := 662) dL_isRefused_661 rfl ?_
  refine VB_goto (tgt := 666) dL_isRefused_662 (by decide) ?_
  refine VB_istore (q := 668) (lv' := [(0, _), (1, _), (2, _), (3, _), (4, _), (5, _), (6, _), (8, _)]) dL_isRefused_666 (by decide) rfl rfl ?_
  refine VB_iload (q := 670) dL_isRefused_668 7 rfl rfl ?_
  refine VB_if_eq (q := 673) (tgt := 688) dL_isRefused_670 (by decide) (by decide) (fun hc => absurd hc (by decide)) (fun _ => ?_)
  refine VB_aload_n (q := 674) dL_isRefused_673 0 rfl rfl ?_
  refine VB_aload_n (q := 675) dL_isRefused_674 1 rfl rfl ?_
  refine VB_callUL (q := 678) dL_isRefused_675 (u_all (a := a) (c := c) (S := S) (b := b) (d := d) (F := F) hI hg652) yv_L_all rfl gL_isRefused_L_all xU_U rfl (Nat.le_of_ble_eq_true rfl) (by decide) ⟨by show _ ≤ 64; omega, by show _ ≤ 6 * 64; omega⟩ (fun x675 g675 hg675 => ?_)
  refine VB_lload (q := 680) dL_isRefused_678 6 rfl rfl ?_
  refine VB_lcmp (q := 681) dL_isRefused_680 rfl ?_
  refine VB_uany (fun u680 => ?_)
  refine VB_uif_ne (q := 684) (tgt := 688) dL_isRefused_681 (by decide) ?_ ?_
  · skip
    refine VB_iconst (q := 689) dL_isRefused_688 rfl ?_
    exact VB_widen (k' := 64) (n' := 6 * 64) (by omega) (by omega) (VB_zretU dL_isRefused_689 rfl rfl trivial (by decide) hg675 rfl)
  · skip
    refine VB_iconst (q := 685) dL_isRefused_684 rfl ?_
    refine VB_goto (tgt := 689) dL_isRefused_685 (by decide) ?_
    exact VB_widen (k' := 64) (n' := 6 * 64) (by omega) (by omega) (VB_zretU dL_isRefused_689 rfl rfl trivial (by decide) hg675 rfl)
