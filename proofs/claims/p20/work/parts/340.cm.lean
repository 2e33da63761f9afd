/-! the things, and what is missing -/
set_option maxRecDepth 100000 in
set_option maxHeartbeats 8000000 in
theorem u_areThings {a : Nat → Nat} {c : Nat → ClassId} {S : St} {b : Nat → Nat} {d : Nat → ClassId} {F : Nat → Nat → Int32} {g : Nat → Nat} {m0 : Nat} (hI : Iv S F m0) (hg : ∀ j, g j < 4096) : CtU yL_areThings wsL_areThings (rmU 10 12) (tyl c d) [.ref (a 0), .ref (b 0), .ref (b 1), .ref (b 4)] (wal a c S b d F g) (wal a c S b d F) (fun _ => True) (fun _ => 0) 12 := by
  obtain ⟨ho, hn, hm4, hM0, hG, hC⟩ := id hI
  refine CtU_of (own := RL) (by decide) rfl rfl (Nat.le_of_ble_eq_true rfl) ?_
  refine VB_lvq (lv' := [(0, _), (1, _), (2, _), (3, _)]) rfl ?_
  refine VB_iconst (q := 1) dL_areThings_0 rfl ?_
  refine VB_istore (q := 3) (lv' := [(0, _), (1, _), (2, _), (3, _), (4, _)]) dL_areThings_1 (by decide) rfl rfl ?_
  refine VB_iconst (q := 4) dL_areThings_3 rfl ?_
  refine VB_istore (q := 6) (lv' := [(0, _), (1, _), (2, _), (3, _), (4, _), (5, _)]) dL_areThings_4 (by decide) rfl rfl ?_
  refine VB_iconst (q := 7) dL_areThings_6 rfl ?_
  have J9 : ∀ (zkA kA : Nat) (j9_4 : Int32) (j9_5 : Bool) (gj9 : Nat → Nat), (∀ j, gj9 j < 4096) → kA ≤ m0 → m0 + 1 ≤ kA + zkA → VB 0 RL cL_areThings 9 (some .boolean) wsL_areThings (rmU 10 12) vXU (tyl c d) (qU (wal a c S b d F) (tyl c d) (fun _ => True) (fun _ => 0) 12 (6 * 12)) (1 * kA) (6 * kA) (wal a c S b d F gj9) 9 [(0, .ref (a 0)), (1, .ref (b 0)), (2, .ref (b 1)), (3, .ref (b 4)), (4, .int j9_4), (5, .int (iZ (bZ j9_5))), (6, .int (iZ ((kA : Nat) : Int)))] [] := by
    intro zkA
    induction zkA with
    | zero => intro kA j9_4 j9_5 gj9 hgj9 hkA1 hkA2; exact absurd hkA2 (by omega)
    | succ zkA ihkA =>
      intro kA j9_4 j9_5 gj9 hgj9 hkA1 hkA2
      refine VB_iload (q := 11) dL_areThings_9 6 rfl rfl ?_
      refine VB_aload_n (q := 12) dL_areThings_11 3 rfl rfl ?_
      refine VB_iconst (q := 13) dL_areThings_12 rfl ?_
      refine VB_iald (q := 14) (v := (iZ ((m0 : Nat) : Int))) dL_areThings_13 13 12 rfl rfl (0) (by omega) (by omega) (by decide) (hM0) rfl ?_
      have J93 : ∀ (j93_4 : Int32) (j93_5 : Bool), VB 0 RL cL_areThings 9 (some .boolean) wsL_areThings (rmU 10 12) vXU (tyl c d) (qU (wal a c S b d F) (tyl c d) (fun _ => True) (fun _ => 0) 12 (6 * 12)) (1 * kA) (6 * kA) (wal a c S b d F gj9) 93 [(0, .ref (a 0)), (1, .ref (b 0)), (2, .ref (b 1)), (3, .ref (b 4)), (4, .int j93_4), (5, .int (iZ (bZ j93_5))), (6, .int (iZ ((kA : Nat) : Int)))] [] := by
        intro j93_4 j93_5
        refine VB_iconst (q := 94) dL_areThings_93 rfl ?_
        have J96 : ∀ (zlB lB : Nat) (j96_4 : Int32) (j96_5 : Bool), lB ≤ 6 → 6 + 1 ≤ lB + zlB → VB 0 RL cL_areThings 9 (some .boolean) wsL_areThings (rmU 10 12) vXU (tyl c d) (qU (wal a c S b d F) (tyl c d) (fun _ => True) (fun _ => 0) 12 (6 * 12)) (1 * kA + 1 * lB) (6 * kA + 6 * lB) (wal a c S b d F gj9) 96 [(0, .ref (a 0)), (1, .ref (b 0)), (2, .ref (b 1)), (3, .ref (b 4)), (4, .int j96_4), (5, .int (iZ (bZ j96_5))), (6, .int (iZ ((lB : Nat) : Int)))] [] := by
          intro zlB
          induction zlB with
          | zero => intro lB j96_4 j96_5 hlB1 hlB2; exact absurd hlB2 (by omega)
          | succ zlB ihlB =>
            intro lB j96_4 j96_5 hlB1 hlB2
            refine VB_iload (q := 98) dL_areThings_96 6 rfl rfl ?_
            refine VB_bipush (q := 100) dL_areThings_98 (by decide) rfl ?_
            have J249 : ∀ (j249_4 : Int32) (j249_5 : Bool), VB 0 RL cL_areThings 9 (some .boolean) wsL_areThings (rmU 10 12) vXU (tyl c d) (qU (wal a c S b d F) (tyl c d) (fun _ => True) (fun _ => 0) 12 (6 * 12)) (1 * kA + 1 * lB) (6 * kA + 6 * lB) (wal a c S b d F gj9) 249 [(0, .ref (a 0)), (1, .ref (b 0)), (2, .ref (b 1)), (3, .ref (b 4)), (4, .int j249_4), (5, .int (iZ (bZ j249_5))), (6, .int (iZ ((lB : Nat) : Int)))] [] := by
              intro j249_4 j249_5
              refine VB_iload (q := 251) dL_areThings_249 5 rfl rfl ?_
              have J268 : ∀ (j268_4 : Int32) (j268_5 : Bool) (j268_s0 : Bool), VB 0 RL cL_areThings 9 (some .boolean) wsL_areThings (rmU 10 12) vXU (tyl c d) (qU (wal a c S b d F) (tyl c d) (fun _ => True) (fun _ => 0) 12 (6 * 12)) (1 * kA + 1 * lB) (6 * kA + 6 * lB) (wal a c S b d F gj9) 268 [(0, .ref (a 0)), (1, .ref (b 0)), (2, .ref (b 1)), (3, .ref (b 4)), (4, .int j268_4), (5, .int (iZ (bZ j268_5))), (6, .int (iZ ((lB : Nat) : Int)))] [.int (iZ (bZ j268_s0))] := by
                intro j268_4 j268_5 j268_s0
                exact VB_widen (k' := 12) (n' := 6 * 12) (by omega) (by omega) (VB_zretU dL_areThings_268 rfl (by cases j268_s0 <;> rfl) trivial (Nat.zero_le _) hgj9 rfl)
              have J267 : ∀ (j267_4 : Int32) (j267_5 : Bool), VB 0 RL cL_areThings 9 (some .boolean) wsL_areThings (rmU 10 12) vXU (tyl c d) (qU (wal a c S b d F) (tyl c d) (fun _ => True) (fun _ => 0) 12 (6 * 12)) (1 * kA + 1 * lB) (6 * kA + 6 * lB) (wal a c S b d F gj9) 267 [(0, .ref (a 0)), (1, .ref (b 0)), (2, .ref (b 1)), (3, .ref (b 4)), (4, .int j267_4), (5, .int (iZ (bZ j267_5))), (6, .int (iZ ((lB : Nat) : Int)))] [] := by
                intro j267_4 j267_5
                refine VB_iconst (q := 268) dL_areThings_267 rfl ?_
                exact VB_widen (by omega) (by omega) (J268 j267_4 j267_5 false)
              refine VB_uif_eq (q := 254) (tgt := 267) dL_areThings_251 (by decide) ?_ ?_
              · skip
                exact VB_widen (by omega) (by omega) (J267 j249_4 j249_5)
              · skip
                refine VB_aload_n (q := 255) dL_areThings_254 0 rfl rfl ?_
                refine VB_callIf (q := 258) (w1 := []) (w2 := [(b 0, .inl (d 0, 60, .inl (F 0))), (b 1, .inl (d 1, 12, .inl (F 1))), (b 2, .inl (d 2, 8, .inl (F 2))), (b 3, .inl (d 3, 4, .inl (F 3))), (b 4, .inl (d 4, 2, .inl (F 4)))]) (ws' := wal a c S b d F gj9) dL_areThings_255 (c_X0_things (a := a) (c := c) (S := S) (g := gj9) ) yv_X0_things rfl gL_areThings_X0_things rfl 0 rfl rfl rfl rfl (Nat.le_of_ble_eq_true rfl) (by decide) ⟨by show _ ≤ 12; omega, by show _ ≤ 6 * 12; omega⟩ rfl rfl rfl (tyl_in c d) ?_
                refine VB_uany (fun u255 => ?_)
                refine VB_iload (q := 260) dL_areThings_258 4 rfl rfl ?_
                refine VB_uicmp_ne (q := 263) (tgt := 267) dL_areThings_260 (by decide) ?_ ?_
                · skip
                  exact VB_widen (by omega) (by omega) (J267 j249_4 j249_5)
                · skip
                  refine VB_iconst (q := 264) dL_areThings_263 rfl ?_
                  refine VB_goto (tgt := 268) dL_areThings_264 (by decide) ?_
                  exact VB_widen (by omega) (by omega) (J268 j249_4 j249_5 true)
            refine VB_icmp_ge (q := 103) (tgt := 249) dL_areThings_100 (by omega) (by omega) (by decide) (fun t100 => ?_) (fun t100 => ?_)
            · skip
              exact VB_widen (by omega) (by omega) (J249 j96_4 j96_5)
            · skip
              refine VB_iload (q := 105) dL_areThings_103 5 rfl rfl ?_
              refine VB_uif_eq (q := 108) (tgt := 249) dL_areThings_105 (by decide) ?_ ?_
              · skip
                exact VB_widen (by omega) (by omega) (J249 j96_4 j96_5)
              · skip
                refine VB_iconst (q := 109) dL_areThings_108 rfl ?_
                refine VB_istore (q := 111) (lv' := [(0, _), (1, _), (2, _), (3, _), (4, _), (5, _), (6, _), (7, _)]) dL_areThings_109 (by decide) rfl rfl ?_
                refine VB_iconst (q := 112) dL_areThings_111 rfl ?_
                have J114 : ∀ (zkB kB : Nat) (j114_4 : Int32) (j114_5 : Bool) (j114_7 : Int32), kB ≤ m0 → m0 + 1 ≤ kB + zkB → VB 0 RL cL_areThings 9 (some .boolean) wsL_areThings (rmU 10 12) vXU (tyl c d) (qU (wal a c S b d F) (tyl c d) (fun _ => True) (fun _ => 0) 12 (6 * 12)) (1 * kA + 1 * lB) (6 * kA + 6 * lB) (wal a c S b d F gj9) 114 [(0, .ref (a 0)), (1, .ref (b 0)), (2, .ref (b 1)), (3, .ref (b 4)), (4, .int j114_4), (5, .int (iZ (bZ j114_5))), (6, .int (iZ ((lB : Nat) : Int))), (7, .int j114_7), (8, .int (iZ ((kB : Nat) : Int)))] [] := by
                  intro zkB
                  induction zkB with
                  | zero => intro kB j114_4 j114_5 j114_7 hkB1 hkB2; exact absurd hkB2 (by omega)
                  | succ zkB ihkB =>
                    intro kB j114_4 j114_5 j114_7 hkB1 hkB2
                    refine VB_iload (q := 116) dL_areThings_114 8 rfl rfl ?_
                    refine VB_aload_n (q := 117) dL_areThings_116 3 rfl rfl ?_
                    refine VB_iconst (q := 118) dL_areThings_117 rfl ?_
                    refine VB_iald (q := 119) (v := (iZ ((m0 : Nat) : Int))) dL_areThings_118 13 12 rfl rfl (0) (by omega) (by omega) (by decide) (hM0) rfl ?_
                    refine VB_icmp_ge (q := 122) (tgt := 210) dL_areThings_119 (by omega) (by omega) (by decide) (fun t119 => ?_) (fun t119 => ?_)
                    · skip
                      refine VB_aload_n (q := 211) dL_areThings_210 0 rfl rfl ?_
                      refine VB_iload (q := 213) dL_areThings_211 6 rfl rfl ?_
                      refine VB_iconst (q := 214) dL_areThings_213 rfl ?_
                      refine VB_idiv (q := 215) (a := lB) (b := 2) dL_areThings_214 (by omega) (by decide) (by decide) rfl ?_
                      refine VB_iload (q := 217) dL_areThings_215 6 rfl rfl ?_
                      refine VB_iconst (q := 218) dL_areThings_217 rfl ?_
                      refine VB_irem (q := 219) (a := lB) (b := 2) dL_areThings_218 (by omega) (by decide) (by decide) rfl ?_
                      refine VB_iconst (q := 220) dL_areThings_219 rfl ?_
                      have J228 : ∀ (j228_4 : Int32) (j228_5 : Bool) (j228_7 : Int32) (j228_s0 : Bool), VB 0 RL cL_areThings 9 (some .boolean) wsL_areThings (rmU 10 12) vXU (tyl c d) (qU (wal a c S b d F) (tyl c d) (fun _ => True) (fun _ => 0) 12 (6 * 12)) (1 * kA + 1 * lB) (6 * kA + 6 * lB) (wal a c S b d F gj9) 228 [(0, .ref (a 0)), (1, .ref (b 0)), (2, .ref (b 1)), (3, .ref (b 4)), (4, .int j228_4), (5, .int (iZ (bZ j228_5))), (6, .int (iZ ((lB : Nat) : Int))), (7, .int j228_7), (8, .int (iZ ((kB : Nat) : Int)))] [.int (iZ (bZ j228_s0)), .int (iZ ((lB / 2 : Nat) : Int)), .ref (a 0)] := by
                        intro j228_4 j228_5 j228_7 j228_s0
                        refine VB_callX0 (q := 231) (w1 := []) (w2 := [(b 0, .inl (d 0, 60, .inl (F 0))), (b 1, .inl (d 1, 12, .inl (F 1))), (b 2, .inl (d 2, 8, .inl (F 2))), (b 3, .inl (d 3, 4, .inl (F 3))), (b 4, .inl (d 4, 2, .inl (F 4)))]) (ws' := wal a c S b d F gj9) dL_areThings_228 (c_X0_load (a := a) (c := c) (S := S) (g := gj9) ho ((lB / 2 : Nat) : Int) j228_s0 (by omega)) (by rw [show cCare ((lB / 2 : Nat) : Int) = 0 from cCare_in (by omega)]; rfl) yv_X0_load rfl gL_areThings_X0_load rfl 0 rfl rfl rfl rfl (Nat.le_of_ble_eq_true rfl) (by decide) ⟨by show _ ≤ 12; omega, by show _ ≤ 6 * 12; omega⟩ rfl xU_U rfl rfl (tyl_in c d) ?_
                        refine VB_uany (fun u228 => ?_)
                        refine VB_iload (q := 233) dL_areThings_231 7 rfl rfl ?_
                        have J241 : ∀ (j241_4 : Int32) (j241_5 : Bool) (j241_7 : Int32) (j241_s0 : Bool), VB 0 RL cL_areThings 9 (some .boolean) wsL_areThings (rmU 10 12) vXU (tyl c d) (qU (wal a c S b d F) (tyl c d) (fun _ => True) (fun _ => 0) 12 (6 * 12)) (1 * kA + 1 * lB + 1) (6 * kA + 6 * lB + 6) (wal a c S b d F gj9) 241 [(0, .ref (a 0)), (1, .ref (b 0)), (2, .ref (b 1)), (3, .ref (b 4)), (4, .int j241_4), (5, .int (iZ (bZ j241_5))), (6, .int (iZ ((lB : Nat) : Int))), (7, .int j241_7), (8, .int (iZ ((kB : Nat) : Int)))] [.int (iZ (bZ j241_s0))] := by
                          intro j241_4 j241_5 j241_7 j241_s0
                          refine VB_istore (q := 243) (lv' := [(0, _), (1, _), (2, _), (3, _), (4, _), (5, _), (6, _), (7, _), (8, _)]) dL_areThings_241 (by decide) rfl rfl ?_
                          refine VB_iinc (q := 246) (y := ((lB + 1 : Nat) : Int)) (lv' := [(0, _), (1, _), (2, _), (3, _), (4, _), (5, _), (6, _), (7, _), (8, _)]) dL_areThings_243 6 rfl (by omega) (by decide) rfl rfl ?_
                          refine VB_goto (tgt := 96) dL_areThings_246 (by decide) ?_
                          refine VB_loc (lv' := [(0, _), (1, _), (2, _), (3, _), (4, _), (5, _), (6, _)]) [0, 1, 2, 3, 4, 5, 6] rfl ?_
                          exact VB_widen (by omega) (by omega) (ihlB (lB + 1) j241_4 j241_s0 (by omega) (by omega))
                        refine VB_uicmp_ne (q := 236) (tgt := 240) dL_areThings_233 (by decide) ?_ ?_
                        · skip
                          refine VB_iconst (q := 241) dL_areThings_240 rfl ?_
                          exact VB_widen (by omega) (by omega) (J241 j228_4 j228_5 j228_7 false)
                        · skip
                          refine VB_iconst (q := 237) dL_areThings_236 rfl ?_
                          refine VB_goto (tgt := 241) dL_areThings_237 (by decide) ?_
                          exact VB_widen (by omega) (by omega) (J241 j228_4 j228_5 j228_7 true)
                      refine VB_icmp_ne (q := 223) (tgt := 227) dL_areThings_220 (by omega) (by omega) (by decide) (fun t220 => ?_) (fun t220 => ?_)
                      · skip
                        refine VB_iconst (q := 228) dL_areThings_227 rfl ?_
                        exact VB_widen (by omega) (by omega) (J228 j114_4 j114_5 j114_7 false)
                      · skip
                        refine VB_iconst (q := 224) dL_areThings_223 rfl ?_
                        refine VB_goto (tgt := 228) dL_areThings_224 (by decide) ?_
                        exact VB_widen (by omega) (by omega) (J228 j114_4 j114_5 j114_7 true)
                    · skip
                      refine VB_iload (q := 124) dL_areThings_122 7 rfl rfl ?_
                      refine VB_aload_n (q := 125) dL_areThings_124 1 rfl rfl ?_
                      refine VB_iconst (q := 126) dL_areThings_125 rfl ?_
                      refine VB_iload (q := 128) dL_areThings_126 8 rfl rfl ?_
                      refine VB_imul (q := 129) dL_areThings_128 rfl ?_
                      refine VB_iald (q := 130) dL_areThings_129 9 8 rfl rfl ((5 * kB)) (by omega) (by omega) (by decide) rfl rfl ?_
                      refine VB_uany (fun u129 => ?_)
                      have J201 : ∀ (j201_4 : Int32) (j201_5 : Bool) (j201_7 : Int32) (j201_s0 : Bool) (j201_s1 : Int32), VB 0 RL cL_areThings 9 (some .boolean) wsL_areThings (rmU 10 12) vXU (tyl c d) (qU (wal a c S b d F) (tyl c d) (fun _ => True) (fun _ => 0) 12 (6 * 12)) (1 * kA + 1 * lB) (6 * kA + 6 * lB) (wal a c S b d F gj9) 201 [(0, .ref (a 0)), (1, .ref (b 0)), (2, .ref (b 1)), (3, .ref (b 4)), (4, .int j201_4), (5, .int (iZ (bZ j201_5))), (6, .int (iZ ((lB : Nat) : Int))), (7, .int j201_7), (8, .int (iZ ((kB : Nat) : Int)))] [.int (iZ (bZ j201_s0)), .int j201_s1] := by
                        intro j201_4 j201_5 j201_7 j201_s0 j201_s1
                        refine VB_uiadd (q := 202) dL_areThings_201 rfl (fun u201 => ?_)
                        refine VB_istore (q := 204) (lv' := [(0, _), (1, _), (2, _), (3, _), (4, _), (5, _), (6, _), (7, _), (8, _)]) dL_areThings_202 (by decide) rfl rfl ?_
                        refine VB_iinc (q := 207) (y := ((kB + 1 : Nat) : Int)) (lv' := [(0, _), (1, _), (2, _), (3, _), (4, _), (5, _), (6, _), (7, _), (8, _)]) dL_areThings_204 8 rfl (by omega) (by decide) rfl rfl ?_
                        refine VB_goto (tgt := 114) dL_areThings_207 (by decide) ?_
                        exact VB_widen (by omega) (by omega) (ihkB (kB + 1) j201_4 j201_5 u201 (by omega) (by omega))
                      have J200 : ∀ (j200_4 : Int32) (j200_5 : Bool) (j200_7 : Int32) (j200_s0 : Int32), VB 0 RL cL_areThings 9 (some .boolean) wsL_areThings (rmU 10 12) vXU (tyl c d) (qU (wal a c S b d F) (tyl c d) (fun _ => True) (fun _ => 0) 12 (6 * 12)) (1 * kA + 1 * lB) (6 * kA + 6 * lB) (wal a c S b d F gj9) 200 [(0, .ref (a 0)), (1, .ref (b 0)), (2, .ref (b 1)), (3, .ref (b 4)), (4, .int j200_4), (5, .int (iZ (bZ j200_5))), (6, .int (iZ ((lB : Nat) : Int))), (7, .int j200_7), (8, .int (iZ ((kB : Nat) : Int)))] [.int j200_s0] := by
                        intro j200_4 j200_5 j200_7 j200_s0
                        refine VB_iconst (q := 201) dL_areThings_200 rfl ?_
                        exact VB_widen (by omega) (by omega) (J201 j200_4 j200_5 j200_7 false j200_s0)
                      refine VB_uif_lt (q := 133) (tgt := 200) dL_areThings_130 (by decide) ?_ ?_
                      · skip
                        exact VB_widen (by omega) (by omega) (J200 j114_4 j114_5 j114_7 j114_7)
                      · skip
                        refine VB_aload_n (q := 134) dL_areThings_133 1 rfl rfl ?_
                        refine VB_iconst (q := 135) dL_areThings_134 rfl ?_
                        refine VB_iload (q := 137) dL_areThings_135 8 rfl rfl ?_
                        refine VB_imul (q := 138) dL_areThings_137 rfl ?_
                        refine VB_iconst (q := 139) dL_areThings_138 rfl ?_
                        refine VB_iadd (q := 140) dL_areThings_139 rfl ?_
                        refine VB_iald (q := 141) dL_areThings_140 9 8 rfl rfl (((5 * kB) + 4)) (by omega) (by omega) (by decide) rfl rfl ?_
                        refine VB_uany (fun u140 => ?_)
                        refine VB_iload (q := 143) dL_areThings_141 6 rfl rfl ?_
                        refine VB_iconst (q := 144) dL_areThings_143 rfl ?_
                        refine VB_idiv (q := 145) (a := lB) (b := 2) dL_areThings_144 (by omega) (by decide) (by decide) rfl ?_
                        refine VB_uicmp_ne (q := 148) (tgt := 200) dL_areThings_145 (by decide) ?_ ?_
                        · skip
                          exact VB_widen (by omega) (by omega) (J200 j114_4 j114_5 j114_7 j114_7)
                        · skip
                          refine VB_aload_n (q := 149) dL_areThings_148 1 rfl rfl ?_
                          refine VB_iconst (q := 150) dL_areThings_149 rfl ?_
                          refine VB_iload (q := 152) dL_areThings_150 8 rfl rfl ?_
                          refine VB_imul (q := 153) dL_areThings_152 rfl ?_
                          refine VB_iconst (q := 154) dL_areThings_153 rfl ?_
                          refine VB_iadd (q := 155) dL_areThings_154 rfl ?_
                          refine VB_iald (q := 156) dL_areThings_155 9 8 rfl rfl (((5 * kB) + 1)) (by omega) (by omega) (by decide) rfl rfl ?_
                          refine VB_uany (fun u155 => ?_)
                          refine VB_iconst (q := 157) dL_areThings_156 rfl ?_
                          have J165 : ∀ (j165_4 : Int32) (j165_5 : Bool) (j165_7 : Int32) (j165_s0 : Bool) (j165_s1 : Int32), VB 0 RL cL_areThings 9 (some .boolean) wsL_areThings (rmU 10 12) vXU (tyl c d) (qU (wal a c S b d F) (tyl c d) (fun _ => True) (fun _ => 0) 12 (6 * 12)) (1 * kA + 1 * lB) (6 * kA + 6 * lB) (wal a c S b d F gj9) 165 [(0, .ref (a 0)), (1, .ref (b 0)), (2, .ref (b 1)), (3, .ref (b 4)), (4, .int j165_4), (5, .int (iZ (bZ j165_5))), (6, .int (iZ ((lB : Nat) : Int))), (7, .int j165_7), (8, .int (iZ ((kB : Nat) : Int)))] [.int (iZ (bZ j165_s0)), .int j165_s1] := by
                            intro j165_4 j165_5 j165_7 j165_s0 j165_s1
                            refine VB_iload (q := 167) dL_areThings_165 6 rfl rfl ?_
                            refine VB_iconst (q := 168) dL_areThings_167 rfl ?_
                            refine VB_irem (q := 169) (a := lB) (b := 2) dL_areThings_168 (by omega) (by decide) (by decide) rfl ?_
                            refine VB_iconst (q := 170) dL_areThings_169 rfl ?_
                            have J178 : ∀ (j178_4 : Int32) (j178_5 : Bool) (j178_7 : Int32) (j178_s0 : Bool) (j178_s1 : Bool) (j178_s2 : Int32), VB 0 RL cL_areThings 9 (some .boolean) wsL_areThings (rmU 10 12) vXU (tyl c d) (qU (wal a c S b d F) (tyl c d) (fun _ => True) (fun _ => 0) 12 (6 * 12)) (1 * kA + 1 * lB) (6 * kA + 6 * lB) (wal a c S b d F gj9) 178 [(0, .ref (a 0)), (1, .ref (b 0)), (2, .ref (b 1)), (3, .ref (b 4)), (4, .int j178_4), (5, .int (iZ (bZ j178_5))), (6, .int (iZ ((lB : Nat) : Int))), (7, .int j178_7), (8, .int (iZ ((kB : Nat) : Int)))] [.int (iZ (bZ j178_s0)), .int (iZ (bZ j178_s1)), .int j178_s2] := by
                              intro j178_4 j178_5 j178_7 j178_s0 j178_s1 j178_s2
                              refine VB_uicmp_ne (q := 181) (tgt := 200) dL_areThings_178 (by decide) ?_ ?_
                              · skip
                                exact VB_widen (by omega) (by omega) (J200 j178_4 j178_5 j178_7 j178_s2)
                              · skip
                                refine VB_aload_n (q := 182) dL_areThings_181 2 rfl rfl ?_
                                refine VB_iload (q := 184) dL_areThings_182 8 rfl rfl ?_
                                refine VB_iald (q := 185) dL_areThings_184 10 9 rfl rfl (kB) (by omega) (by omega) (by decide) rfl rfl ?_
                                refine VB_uany (fun u184 => ?_)
                                refine VB_aload_n (q := 186) dL_areThings_185 1 rfl rfl ?_
                                refine VB_iconst (q := 187) dL_areThings_186 rfl ?_
                                refine VB_iload (q := 189) dL_areThings_187 8 rfl rfl ?_
                                refine VB_imul (q := 190) dL_areThings_189 rfl ?_
                                refine VB_iconst (q := 191) dL_areThings_190 rfl ?_
                                refine VB_iadd (q := 192) dL_areThings_191 rfl ?_
                                refine VB_iald (q := 193) dL_areThings_192 9 8 rfl rfl (((5 * kB) + 3)) (by omega) (by omega) (by decide) rfl rfl ?_
                                refine VB_uany (fun u192 => ?_)
                                refine VB_uicmp_ne (q := 196) (tgt := 200) dL_areThings_193 (by decide) ?_ ?_
                                · skip
                                  exact VB_widen (by omega) (by omega) (J200 j178_4 j178_5 j178_7 j178_s2)
                                · skip
                                  refine VB_iconst (q := 197) dL_areThings_196 rfl ?_
                                  refine VB_goto (tgt := 201) dL_areThings_197 (by decide) ?_
                                  exact VB_widen (by omega) (by omega) (J201 j178_4 j178_5 j178_7 true j178_s2)
                            refine VB_icmp_ne (q := 173) (tgt := 177) dL_areThings_170 (by omega) (by omega) (by decide) (fun t170 => ?_) (fun t170 => ?_)
                            · skip
                              refine VB_iconst (q := 178) dL_areThings_177 rfl ?_
                              exact VB_widen (by omega) (by omega) (J178 j165_4 j165_5 j165_7 false j165_s0 j165_s1)
                            · skip
                              refine VB_iconst (q := 174) dL_areThings_173 rfl ?_
                              refine VB_goto (tgt := 178) dL_areThings_174 (by decide) ?_
                              exact VB_widen (by omega) (by omega) (J178 j165_4 j165_5 j165_7 true j165_s0 j165_s1)
                          refine VB_uicmp_le (q := 160) (tgt := 164) dL_areThings_157 (by decide) ?_ ?_
                          · skip
                            refine VB_iconst (q := 165) dL_areThings_164 rfl ?_
                            exact VB_widen (by omega) (by omega) (J165 j114_4 j114_5 j114_7 false j114_7)
                          · skip
                            refine VB_iconst (q := 161) dL_areThings_160 rfl ?_
                            refine VB_goto (tgt := 165) dL_areThings_161 (by decide) ?_
                            exact VB_widen (by omega) (by omega) (J165 j114_4 j114_5 j114_7 true j114_7)
                refine VB_istore (q := 114) (lv' := [(0, _), (1, _), (2, _), (3, _), (4, _), (5, _), (6, _), (7, _), (8, _)]) dL_areThings_112 (by decide) rfl rfl ?_
                exact VB_widen (by omega) (by omega) (J114 (m0 + 1) 0 j96_4 j96_5 (iZ 0) (by omega) (by omega))
        refine VB_istore (q := 96) (lv' := [(0, _), (1, _), (2, _), (3, _), (4, _), (5, _), (6, _)]) dL_areThings_94 (by decide) rfl rfl ?_
        exact VB_widen (by omega) (by omega) (J96 (6 + 1) 0 j93_4 j93_5 (by omega) (by omega))
      refine VB_icmp_ge (q := 17) (tgt := 93) dL_areThings_14 (by omega) (by omega) (by decide) (fun t14 => ?_) (fun t14 => ?_)
      · skip
        exact VB_widen (by omega) (by omega) (J93 j9_4 j9_5)
      · skip
        refine VB_iload (q := 19) dL_areThings_17 5 rfl rfl ?_
        refine VB_uif_eq (q := 22) (tgt := 93) dL_areThings_19 (by decide) ?_ ?_
        · skip
          exact VB_widen (by omega) (by omega) (J93 j9_4 j9_5)
        · skip
          refine VB_iload (q := 24) dL_areThings_22 4 rfl rfl ?_
          refine VB_aload_n (q := 25) dL_areThings_24 1 rfl rfl ?_
          refine VB_iconst (q := 26) dL_areThings_25 rfl ?_
          refine VB_iload (q := 28) dL_areThings_26 6 rfl rfl ?_
          refine VB_imul (q := 29) dL_areThings_28 rfl ?_
          refine VB_iald (q := 30) dL_areThings_29 9 8 rfl rfl ((5 * kA)) (by omega) (by omega) (by decide) rfl rfl ?_
          refine VB_uany (fun u29 => ?_)
          have J38 : ∀ (j38_4 : Int32) (j38_5 : Bool) (j38_s0 : Bool) (j38_s1 : Int32), VB 0 RL cL_areThings 9 (some .boolean) wsL_areThings (rmU 10 12) vXU (tyl c d) (qU (wal a c S b d F) (tyl c d) (fun _ => True) (fun _ => 0) 12 (6 * 12)) (1 * kA) (6 * kA) (wal a c S b d F gj9) 38 [(0, .ref (a 0)), (1, .ref (b 0)), (2, .ref (b 1)), (3, .ref (b 4)), (4, .int j38_4), (5, .int (iZ (bZ j38_5))), (6, .int (iZ ((kA : Nat) : Int)))] [.int (iZ (bZ j38_s0)), .int j38_s1] := by
            intro j38_4 j38_5 j38_s0 j38_s1
            refine VB_uiadd (q := 39) dL_areThings_38 rfl (fun u38 => ?_)
            refine VB_istore (q := 41) (lv' := [(0, _), (1, _), (2, _), (3, _), (4, _), (5, _), (6, _)]) dL_areThings_39 (by decide) rfl rfl ?_
            refine VB_aload_n (q := 42) dL_areThings_41 0 rfl rfl ?_
            refine VB_iconst (q := 43) dL_areThings_42 rfl ?_
            refine VB_iload (q := 45) dL_areThings_43 6 rfl rfl ?_
            refine VB_iconst (q := 46) dL_areThings_45 rfl ?_
            refine VB_callUW (q := 49) dL_areThings_46 (u_of1 (a := a) (c := c) (S := S) (b := b) (d := d) (F := F) ho hgj9 ((kA : Nat) : Int) 0 (by omega) (by omega)) yw_of rfl gL_areThings_L_of xU_U rfl (Nat.le_of_ble_eq_true rfl) (by decide) ⟨by show _ ≤ 12; omega, by show _ ≤ 6 * 12; omega⟩ (fun x46 g46 hP46 hg46 => ?_)
            refine VB_lo (lo' := 0) (by show 0 ≤ 0 + 0; omega) ?_
            refine VB_aload_n (q := 50) dL_areThings_49 1 rfl rfl ?_
            refine VB_iconst (q := 51) dL_areThings_50 rfl ?_
            refine VB_iload (q := 53) dL_areThings_51 6 rfl rfl ?_
            refine VB_imul (q := 54) dL_areThings_53 rfl ?_
            refine VB_iald (q := 55) dL_areThings_54 9 8 rfl rfl ((5 * kA)) (by omega) (by omega) (by decide) rfl rfl ?_
            refine VB_uany (fun u54 => ?_)
            have J77 : ∀ (j77_4 : Int32) (j77_5 : Bool) (j77_s0 : Int32), VB 0 RL cL_areThings 9 (some .boolean) wsL_areThings (rmU 10 12) vXU (tyl c d) (qU (wal a c S b d F) (tyl c d) (fun _ => True) (fun _ => 0) 12 (6 * 12)) (1 * kA + 1) (6 * kA + 6) (wal a c S b d F g46) 77 [(0, .ref (a 0)), (1, .ref (b 0)), (2, .ref (b 1)), (3, .ref (b 4)), (4, .int j77_4), (5, .int (iZ (bZ j77_5))), (6, .int (iZ ((kA : Nat) : Int)))] [.int j77_s0, .int x46] := by
              intro j77_4 j77_5 j77_s0
              have J85 : ∀ (j85_4 : Int32) (j85_5 : Bool) (j85_s0 : Bool), VB 0 RL cL_areThings 9 (some .boolean) wsL_areThings (rmU 10 12) vXU (tyl c d) (qU (wal a c S b d F) (tyl c d) (fun _ => True) (fun _ => 0) 12 (6 * 12)) (1 * kA + 1) (6 * kA + 6) (wal a c S b d F g46) 85 [(0, .ref (a 0)), (1, .ref (b 0)), (2, .ref (b 1)), (3, .ref (b 4)), (4, .int j85_4), (5, .int (iZ (bZ j85_5))), (6, .int (iZ ((kA : Nat) : Int)))] [.int (iZ (bZ j85_s0))] := by
                intro j85_4 j85_5 j85_s0
                refine VB_istore (q := 87) (lv' := [(0, _), (1, _), (2, _), (3, _), (4, _), (5, _), (6, _)]) dL_areThings_85 (by decide) rfl rfl ?_
                refine VB_iinc (q := 90) (y := ((kA + 1 : Nat) : Int)) (lv' := [(0, _), (1, _), (2, _), (3, _), (4, _), (5, _), (6, _)]) dL_areThings_87 6 rfl (by omega) (by decide) rfl rfl ?_
                refine VB_goto (tgt := 9) dL_areThings_90 (by decide) ?_
                exact VB_widen (by omega) (by omega) (ihkA (kA + 1) j85_4 j85_s0 g46 hg46 (by omega) (by omega))
              refine VB_uicmp_ne (q := 80) (tgt := 84) dL_areThings_77 (by decide) ?_ ?_
              · skip
                refine VB_iconst (q := 85) dL_areThings_84 rfl ?_
                exact VB_widen (by omega) (by omega) (J85 j77_4 j77_5 false)
              · skip
                refine VB_iconst (q := 81) dL_areThings_80 rfl ?_
                refine VB_goto (tgt := 85) dL_areThings_81 (by decide) ?_
                exact VB_widen (by omega) (by omega) (J85 j77_4 j77_5 true)
            refine VB_uif_ge (q := 58) (tgt := 64) dL_areThings_55 (by decide) ?_ ?_
            · skip
              refine VB_aload_n (q := 65) dL_areThings_64 1 rfl rfl ?_
              refine VB_iconst (q := 66) dL_areThings_65 rfl ?_
              refine VB_iload (q := 68) dL_areThings_66 6 rfl rfl ?_
              refine VB_imul (q := 69) dL_areThings_68 rfl ?_
              refine VB_iconst (q := 70) dL_areThings_69 rfl ?_
              refine VB_iadd (q := 71) dL_areThings_70 rfl ?_
              refine VB_iald (q := 72) dL_areThings_71 9 8 rfl rfl (((5 * kA) + 3)) (by omega) (by omega) (by decide) rfl rfl ?_
              refine VB_uany (fun u71 => ?_)
              refine VB_aload_n (q := 73) dL_areThings_72 2 rfl rfl ?_
              refine VB_iload (q := 75) dL_areThings_73 6 rfl rfl ?_
              refine VB_iald (q := 76) dL_areThings_75 10 9 rfl rfl (kA) (by omega) (by omega) (by decide) rfl rfl ?_
              refine VB_uany (fun u75 => ?_)
              refine VB_uisub (q := 77) dL_areThings_76 rfl (fun u76 => ?_)
              exact VB_widen (by omega) (by omega) (J77 u38 j38_5 u76)
            · skip
              refine VB_sipush (q := 61) dL_areThings_58 (by decide) rfl ?_
              refine VB_goto (tgt := 77) dL_areThings_61 (by decide) ?_
              exact VB_widen (by omega) (by omega) (J77 u38 j38_5 (iZ (-981)))
          refine VB_uif_ge (q := 33) (tgt := 37) dL_areThings_30 (by decide) ?_ ?_
          · skip
            refine VB_iconst (q := 38) dL_areThings_37 rfl ?_
            exact VB_widen (by omega) (by omega) (J38 j9_4 j9_5 true j9_4)
          · skip
            refine VB_iconst (q := 34) dL_areThings_33 rfl ?_
            refine VB_goto (tgt := 38) dL_areThings_34 (by decide) ?_
            exact VB_widen (by omega) (by omega) (J38 j9_4 j9_5 false j9_4)
  refine VB_istore (q := 9) (lv' := [(0, _), (1, _), (2, _), (3, _), (4, _), (5, _), (6, _)]) dL_areThings_7 (by decide) rfl rfl ?_
  exact VB_widen (by omega) (by omega) (J9 (m0 + 1) 0 (iZ 0) true g hg (by omega) (by omega))
set_option maxRecDepth 100000 in
set_option maxHeartbeats 8000000 in
theorem u_isMissing {a : Nat → Nat} {c : Nat → ClassId} {S : St} {b : Nat → Nat} {d : Nat → ClassId} {F : Nat → Nat → Int32} {g : Nat → Nat} {m0 : Nat} (hI : Iv S F m0) (hg : ∀ j, g j < 4096) : CtU yL_isMissing wsL_isMissing (rmU 10 0) (tyl c d) [.ref (a 0), .ref (b 0), .ref (b 1), .ref (b 2), .ref (b 4)] (wal a c S b d F g) (wal a c S b d F) (fun _ => True) (fun _ => 0) 0 := by
  obtain ⟨ho, hn, hm4, hM0, hG, hC⟩ := id hI
  have hits := mt8 S
  refine CtU_of (own := RL) (by decide) rfl rfl (Nat.le_of_ble_eq_true rfl) ?_
  refine VB_lvq (lv' := [(0, _), (1, _), (2, _), (3, _), (4, _)]) rfl ?_
  refine VB_aload_n (q := 1) dL_isMissing_0 0 rfl rfl ?_
  refine VB_callIf (q := 4) (w1 := []) (w2 := [(b 0, .inl (d 0, 60, .inl (F 0))), (b 1, .inl (d 1, 12, .inl (F 1))), (b 2, .inl (d 2, 8, .inl (F 2))), (b 3, .inl (d 3, 4, .inl (F 3))), (b 4, .inl (d 4, 2, .inl (F 4)))]) (ws' := wal a c S b d F g) dL_isMissing_1 (c_X0_missingTop (a := a) (c := c) (S := S) (g := g) ho) yv_X0_missingTop rfl gL_isMissing_X0_missingTop rfl 0 rfl rfl rfl rfl (Nat.le_of_ble_eq_true rfl) (by decide) ⟨by show _ ≤ 0; omega, by show _ ≤ 6 * 0; omega⟩ rfl rfl rfl (tyl_in c d) ?_
  refine VB_istore (q := 6) (lv' := [(0, _), (1, _), (2, _), (3, _), (4, _), (5, _)]) dL_isMissing_4 (by decide) rfl rfl ?_
  refine VB_iconst (q := 7) dL_isMissing_6 rfl ?_
  refine VB_istore (q := 9) (lv' := [(0, _), (1, _), (2, _), (3, _), (4, _), (5, _), (6, _)]) dL_isMissing_7 (by decide) rfl rfl ?_
  refine VB_iload (q := 11) dL_isMissing_9 5 rfl rfl ?_
  have J26 : ∀ (j26_s0 : Bool), VB 0 RL cL_isMissing 12 (some .boolean) wsL_isMissing (rmU 10 0) vXU (tyl c d) (qU (wal a c S b d F) (tyl c d) (fun _ => True) (fun _ => 0) 0 (6 * 0)) (0) (0) (wal a c S b d F g) 26 [(0, .ref (a 0)), (1, .ref (b 0)), (2, .ref (b 1)), (3, .ref (b 2)), (4, .ref (b 4)), (5, .int (iZ (((mtS S 8).1 : Nat) : Int))), (6, .int (iZ (-1)))] [.int (iZ (bZ j26_s0))] := by
    intro j26_s0
    refine VB_istore (q := 28) (lv' := [(0, _), (1, _), (2, _), (3, _), (4, _), (5, _), (6, _), (7, _)]) dL_isMissing_26 (by decide) rfl rfl ?_
    refine VB_iconst (q := 29) dL_isMissing_28 rfl ?_
    have J31 : ∀ (zrA rA : Nat) (j31_6 : Int32) (j31_7 : Bool), rA ≤ 9 → 9 + 1 ≤ rA + zrA → VB 0 RL cL_isMissing 12 (some .boolean) wsL_isMissing (rmU 10 0) vXU (tyl c d) (qU (wal a c S b d F) (tyl c d) (fun _ => True) (fun _ => 0) 0 (6 * 0)) (0) (0) (wal a c S b d F g) 31 [(0, .ref (a 0)), (1, .ref (b 0)), (2, .ref (b 1)), (3, .ref (b 2)), (4, .ref (b 4)), (5, .int (iZ (((mtS S 8).1 : Nat) : Int))), (6, .int j31_6), (7, .int (iZ (bZ j31_7))), (8, .int (iZ ((rA : Nat) : Int)))] [] := by
      intro zrA
      induction zrA with
      | zero => intro rA j31_6 j31_7 hrA1 hrA2; exact absurd hrA2 (by omega)
      | succ zrA ihrA =>
        intro rA j31_6 j31_7 hrA1 hrA2
        refine VB_iload (q := 33) dL_isMissing_31 8 rfl rfl ?_
        refine VB_bipush (q := 35) dL_isMissing_33 (by decide) rfl ?_
        have J181 : ∀ (j181_6 : Int32) (j181_7 : Bool), VB 0 RL cL_isMissing 12 (some .boolean) wsL_isMissing (rmU 10 0) vXU (tyl c d) (qU (wal a c S b d F) (tyl c d) (fun _ => True) (fun _ => 0) 0 (6 * 0)) (0) (0) (wal a c S b d F g) 181 [(0, .ref (a 0)), (1, .ref (b 0)), (2, .ref (b 1)), (3, .ref (b 2)), (4, .ref (b 4)), (5, .int (iZ (((mtS S 8).1 : Nat) : Int))), (6, .int j181_6), (7, .int (iZ (bZ j181_7))), (8, .int (iZ ((rA : Nat) : Int)))] [] := by
          intro j181_6 j181_7
          refine VB_iload (q := 183) dL_isMissing_181 7 rfl rfl ?_
          exact VB_widen (k' := 0) (n' := 6 * 0) (by omega) (by omega) (VB_zretU dL_isMissing_183 rfl (by cases j181_7 <;> rfl) trivial (Nat.zero_le _) hg rfl)
        refine VB_icmp_ge (q := 38) (tgt := 181) dL_isMissing_35 (by omega) (by omega) (by decide) (fun t35 => ?_) (fun t35 => ?_)
        · skip
          exact VB_widen (by omega) (by omega) (J181 j31_6 j31_7)
        · skip
          refine VB_iload (q := 40) dL_isMissing_38 7 rfl rfl ?_
          refine VB_uif_eq (q := 43) (tgt := 181) dL_isMissing_40 (by decide) ?_ ?_
          · skip
            exact VB_widen (by omega) (by omega) (J181 j31_6 j31_7)
          · skip
            refine VB_iload (q := 45) dL_isMissing_43 8 rfl rfl ?_
            have J57 : ∀ (j57_6 : Int32) (q57 : Nat), q57 < 8 → VB 0 RL cL_isMissing 12 (some .boolean) wsL_isMissing (rmU 10 0) vXU (tyl c d) (qU (wal a c S b d F) (tyl c d) (fun _ => True) (fun _ => 0) 0 (6 * 0)) (0) (0) (wal a c S b d F g) 57 [(0, .ref (a 0)), (1, .ref (b 0)), (2, .ref (b 1)), (3, .ref (b 2)), (4, .ref (b 4)), (5, .int (iZ (((mtS S 8).1 : Nat) : Int))), (6, .int j57_6), (7, .int (iZ (bZ j31_7))), (8, .int (iZ ((rA : Nat) : Int)))] [.int (iZ ((q57 : Nat) : Int))] := by
              intro j57_6 q57 hq57
              refine VB_istore (q := 59) (lv' := [(0, _), (1, _), (2, _), (3, _), (4, _), (5, _), (6, _), (7, _), (8, _), (9, _)]) dL_isMissing_57 (by decide) rfl rfl ?_
              refine VB_iconst (q := 60) dL_isMissing_59 rfl ?_
              refine VB_istore (q := 62) (lv' := [(0, _), (1, _), (2, _), (3, _), (4, _), (5, _), (6, _), (7, _), (8, _), (9, _), (10, _)]) dL_isMissing_60 (by decide) rfl rfl ?_
              refine VB_iconst (q := 63) dL_isMissing_62 rfl ?_
              have J65 : ∀ (zkA kA : Nat) (j65_6 : Int32) (j65_10 : Int32), kA ≤ m0 → m0 + 1 ≤ kA + zkA → VB 0 RL cL_isMissing 12 (some .boolean) wsL_isMissing (rmU 10 0) vXU (tyl c d) (qU (wal a c S b d F) (tyl c d) (fun _ => True) (fun _ => 0) 0 (6 * 0)) (0) (0) (wal a c S b d F g) 65 [(0, .ref (a 0)), (1, .ref (b 0)), (2, .ref (b 1)), (3, .ref (b 2)), (4, .ref (b 4)), (5, .int (iZ (((mtS S 8).1 : Nat) : Int))), (6, .int j65_6), (7, .int (iZ (bZ j31_7))), (8, .int (iZ ((rA : Nat) : Int))), (9, .int (iZ ((q57 : Nat) : Int))), (10, .int j65_10), (11, .int (iZ ((kA : Nat) : Int)))] [] := by
                intro zkA
                induction zkA with
                | zero => intro kA j65_6 j65_10 hkA1 hkA2; exact absurd hkA2 (by omega)
                | succ zkA ihkA =>
                  intro kA j65_6 j65_10 hkA1 hkA2
                  refine VB_iload (q := 67) dL_isMissing_65 11 rfl rfl ?_
                  refine VB_aload (q := 69) dL_isMissing_67 4 rfl rfl ?_
                  refine VB_iconst (q := 70) dL_isMissing_69 rfl ?_
                  refine VB_iald (q := 71) (v := (iZ ((m0 : Nat) : Int))) dL_isMissing_70 13 12 rfl rfl (0) (by omega) (by omega) (by decide) (hM0) rfl ?_
                  refine VB_icmp_ge (q := 74) (tgt := 133) dL_isMissing_71 (by omega) (by omega) (by decide) (fun t71 => ?_) (fun t71 => ?_)
                  · skip
                    refine VB_iload (q := 135) dL_isMissing_133 8 rfl rfl ?_
                    have J145 : ∀ (j145_6 : Int32) (j145_10 : Int32) (j145_s0 : Int32), VB 0 RL cL_isMissing 12 (some .boolean) wsL_isMissing (rmU 10 0) vXU (tyl c d) (qU (wal a c S b d F) (tyl c d) (fun _ => True) (fun _ => 0) 0 (6 * 0)) (0) (0) (wal a c S b d F g) 145 [(0, .ref (a 0)), (1, .ref (b 0)), (2, .ref (b 1)), (3, .ref (b 2)), (4, .ref (b 4)), (5, .int (iZ (((mtS S 8).1 : Nat) : Int))), (6, .int j145_6), (7, .int (iZ (bZ j31_7))), (8, .int (iZ ((rA : Nat) : Int))), (9, .int (iZ ((q57 : Nat) : Int))), (10, .int j145_10), (11, .int (iZ ((kA : Nat) : Int)))] [.int j145_s0] := by
                      intro j145_6 j145_10 j145_s0
                      refine VB_istore (q := 147) (lv' := [(0, _), (1, _), (2, _), (3, _), (4, _), (5, _), (6, _), (7, _), (8, _), (9, _), (10, _), (11, _)]) dL_isMissing_145 (by decide) rfl rfl ?_
                      refine VB_iload (q := 149) dL_isMissing_147 10 rfl rfl ?_
                      refine VB_iload (q := 151) dL_isMissing_149 6 rfl rfl ?_
                      have J173 : ∀ (j173_6 : Int32) (j173_10 : Int32) (j173_s0 : Bool), VB 0 RL cL_isMissing 12 (some .boolean) wsL_isMissing (rmU 10 0) vXU (tyl c d) (qU (wal a c S b d F) (tyl c d) (fun _ => True) (fun _ => 0) 0 (6 * 0)) (0) (0) (wal a c S b d F g) 173 [(0, .ref (a 0)), (1, .ref (b 0)), (2, .ref (b 1)), (3, .ref (b 2)), (4, .ref (b 4)), (5, .int (iZ (((mtS S 8).1 : Nat) : Int))), (6, .int j173_6), (7, .int (iZ (bZ j31_7))), (8, .int (iZ ((rA : Nat) : Int))), (9, .int (iZ ((q57 : Nat) : Int))), (10, .int j173_10), (11, .int (iZ ((kA : Nat) : Int)))] [.int (iZ (bZ j173_s0))] := by
                        intro j173_6 j173_10 j173_s0
                        refine VB_istore (q := 175) (lv' := [(0, _), (1, _), (2, _), (3, _), (4, _), (5, _), (6, _), (7, _), (8, _), (9, _), (10, _), (11, _)]) dL_isMissing_173 (by decide) rfl rfl ?_
                        refine VB_iinc (q := 178) (y := ((rA + 1 : Nat) : Int)) (lv' := [(0, _), (1, _), (2, _), (3, _), (4, _), (5, _), (6, _), (7, _), (8, _), (9, _), (10, _), (11, _)]) dL_isMissing_175 8 rfl (by omega) (by decide) rfl rfl ?_
                        refine VB_goto (tgt := 31) dL_isMissing_178 (by decide) ?_
                        refine VB_loc (lv' := [(0, _), (1, _), (2, _), (3, _), (4, _), (5, _), (6, _), (7, _), (8, _)]) [0, 1, 2, 3, 4, 5, 6, 7, 8] rfl ?_
                        exact VB_widen (by omega) (by omega) (ihrA (rA + 1) j173_6 j173_s0 (by omega) (by omega))
                      have J168 : ∀ (j168_10 : Int32), VB 0 RL cL_isMissing 12 (some .boolean) wsL_isMissing (rmU 10 0) vXU (tyl c d) (qU (wal a c S b d F) (tyl c d) (fun _ => True) (fun _ => 0) 0 (6 * 0)) (0) (0) (wal a c S b d F g) 168 [(0, .ref (a 0)), (1, .ref (b 0)), (2, .ref (b 1)), (3, .ref (b 2)), (4, .ref (b 4)), (5, .int (iZ (((mtS S 8).1 : Nat) : Int))), (6, .int j145_s0), (7, .int (iZ (bZ j31_7))), (8, .int (iZ ((rA : Nat) : Int))), (9, .int (iZ ((q57 : Nat) : Int))), (10, .int j168_10), (11, .int (iZ ((kA : Nat) : Int)))] [] := by
                        intro j168_10
                        refine VB_iconst (q := 169) dL_isMissing_168 rfl ?_
                        refine VB_goto (tgt := 173) dL_isMissing_169 (by decide) ?_
                        exact VB_widen (by omega) (by omega) (J173 j145_s0 j168_10 true)
                      refine VB_uicmp_lt (q := 154) (tgt := 168) dL_isMissing_151 (by decide) ?_ ?_
                      · skip
                        exact VB_widen (by omega) (by omega) (J168 j145_10)
                      · skip
                        refine VB_iload (q := 156) dL_isMissing_154 10 rfl rfl ?_
                        refine VB_iload (q := 158) dL_isMissing_156 6 rfl rfl ?_
                        have J172 : ∀ (j172_6 : Int32) (j172_10 : Int32), VB 0 RL cL_isMissing 12 (some .boolean) wsL_isMissing (rmU 10 0) vXU (tyl c d) (qU (wal a c S b d F) (tyl c d) (fun _ => True) (fun _ => 0) 0 (6 * 0)) (0) (0) (wal a c S b d F g) 172 [(0, .ref (a 0)), (1, .ref (b 0)), (2, .ref (b 1)), (3, .ref (b 2)), (4, .ref (b 4)), (5, .int (iZ (((mtS S 8).1 : Nat) : Int))), (6, .int j172_6), (7, .int (iZ (bZ j31_7))), (8, .int (iZ ((rA : Nat) : Int))), (9, .int (iZ ((q57 : Nat) : Int))), (10, .int j172_10), (11, .int (iZ ((kA : Nat) : Int)))] [] := by
                          intro j172_6 j172_10
                          refine VB_iconst (q := 173) dL_isMissing_172 rfl ?_
                          exact VB_widen (by omega) (by omega) (J173 j172_6 j172_10 false)
                        refine VB_uicmp_ne (q := 161) (tgt := 172) dL_isMissing_158 (by decide) ?_ ?_
                        · skip
                          exact VB_widen (by omega) (by omega) (J172 j145_s0 j145_10)
                        · skip
                          refine VB_iload (q := 163) dL_isMissing_161 9 rfl rfl ?_
                          refine VB_iload (q := 165) dL_isMissing_163 5 rfl rfl ?_
                          refine VB_uicmp_lt (q := 168) (tgt := 172) dL_isMissing_165 (by decide) ?_ ?_
                          · skip
                            exact VB_widen (by omega) (by omega) (J172 j145_s0 j145_10)
                          · skip
                            exact VB_widen (by omega) (by omega) (J168 j145_10)
                    refine VB_if_ne (q := 138) (tgt := 143) dL_isMissing_135 (by omega) (by decide) (fun t135 => ?_) (fun t135 => ?_)
                    · skip
                      refine VB_iload (q := 145) dL_isMissing_143 6 rfl rfl ?_
                      exact VB_widen (by omega) (by omega) (J145 j65_6 j65_10 j65_6)
                    · skip
                      refine VB_iload (q := 140) dL_isMissing_138 10 rfl rfl ?_
                      refine VB_goto (tgt := 145) dL_isMissing_140 (by decide) ?_
                      exact VB_widen (by omega) (by omega) (J145 j65_6 j65_10 j65_10)
                  · skip
                    refine VB_iload (q := 76) dL_isMissing_74 10 rfl rfl ?_
                    refine VB_aload_n (q := 77) dL_isMissing_76 1 rfl rfl ?_
                    refine VB_iconst (q := 78) dL_isMissing_77 rfl ?_
                    refine VB_iload (q := 80) dL_isMissing_78 11 rfl rfl ?_
                    refine VB_imul (q := 81) dL_isMissing_80 rfl ?_
                    refine VB_iald (q := 82) dL_isMissing_81 9 8 rfl rfl ((5 * kA)) (by omega) (by omega) (by decide) rfl rfl ?_
                    refine VB_uany (fun u81 => ?_)
                    refine VB_iconst (q := 83) dL_isMissing_82 rfl ?_
                    have J124 : ∀ (j124_6 : Int32) (j124_10 : Int32) (j124_s0 : Bool) (j124_s1 : Int32), VB 0 RL cL_isMissing 12 (some .boolean) wsL_isMissing (rmU 10 0) vXU (tyl c d) (qU (wal a c S b d F) (tyl c d) (fun _ => True) (fun _ => 0) 0 (6 * 0)) (0) (0) (wal a c S b d F g) 124 [(0, .ref (a 0)), (1, .ref (b 0)), (2, .ref (b 1)), (3, .ref (b 2)), (4, .ref (b 4)), (5, .int (iZ (((mtS S 8).1 : Nat) : Int))), (6, .int j124_6), (7, .int (iZ (bZ j31_7))), (8, .int (iZ ((rA : Nat) : Int))), (9, .int (iZ ((q57 : Nat) : Int))), (10, .int j124_10), (11, .int (iZ ((kA : Nat) : Int)))] [.int (iZ (bZ j124_s0)), .int j124_s1] := by
                      intro j124_6 j124_10 j124_s0 j124_s1
                      refine VB_uiadd (q := 125) dL_isMissing_124 rfl (fun u124 => ?_)
                      refine VB_istore (q := 127) (lv' := [(0, _), (1, _), (2, _), (3, _), (4, _), (5, _), (6, _), (7, _), (8, _), (9, _), (10, _), (11, _)]) dL_isMissing_125 (by decide) rfl rfl ?_
                      refine VB_iinc (q := 130) (y := ((kA + 1 : Nat) : Int)) (lv' := [(0, _), (1, _), (2, _), (3, _), (4, _), (5, _), (6, _), (7, _), (8, _), (9, _), (10, _), (11, _)]) dL_isMissing_127 11 rfl (by omega) (by decide) rfl rfl ?_
                      refine VB_goto (tgt := 65) dL_isMissing_130 (by decide) ?_
                      exact VB_widen (by omega) (by omega) (ihkA (kA + 1) j124_6 u124 (by omega) (by omega))
                    have J123 : ∀ (j123_6 : Int32) (j123_10 : Int32) (j123_s0 : Int32), VB 0 RL cL_isMissing 12 (some .boolean) wsL_isMissing (rmU 10 0) vXU (tyl c d) (qU (wal a c S b d F) (tyl c d) (fun _ => True) (fun _ => 0) 0 (6 * 0)) (0) (0) (wal a c S b d F g) 123 [(0, .ref (a 0)), (1, .ref (b 0)), (2, .ref (b 1)), (3, .ref (b 2)), (4, .ref (b 4)), (5, .int (iZ (((mtS S 8).1 : Nat) : Int))), (6, .int j123_6), (7, .int (iZ (bZ j31_7))), (8, .int (iZ ((rA : Nat) : Int))), (9, .int (iZ ((q57 : Nat) : Int))), (10, .int j123_10), (11, .int (iZ ((kA : Nat) : Int)))] [.int j123_s0] := by
                      intro j123_6 j123_10 j123_s0
                      refine VB_iconst (q := 124) dL_isMissing_123 rfl ?_
                      exact VB_widen (by omega) (by omega) (J124 j123_6 j123_10 false j123_s0)
                    refine VB_uicmp_ne (q := 86) (tgt := 123) dL_isMissing_83 (by decide) ?_ ?_
                    · skip
                      exact VB_widen (by omega) (by omega) (J123 j65_6 j65_10 j65_10)
                    · skip
                      refine VB_aload_n (q := 87) dL_isMissing_86 2 rfl rfl ?_
                      refine VB_iload (q := 89) dL_isMissing_87 11 rfl rfl ?_
                      refine VB_iald (q := 90) dL_isMissing_89 10 9 rfl rfl (kA) (by omega) (by omega) (by decide) rfl rfl ?_
                      refine VB_uany (fun u89 => ?_)
                      refine VB_aload_n (q := 91) dL_isMissing_90 1 rfl rfl ?_
                      refine VB_iconst (q := 92) dL_isMissing_91 rfl ?_
                      refine VB_iload (q := 94) dL_isMissing_92 11 rfl rfl ?_
                      refine VB_imul (q := 95) dL_isMissing_94 rfl ?_
                      refine VB_iconst (q := 96) dL_isMissing_95 rfl ?_
                      refine VB_iadd (q := 97) dL_isMissing_96 rfl ?_
                      refine VB_iald (q := 98) dL_isMissing_97 9 8 rfl rfl (((5 * kA) + 3)) (by omega) (by omega) (by decide) rfl rfl ?_
                      refine VB_uany (fun u97 => ?_)
                      refine VB_uicmp_ge (q := 101) (tgt := 123) dL_isMissing_98 (by decide) ?_ ?_
                      · skip
                        exact VB_widen (by omega) (by omega) (J123 j65_6 j65_10 j65_10)
                      · skip
                        refine VB_aload_n (q := 102) dL_isMissing_101 3 rfl rfl ?_
                        refine VB_iload (q := 104) dL_isMissing_102 9 rfl rfl ?_
                        refine VB_iald (q := 105) dL_isMissing_104 11 10 rfl rfl (q57) (by omega) (by omega) (by decide) rfl rfl ?_
                        refine VB_uany (fun u104 => ?_)
                        refine VB_aload_n (q := 106) dL_isMissing_105 1 rfl rfl ?_
                        refine VB_iconst (q := 107) dL_isMissing_106 rfl ?_
                        refine VB_iload (q := 109) dL_isMissing_107 11 rfl rfl ?_
                        refine VB_imul (q := 110) dL_isMissing_109 rfl ?_
                        refine VB_iconst (q := 111) dL_isMissing_110 rfl ?_
                        refine VB_iadd (q := 112) dL_isMissing_111 rfl ?_
                        refine VB_iald (q := 113) dL_isMissing_112 9 8 rfl rfl (((5 * kA) + 1)) (by omega) (by omega) (by decide) rfl rfl ?_
                        refine VB_uany (fun u112 => ?_)
                        refine VB_uishr (q := 114) dL_isMissing_113 rfl (fun u113 => ?_)
                        refine VB_iconst (q := 115) dL_isMissing_114 rfl ?_
                        refine VB_uiand (q := 116) dL_isMissing_115 rfl (fun u115 => ?_)
                        refine VB_uif_ne (q := 119) (tgt := 123) dL_isMissing_116 (by decide) ?_ ?_
                        · skip
                          exact VB_widen (by omega) (by omega) (J123 j65_6 j65_10 j65_10)
                        · skip
                          refine VB_iconst (q := 120) dL_isMissing_119 rfl ?_
                          refine VB_goto (tgt := 124) dL_isMissing_120 (by decide) ?_
                          exact VB_widen (by omega) (by omega) (J124 j65_6 j65_10 true j65_10)
              refine VB_istore (q := 65) (lv' := [(0, _), (1, _), (2, _), (3, _), (4, _), (5, _), (6, _), (7, _), (8, _), (9, _), (10, _), (11, _)]) dL_isMissing_63 (by decide) rfl rfl ?_
              exact VB_widen (by omega) (by omega) (J65 (m0 + 1) 0 j57_6 (iZ 0) (by omega) (by omega))
            refine VB_if_ne (q := 48) (tgt := 53) dL_isMissing_45 (by omega) (by decide) (fun t45 => ?_) (fun t45 => ?_)
            · skip
              refine VB_iload (q := 55) dL_isMissing_53 8 rfl rfl ?_
              refine VB_iconst (q := 56) dL_isMissing_55 rfl ?_
              refine VB_isub (q := 57) dL_isMissing_56 rfl ?_
              refine VB_top (y := iZ (((rA - 1) : Nat) : Int)) (congrArg iZ (by omega)) ?_
              exact VB_widen (by omega) (by omega) (J57 j31_6 ((rA - 1)) (by omega))
            · skip
              refine VB_iload (q := 50) dL_isMissing_48 5 rfl rfl ?_
              refine VB_goto (tgt := 57) dL_isMissing_50 (by decide) ?_
              refine VB_top (y := iZ (((mtS S 8).1 : Nat) : Int)) (congrArg iZ (by omega)) ?_
              exact VB_widen (by omega) (by omega) (J57 j31_6 ((mtS S 8).1) (by omega))
    refine VB_istore (q := 31) (lv' := [(0, _), (1, _), (2, _), (3, _), (4, _), (5, _), (6, _), (7, _), (8, _)]) dL_isMissing_29 (by decide) rfl rfl ?_
    exact VB_widen (by omega) (by omega) (J31 (9 + 1) 0 (iZ (-1)) j26_s0 (by omega) (by omega))
  have J25 : VB 0 RL cL_isMissing 12 (some .boolean) wsL_isMissing (rmU 10 0) vXU (tyl c d) (qU (wal a c S b d F) (tyl c d) (fun _ => True) (fun _ => 0) 0 (6 * 0)) (0) (0) (wal a c S b d F g) 25 [(0, .ref (a 0)), (1, .ref (b 0)), (2, .ref (b 1)), (3, .ref (b 2)), (4, .ref (b 4)), (5, .int (iZ (((mtS S 8).1 : Nat) : Int))), (6, .int (iZ (-1)))] [] := by
    refine VB_iconst (q := 26) dL_isMissing_25 rfl ?_
    exact VB_widen (by omega) (by omega) (J26 false)
  refine VB_if_lt (q := 14) (tgt := 25) dL_isMissing_11 (by omega) (by decide) (fun t11 => ?_) (fun t11 => ?_)
  · skip
    exact VB_widen (by omega) (by omega) J25
  · skip
    refine VB_iload (q := 16) dL_isMissing_14 5 rfl rfl ?_
    refine VB_bipush (q := 18) dL_isMissing_16 (by decide) rfl ?_
    refine VB_icmp_ge (q := 21) (tgt := 25) dL_isMissing_18 (by omega) (by omega) (by decide) (fun t18 => ?_) (fun t18 => ?_)
    · skip
      exact VB_widen (by omega) (by omega) J25
    · skip
      refine VB_iconst (q := 22) dL_isMissing_21 rfl ?_
      refine VB_goto (tgt := 26) dL_isMissing_22 (by decide) ?_
      exact VB_widen (by omega) (by omega) (J26 true)
