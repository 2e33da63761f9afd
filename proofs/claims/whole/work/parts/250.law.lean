/-! the law's questions, one by one: both objects answer the same -/
theorem mtS_in (S : St) : ∀ k, (mtS S k).1 ≤ k
  | 0 => Nat.le_refl 0
  | k + 1 => by
    have ih := mtS_in S k
    show (if (mtS S k).2 < cnt (cbP S k) (sN S) then (k, cnt (cbP S k) (sN S)) else mtS S k).1 ≤ k + 1
    split
    · exact Nat.le_succ k
    · omega
set_option maxRecDepth 100000 in
set_option maxHeartbeats 4000000 in
theorem law_add {rt : Option FieldType} {QL : VQ} {k n : Nat} {s0 L : Nat} {xs : Nat → Int32} {o : Nat} {co : ClassId} {fo : Nat → Int64} {a : Nat → Nat} {c : Nat → ClassId} {b : Nat → Nat} {d : Nat → ClassId} {S : St} {g1 g2 : Nat → Nat} {th : Nat} {i : Nat} (ho : Ok S) (hg1 : ∀ j, g1 j < 4096) (hg2 : ∀ j, g2 j < 4096) (hi : i + 6 ≤ L) (hL : L ≤ 3072) (hkn : k + 1 ≤ 1067 ∧ n + 6 ≤ 10898) (K : ∀ (S' : St) (g1' g2' : Nat → Nat) (th' : Nat) (fo' : Nat → Int64), Ok S' → (∀ j, g1' j < 4096) → (∀ j, g2' j < 4096) → V RL cL_law 7 rt wsL_law room_1 (vXL s0 L xs) (tyz co c d) QL (k + 1) (n + 6) (lwz o co fo' a c b d S' g1' g2' th') 1306 [(0, .ref s0), (1, .ref (a 0)), (2, .ref (b 0)), (3, .ref o), (4, .int (iZ i))] []) : V RL cL_law 7 rt wsL_law room_1 (vXL s0 L xs) (tyz co c d) QL k n (lwz o co fo a c b d S g1 g2 th) 124 [(0, .ref s0), (1, .ref (a 0)), (2, .ref (b 0)), (3, .ref o), (4, .int (iZ i))] [] := by
  refine V_aload_n (q := 125) dL_law_124 1 rfl rfl ?_
  refine V_aload_n (q := 126) dL_law_125 0 rfl rfl ?_
  refine V_iload (q := 128) dL_law_126 4 rfl rfl ?_
  refine V_iconst (q := 129) dL_law_128 rfl ?_
  refine V_iadd (q := 130) dL_law_129 rfl ?_
  refine V_sld dL_law_130 (i + 1) (by omega) (by omega) (by omega) (show 130 + 1 = 131 from rfl) ?_
  refine V_top (iZ_self _).symm ?_
  refine V_aload_n (q := 132) dL_law_131 0 rfl rfl ?_
  refine V_iload (q := 134) dL_law_132 4 rfl rfl ?_
  refine V_iconst (q := 135) dL_law_134 rfl ?_
  refine V_iadd (q := 136) dL_law_135 rfl ?_
  refine V_sld dL_law_136 (i + 2) (by omega) (by omega) (by omega) (show 136 + 1 = 137 from rfl) ?_
  refine V_top (iZ_self _).symm ?_
  refine V_aload_n (q := 138) dL_law_137 0 rfl rfl ?_
  refine V_iload (q := 140) dL_law_138 4 rfl rfl ?_
  refine V_iconst (q := 141) dL_law_140 rfl ?_
  refine V_iadd (q := 142) dL_law_141 rfl ?_
  refine V_sld dL_law_142 (i + 3) (by omega) (by omega) (by omega) (show 142 + 1 = 143 from rfl) ?_
  refine V_top (iZ_self _).symm ?_
  refine V_aload_n (q := 144) dL_law_143 0 rfl rfl ?_
  refine V_iload (q := 146) dL_law_144 4 rfl rfl ?_
  refine V_iconst (q := 147) dL_law_146 rfl ?_
  refine V_iadd (q := 148) dL_law_147 rfl ?_
  refine V_sld dL_law_148 (i + 4) (by omega) (by omega) (by omega) (show 148 + 1 = 149 from rfl) ?_
  refine V_top (iZ_self _).symm ?_
  refine V_aload_n (q := 150) dL_law_149 0 rfl rfl ?_
  refine V_iload (q := 152) dL_law_150 4 rfl rfl ?_
  refine V_iconst (q := 153) dL_law_152 rfl ?_
  refine V_iadd (q := 154) dL_law_153 rfl ?_
  refine V_sld dL_law_154 (i + 5) (by omega) (by omega) (by omega) (show 154 + 1 = 155 from rfl) ?_
  refine V_top (iZ_self _).symm ?_
  refine V_aload_n (q := 156) dL_law_155 3 rfl rfl ?_
  refine V_callWs (q := 159) (As := [.ref (a 0), .int (iZ (xs (i + 1)).toInt), .int (iZ (xs (i + 2)).toInt), .int (iZ (xs (i + 3)).toInt), .int (iZ (xs (i + 4)).toInt), .int (iZ (xs (i + 5)).toInt), .ref o]) (rest := []) (w1 := []) (w2 := mkc b d S g2 th) (w' := lwx o co (if cAdd S ((xs (i + 1)).toInt) ((xs (i + 2)).toInt) ((xs (i + 3)).toInt) ((xs (i + 4)).toInt) ((xs (i + 5)).toInt) = 0 then vp_updL fo 0 ((iZ (sN S)).toInt64) else fo) a c (if cAdd S ((xs (i + 1)).toInt) ((xs (i + 2)).toInt) ((xs (i + 3)).toInt) ((xs (i + 4)).toInt) ((xs (i + 5)).toInt) = 0 then uA S (((xs (i + 1)).toInt)).toNat (((xs (i + 2)).toInt)).toNat (((xs (i + 3)).toInt)).toNat (((xs (i + 4)).toInt)).toNat (((xs (i + 5)).toInt)).toNat else S) (if cAdd S ((xs (i + 1)).toInt) ((xs (i + 2)).toInt) ((xs (i + 3)).toInt) ((xs (i + 4)).toInt) ((xs (i + 5)).toInt) = 0 then g1 else g1)) (ws' := lwx o co (if cAdd S ((xs (i + 1)).toInt) ((xs (i + 2)).toInt) ((xs (i + 3)).toInt) ((xs (i + 4)).toInt) ((xs (i + 5)).toInt) = 0 then vp_updL fo 0 ((iZ (sN S)).toInt64) else fo) a c (if cAdd S ((xs (i + 1)).toInt) ((xs (i + 2)).toInt) ((xs (i + 3)).toInt) ((xs (i + 4)).toInt) ((xs (i + 5)).toInt) = 0 then uA S (((xs (i + 1)).toInt)).toNat (((xs (i + 2)).toInt)).toNat (((xs (i + 3)).toInt)).toNat (((xs (i + 4)).toInt)).toNat (((xs (i + 5)).toInt)).toNat else S) (if cAdd S ((xs (i + 1)).toInt) ((xs (i + 2)).toInt) ((xs (i + 3)).toInt) ((xs (i + 4)).toInt) ((xs (i + 5)).toInt) = 0 then g1 else g1) ++ mkc b d S g2 th) dL_law_156 (w_add (a := a) (c := c) (g := g1) (o := o) (co := co) (fo := fo) ho ((xs (i + 1)).toInt) ((xs (i + 2)).toInt) ((xs (i + 3)).toInt) ((xs (i + 4)).toInt) ((xs (i + 5)).toInt) (x_toInt _) (x_toInt _) (x_toInt _) (x_toInt _) (x_toInt _)) yw_add rfl gL_law_L_add rfl (by decide) (by decide) hkn rfl rfl rfl tyz_x ?_
  refine V_istore (q := 161) (lv' := [(0, _), (1, _), (2, _), (3, _), (4, _), (5, _)]) dL_law_159 (by decide) rfl rfl ?_
  refine V_aload_n (q := 162) dL_law_161 2 rfl rfl ?_
  refine V_aload_n (q := 163) dL_law_162 0 rfl rfl ?_
  refine V_iload (q := 165) dL_law_163 4 rfl rfl ?_
  refine V_iconst (q := 166) dL_law_165 rfl ?_
  refine V_iadd (q := 167) dL_law_166 rfl ?_
  refine V_sld dL_law_167 (i + 1) (by omega) (by omega) (by omega) (show 167 + 1 = 168 from rfl) ?_
  refine V_top (iZ_self _).symm ?_
  refine V_aload_n (q := 169) dL_law_168 0 rfl rfl ?_
  refine V_iload (q := 171) dL_law_169 4 rfl rfl ?_
  refine V_iconst (q := 172) dL_law_171 rfl ?_
  refine V_iadd (q := 173) dL_law_172 rfl ?_
  refine V_sld dL_law_173 (i + 2) (by omega) (by omega) (by omega) (show 173 + 1 = 174 from rfl) ?_
  refine V_top (iZ_self _).symm ?_
  refine V_aload_n (q := 175) dL_law_174 0 rfl rfl ?_
  refine V_iload (q := 177) dL_law_175 4 rfl rfl ?_
  refine V_iconst (q := 178) dL_law_177 rfl ?_
  refine V_iadd (q := 179) dL_law_178 rfl ?_
  refine V_sld dL_law_179 (i + 3) (by omega) (by omega) (by omega) (show 179 + 1 = 180 from rfl) ?_
  refine V_top (iZ_self _).symm ?_
  refine V_aload_n (q := 181) dL_law_180 0 rfl rfl ?_
  refine V_iload (q := 183) dL_law_181 4 rfl rfl ?_
  refine V_iconst (q := 184) dL_law_183 rfl ?_
  refine V_iadd (q := 185) dL_law_184 rfl ?_
  refine V_sld dL_law_185 (i + 4) (by omega) (by omega) (by omega) (show 185 + 1 = 186 from rfl) ?_
  refine V_top (iZ_self _).symm ?_
  refine V_aload_n (q := 187) dL_law_186 0 rfl rfl ?_
  refine V_iload (q := 189) dL_law_187 4 rfl rfl ?_
  refine V_iconst (q := 190) dL_law_189 rfl ?_
  refine V_iadd (q := 191) dL_law_190 rfl ?_
  refine V_sld dL_law_191 (i + 5) (by omega) (by omega) (by omega) (show 191 + 1 = 192 from rfl) ?_
  refine V_top (iZ_self _).symm ?_
  refine V_callIf (q := 195) (As := [.int (iZ (xs (i + 1)).toInt), .int (iZ (xs (i + 2)).toInt), .int (iZ (xs (i + 3)).toInt), .int (iZ (xs (i + 4)).toInt), .int (iZ (xs (i + 5)).toInt)]) (rest := []) (w1 := lwx o co (if cAdd S ((xs (i + 1)).toInt) ((xs (i + 2)).toInt) ((xs (i + 3)).toInt) ((xs (i + 4)).toInt) ((xs (i + 5)).toInt) = 0 then vp_updL fo 0 ((iZ (sN S)).toInt64) else fo) a c (if cAdd S ((xs (i + 1)).toInt) ((xs (i + 2)).toInt) ((xs (i + 3)).toInt) ((xs (i + 4)).toInt) ((xs (i + 5)).toInt) = 0 then uA S (((xs (i + 1)).toInt)).toNat (((xs (i + 2)).toInt)).toNat (((xs (i + 3)).toInt)).toNat (((xs (i + 4)).toInt)).toNat (((xs (i + 5)).toInt)).toNat else S) (if cAdd S ((xs (i + 1)).toInt) ((xs (i + 2)).toInt) ((xs (i + 3)).toInt) ((xs (i + 4)).toInt) ((xs (i + 5)).toInt) = 0 then g1 else g1)) (w2 := []) (ws' := lwx o co (if cAdd S ((xs (i + 1)).toInt) ((xs (i + 2)).toInt) ((xs (i + 3)).toInt) ((xs (i + 4)).toInt) ((xs (i + 5)).toInt) = 0 then vp_updL fo 0 ((iZ (sN S)).toInt64) else fo) a c (if cAdd S ((xs (i + 1)).toInt) ((xs (i + 2)).toInt) ((xs (i + 3)).toInt) ((xs (i + 4)).toInt) ((xs (i + 5)).toInt) = 0 then uA S (((xs (i + 1)).toInt)).toNat (((xs (i + 2)).toInt)).toNat (((xs (i + 3)).toInt)).toNat (((xs (i + 4)).toInt)).toNat (((xs (i + 5)).toInt)).toNat else S) (if cAdd S ((xs (i + 1)).toInt) ((xs (i + 2)).toInt) ((xs (i + 3)).toInt) ((xs (i + 4)).toInt) ((xs (i + 5)).toInt) = 0 then g1 else g1) ++ (mkc b d _ _ _ ++ [])) dL_law_192 (c_X1_add (b := b) (d := d) (g := g2) (th := th) ho ((xs (i + 1)).toInt) ((xs (i + 2)).toInt) ((xs (i + 3)).toInt) ((xs (i + 4)).toInt) ((xs (i + 5)).toInt) (x_toInt _) (x_toInt _) (x_toInt _) (x_toInt _) (x_toInt _)) yv_X1_add rfl gL_law_X1_add rfl 0 rfl rfl rfl rfl (by decide) (by decide) ⟨hkn.1, hkn.2⟩ (by rw [List.append_nil]) rfl rfl tyz_m ?_
  refine V_wz (ws' := lwz o co (if cAdd S ((xs (i + 1)).toInt) ((xs (i + 2)).toInt) ((xs (i + 3)).toInt) ((xs (i + 4)).toInt) ((xs (i + 5)).toInt) = 0 then vp_updL fo 0 ((iZ (sN S)).toInt64) else fo) a c b d (if cAdd S ((xs (i + 1)).toInt) ((xs (i + 2)).toInt) ((xs (i + 3)).toInt) ((xs (i + 4)).toInt) ((xs (i + 5)).toInt) = 0 then uA S (((xs (i + 1)).toInt)).toNat (((xs (i + 2)).toInt)).toNat (((xs (i + 3)).toInt)).toNat (((xs (i + 4)).toInt)).toNat (((xs (i + 5)).toInt)).toNat else S) (if cAdd S ((xs (i + 1)).toInt) ((xs (i + 2)).toInt) ((xs (i + 3)).toInt) ((xs (i + 4)).toInt) ((xs (i + 5)).toInt) = 0 then g1 else g1) g2 (cAdd S ((xs (i + 1)).toInt) ((xs (i + 2)).toInt) ((xs (i + 3)).toInt) ((xs (i + 4)).toInt) ((xs (i + 5)).toInt))) (by skip; unfold lwz; first | rfl | (simp only [ite_self, List.append_nil]; done) | (rw [List.append_nil]; rfl) | (simp only [ite_self, List.append_nil]; rfl)) ?_
  refine V_istore (q := 197) (lv' := [(0, _), (1, _), (2, _), (3, _), (4, _), (5, _), (6, _)]) dL_law_195 (by decide) rfl rfl ?_
  refine V_aload_n (q := 198) dL_law_197 2 rfl rfl ?_
  refine V_callIf (q := 201) (As := []) (rest := []) (w1 := lwx o co (if cAdd S ((xs (i + 1)).toInt) ((xs (i + 2)).toInt) ((xs (i + 3)).toInt) ((xs (i + 4)).toInt) ((xs (i + 5)).toInt) = 0 then vp_updL fo 0 ((iZ (sN S)).toInt64) else fo) a c (if cAdd S ((xs (i + 1)).toInt) ((xs (i + 2)).toInt) ((xs (i + 3)).toInt) ((xs (i + 4)).toInt) ((xs (i + 5)).toInt) = 0 then uA S (((xs (i + 1)).toInt)).toNat (((xs (i + 2)).toInt)).toNat (((xs (i + 3)).toInt)).toNat (((xs (i + 4)).toInt)).toNat (((xs (i + 5)).toInt)).toNat else S) (if cAdd S ((xs (i + 1)).toInt) ((xs (i + 2)).toInt) ((xs (i + 3)).toInt) ((xs (i + 4)).toInt) ((xs (i + 5)).toInt) = 0 then g1 else g1)) (w2 := []) (ws' := lwz o co (if cAdd S ((xs (i + 1)).toInt) ((xs (i + 2)).toInt) ((xs (i + 3)).toInt) ((xs (i + 4)).toInt) ((xs (i + 5)).toInt) = 0 then vp_updL fo 0 ((iZ (sN S)).toInt64) else fo) a c b d (if cAdd S ((xs (i + 1)).toInt) ((xs (i + 2)).toInt) ((xs (i + 3)).toInt) ((xs (i + 4)).toInt) ((xs (i + 5)).toInt) = 0 then uA S (((xs (i + 1)).toInt)).toNat (((xs (i + 2)).toInt)).toNat (((xs (i + 3)).toInt)).toNat (((xs (i + 4)).toInt)).toNat (((xs (i + 5)).toInt)).toNat else S) (if cAdd S ((xs (i + 1)).toInt) ((xs (i + 2)).toInt) ((xs (i + 3)).toInt) ((xs (i + 4)).toInt) ((xs (i + 5)).toInt) = 0 then g1 else g1) g2 (cAdd S ((xs (i + 1)).toInt) ((xs (i + 2)).toInt) ((xs (i + 3)).toInt) ((xs (i + 4)).toInt) ((xs (i + 5)).toInt))) dL_law_198 (c_X1_thrown (b := b) (d := d) (S := (if cAdd S ((xs (i + 1)).toInt) ((xs (i + 2)).toInt) ((xs (i + 3)).toInt) ((xs (i + 4)).toInt) ((xs (i + 5)).toInt) = 0 then uA S (((xs (i + 1)).toInt)).toNat (((xs (i + 2)).toInt)).toNat (((xs (i + 3)).toInt)).toNat (((xs (i + 4)).toInt)).toNat (((xs (i + 5)).toInt)).toNat else S)) (g := g2) (th := cAdd S ((xs (i + 1)).toInt) ((xs (i + 2)).toInt) ((xs (i + 3)).toInt) ((xs (i + 4)).toInt) ((xs (i + 5)).toInt))) yv_X1_thrown rfl gL_law_X1_thrown rfl 0 rfl rfl rfl rfl (by decide) (by decide) ⟨hkn.1, hkn.2⟩ (by unfold lwz; rw [List.append_nil]) (by unfold lwz; rw [List.append_nil]) rfl tyz_m ?_
  have hcc := cAdd_c S ((xs (i + 1)).toInt) ((xs (i + 2)).toInt) ((xs (i + 3)).toInt) ((xs (i + 4)).toInt) ((xs (i + 5)).toInt)
  have hcr : -2147483648 ≤ ((cAdd S ((xs (i + 1)).toInt) ((xs (i + 2)).toInt) ((xs (i + 3)).toInt) ((xs (i + 4)).toInt) ((xs (i + 5)).toInt) : Nat) : Int) ∧ ((cAdd S ((xs (i + 1)).toInt) ((xs (i + 2)).toInt) ((xs (i + 3)).toInt) ((xs (i + 4)).toInt) ((xs (i + 5)).toInt) : Nat) : Int) < 2147483648 := by omega
  refine V_iload (q := 203) dL_law_201 5 rfl rfl ?_
  refine V_icmp_eq (q := 206) (tgt := 208) dL_law_203 hcr hcr (by decide) (fun _ => ?_) (fun h => absurd rfl h)
  refine V_iload (q := 210) dL_law_208 5 rfl rfl ?_
  have KF : V RL cL_law 7 rt wsL_law room_1 (vXL s0 L xs) (tyz co c d) QL (k + 1) (n + 6) (lwz o co (if cAdd S ((xs (i + 1)).toInt) ((xs (i + 2)).toInt) ((xs (i + 3)).toInt) ((xs (i + 4)).toInt) ((xs (i + 5)).toInt) = 0 then vp_updL fo 0 ((iZ (sN S)).toInt64) else fo) a c b d (if cAdd S ((xs (i + 1)).toInt) ((xs (i + 2)).toInt) ((xs (i + 3)).toInt) ((xs (i + 4)).toInt) ((xs (i + 5)).toInt) = 0 then uA S (((xs (i + 1)).toInt)).toNat (((xs (i + 2)).toInt)).toNat (((xs (i + 3)).toInt)).toNat (((xs (i + 4)).toInt)).toNat (((xs (i + 5)).toInt)).toNat else S) (if cAdd S ((xs (i + 1)).toInt) ((xs (i + 2)).toInt) ((xs (i + 3)).toInt) ((xs (i + 4)).toInt) ((xs (i + 5)).toInt) = 0 then g1 else g1) g2 (cAdd S ((xs (i + 1)).toInt) ((xs (i + 2)).toInt) ((xs (i + 3)).toInt) ((xs (i + 4)).toInt) ((xs (i + 5)).toInt))) 225 [(0, .ref s0), (1, .ref (a 0)), (2, .ref (b 0)), (3, .ref o), (4, .int (iZ i))] [] := by
    refine V_goto (tgt := 1306) dL_law_225 (by decide) ?_
    exact K _ _ _ _ _ (ok_ite ho (fun h => ok_add ho h)) (g_ite hg1 hg1) hg2
  refine V_if_ne (q := 213) (tgt := 225) dL_law_210 hcr (by decide) (fun _ => V_loc [0, 1, 2, 3, 4] rfl KF) (fun h => ?_)
  have h0 : cAdd S ((xs (i + 1)).toInt) ((xs (i + 2)).toInt) ((xs (i + 3)).toInt) ((xs (i + 4)).toInt) ((xs (i + 5)).toInt) = 0 := by omega
  refine V_aload_n (q := 214) dL_law_213 3 rfl rfl ?_
  refine V_iconst (q := 215) dL_law_214 rfl ?_
  refine V_lald (q := 216) (v := (iZ (sN S)).toInt64) dL_law_215 0 0 rfl rfl 0 rfl (by decide) (by decide) (by rw [if_pos h0]; exact if_pos rfl) rfl ?_
  refine V_iload (q := 218) dL_law_216 6 rfl rfl ?_
  refine V_top (y := iZ (sN S)) (by rw [if_pos h0]) ?_
  refine V_i2l (q := 219) dL_law_218 rfl ?_
  refine V_lcmp (q := 220) dL_law_219 rfl ?_
  refine V_top (cmp_self _) ?_
  exact V_if_eq (q := 223) (tgt := 225) dL_law_220 (by decide) (by decide) (fun _ => V_loc [0, 1, 2, 3, 4] rfl KF) (fun h => absurd rfl h)
set_option maxRecDepth 100000 in
set_option maxHeartbeats 4000000 in
theorem law_giveAway {rt : Option FieldType} {QL : VQ} {k n : Nat} {s0 L : Nat} {xs : Nat → Int32} {o : Nat} {co : ClassId} {fo : Nat → Int64} {a : Nat → Nat} {c : Nat → ClassId} {b : Nat → Nat} {d : Nat → ClassId} {S : St} {g1 g2 : Nat → Nat} {th : Nat} {i : Nat} (ho : Ok S) (hg1 : ∀ j, g1 j < 4096) (hg2 : ∀ j, g2 j < 4096) (hi : i + 6 ≤ L) (hL : L ≤ 3072) (hkn : k + 1 ≤ 1067 ∧ n + 6 ≤ 10898) (K : ∀ (S' : St) (g1' g2' : Nat → Nat) (th' : Nat) (fo' : Nat → Int64), Ok S' → (∀ j, g1' j < 4096) → (∀ j, g2' j < 4096) → V RL cL_law 7 rt wsL_law room_1 (vXL s0 L xs) (tyz co c d) QL (k + 1) (n + 6) (lwz o co fo' a c b d S' g1' g2' th') 1306 [(0, .ref s0), (1, .ref (a 0)), (2, .ref (b 0)), (3, .ref o), (4, .int (iZ i))] []) : V RL cL_law 7 rt wsL_law room_1 (vXL s0 L xs) (tyz co c d) QL k n (lwz o co fo a c b d S g1 g2 th) 228 [(0, .ref s0), (1, .ref (a 0)), (2, .ref (b 0)), (3, .ref o), (4, .int (iZ i))] [] := by
  refine V_aload_n (q := 229) dL_law_228 1 rfl rfl ?_
  refine V_aload_n (q := 230) dL_law_229 0 rfl rfl ?_
  refine V_iload (q := 232) dL_law_230 4 rfl rfl ?_
  refine V_iconst (q := 233) dL_law_232 rfl ?_
  refine V_iadd (q := 234) dL_law_233 rfl ?_
  refine V_sld dL_law_234 (i + 1) (by omega) (by omega) (by omega) (show 234 + 1 = 235 from rfl) ?_
  refine V_top (iZ_self _).symm ?_
  refine V_aload_n (q := 236) dL_law_235 3 rfl rfl ?_
  refine V_callWs (q := 239) (As := [.ref (a 0), .int (iZ (xs (i + 1)).toInt), .ref o]) (rest := []) (w1 := []) (w2 := mkc b d S g2 th) (w' := lwx o co (if cHas S ((xs (i + 1)).toInt) = 0 then vp_updL fo 0 ((iZ ((cnt (hasT (gvS S ((xs (i + 1)).toInt))) 12 : Nat))).toInt64) else fo) a c (if cHas S ((xs (i + 1)).toInt) = 0 then gvS S ((xs (i + 1)).toInt) else S) (if cHas S ((xs (i + 1)).toInt) = 0 then g1 else g1)) (ws' := lwx o co (if cHas S ((xs (i + 1)).toInt) = 0 then vp_updL fo 0 ((iZ ((cnt (hasT (gvS S ((xs (i + 1)).toInt))) 12 : Nat))).toInt64) else fo) a c (if cHas S ((xs (i + 1)).toInt) = 0 then gvS S ((xs (i + 1)).toInt) else S) (if cHas S ((xs (i + 1)).toInt) = 0 then g1 else g1) ++ mkc b d S g2 th) dL_law_236 (w_giveAway (a := a) (c := c) (g := g1) (o := o) (co := co) (fo := fo) ho ((xs (i + 1)).toInt) (x_toInt _)) yw_giveAway rfl gL_law_L_giveAway rfl (by decide) (by decide) hkn rfl rfl rfl tyz_x ?_
  refine V_istore (q := 241) (lv' := [(0, _), (1, _), (2, _), (3, _), (4, _), (5, _)]) dL_law_239 (by decide) rfl rfl ?_
  refine V_aload_n (q := 242) dL_law_241 2 rfl rfl ?_
  refine V_aload_n (q := 243) dL_law_242 0 rfl rfl ?_
  refine V_iload (q := 245) dL_law_243 4 rfl rfl ?_
  refine V_iconst (q := 246) dL_law_245 rfl ?_
  refine V_iadd (q := 247) dL_law_246 rfl ?_
  refine V_sld dL_law_247 (i + 1) (by omega) (by omega) (by omega) (show 247 + 1 = 248 from rfl) ?_
  refine V_top (iZ_self _).symm ?_
  refine V_callIf (q := 251) (As := [.int (iZ (xs (i + 1)).toInt)]) (rest := []) (w1 := lwx o co (if cHas S ((xs (i + 1)).toInt) = 0 then vp_updL fo 0 ((iZ ((cnt (hasT (gvS S ((xs (i + 1)).toInt))) 12 : Nat))).toInt64) else fo) a c (if cHas S ((xs (i + 1)).toInt) = 0 then gvS S ((xs (i + 1)).toInt) else S) (if cHas S ((xs (i + 1)).toInt) = 0 then g1 else g1)) (w2 := []) (ws' := lwx o co (if cHas S ((xs (i + 1)).toInt) = 0 then vp_updL fo 0 ((iZ ((cnt (hasT (gvS S ((xs (i + 1)).toInt))) 12 : Nat))).toInt64) else fo) a c (if cHas S ((xs (i + 1)).toInt) = 0 then gvS S ((xs (i + 1)).toInt) else S) (if cHas S ((xs (i + 1)).toInt) = 0 then g1 else g1) ++ (mkc b d _ _ _ ++ [])) dL_law_248 (c_X1_giveAway (b := b) (d := d) (g := g2) (th := th) ho ((xs (i + 1)).toInt) (x_toInt _)) yv_X1_giveAway rfl gL_law_X1_giveAway rfl 0 rfl rfl rfl rfl (by decide) (by decide) ⟨hkn.1, hkn.2⟩ (by rw [List.append_nil]) rfl rfl tyz_m ?_
  refine V_wz (ws' := lwz o co (if cHas S ((xs (i + 1)).toInt) = 0 then vp_updL fo 0 ((iZ ((cnt (hasT (gvS S ((xs (i + 1)).toInt))) 12 : Nat))).toInt64) else fo) a c b d (if cHas S ((xs (i + 1)).toInt) = 0 then gvS S ((xs (i + 1)).toInt) else S) (if cHas S ((xs (i + 1)).toInt) = 0 then g1 else g1) g2 (cHas S ((xs (i + 1)).toInt))) (by skip; unfold lwz; first | rfl | (simp only [ite_self, List.append_nil]; done) | (rw [List.append_nil]; rfl) | (simp only [ite_self, List.append_nil]; rfl)) ?_
  refine V_istore (q := 253) (lv' := [(0, _), (1, _), (2, _), (3, _), (4, _), (5, _), (6, _)]) dL_law_251 (by decide) rfl rfl ?_
  refine V_aload_n (q := 254) dL_law_253 2 rfl rfl ?_
  refine V_callIf (q := 257) (As := []) (rest := []) (w1 := lwx o co (if cHas S ((xs (i + 1)).toInt) = 0 then vp_updL fo 0 ((iZ ((cnt (hasT (gvS S ((xs (i + 1)).toInt))) 12 : Nat))).toInt64) else fo) a c (if cHas S ((xs (i + 1)).toInt) = 0 then gvS S ((xs (i + 1)).toInt) else S) (if cHas S ((xs (i + 1)).toInt) = 0 then g1 else g1)) (w2 := []) (ws' := lwz o co (if cHas S ((xs (i + 1)).toInt) = 0 then vp_updL fo 0 ((iZ ((cnt (hasT (gvS S ((xs (i + 1)).toInt))) 12 : Nat))).toInt64) else fo) a c b d (if cHas S ((xs (i + 1)).toInt) = 0 then gvS S ((xs (i + 1)).toInt) else S) (if cHas S ((xs (i + 1)).toInt) = 0 then g1 else g1) g2 (cHas S ((xs (i + 1)).toInt))) dL_law_254 (c_X1_thrown (b := b) (d := d) (S := (if cHas S ((xs (i + 1)).toInt) = 0 then gvS S ((xs (i + 1)).toInt) else S)) (g := g2) (th := cHas S ((xs (i + 1)).toInt))) yv_X1_thrown rfl gL_law_X1_thrown rfl 0 rfl rfl rfl rfl (by decide) (by decide) ⟨hkn.1, hkn.2⟩ (by unfold lwz; rw [List.append_nil]) (by unfold lwz; rw [List.append_nil]) rfl tyz_m ?_
  have hcc := cHas_c S ((xs (i + 1)).toInt)
  have hcr : -2147483648 ≤ ((cHas S ((xs (i + 1)).toInt) : Nat) : Int) ∧ ((cHas S ((xs (i + 1)).toInt) : Nat) : Int) < 2147483648 := by omega
  refine V_iload (q := 259) dL_law_257 5 rfl rfl ?_
  refine V_icmp_eq (q := 262) (tgt := 264) dL_law_259 hcr hcr (by decide) (fun _ => ?_) (fun h => absurd rfl h)
  refine V_iload (q := 266) dL_law_264 5 rfl rfl ?_
  have KF : V RL cL_law 7 rt wsL_law room_1 (vXL s0 L xs) (tyz co c d) QL (k + 1) (n + 6) (lwz o co (if cHas S ((xs (i + 1)).toInt) = 0 then vp_updL fo 0 ((iZ ((cnt (hasT (gvS S ((xs (i + 1)).toInt))) 12 : Nat))).toInt64) else fo) a c b d (if cHas S ((xs (i + 1)).toInt) = 0 then gvS S ((xs (i + 1)).toInt) else S) (if cHas S ((xs (i + 1)).toInt) = 0 then g1 else g1) g2 (cHas S ((xs (i + 1)).toInt))) 281 [(0, .ref s0), (1, .ref (a 0)), (2, .ref (b 0)), (3, .ref o), (4, .int (iZ i))] [] := by
    refine V_goto (tgt := 1306) dL_law_281 (by decide) ?_
    exact K _ _ _ _ _ (ok_ite ho (fun h => ok_give ho h)) (g_ite hg1 hg1) hg2
  refine V_if_ne (q := 269) (tgt := 281) dL_law_266 hcr (by decide) (fun _ => V_loc [0, 1, 2, 3, 4] rfl KF) (fun h => ?_)
  have h0 : cHas S ((xs (i + 1)).toInt) = 0 := by omega
  refine V_aload_n (q := 270) dL_law_269 3 rfl rfl ?_
  refine V_iconst (q := 271) dL_law_270 rfl ?_
  refine V_lald (q := 272) (v := (iZ ((cnt (hasT (gvS S ((xs (i + 1)).toInt))) 12 : Nat))).toInt64) dL_law_271 0 0 rfl rfl 0 rfl (by decide) (by decide) (by rw [if_pos h0]; exact if_pos rfl) rfl ?_
  refine V_iload (q := 274) dL_law_272 6 rfl rfl ?_
  refine V_top (y := iZ ((cnt (hasT (gvS S ((xs (i + 1)).toInt))) 12 : Nat))) (by rw [if_pos h0]) ?_
  refine V_i2l (q := 275) dL_law_274 rfl ?_
  refine V_lcmp (q := 276) dL_law_275 rfl ?_
  refine V_top (cmp_self _) ?_
  exact V_if_eq (q := 279) (tgt := 281) dL_law_276 (by decide) (by decide) (fun _ => V_loc [0, 1, 2, 3, 4] rfl KF) (fun h => absurd rfl h)
set_option maxRecDepth 100000 in
set_option maxHeartbeats 4000000 in
theorem law_setClash {rt : Option FieldType} {QL : VQ} {k n : Nat} {s0 L : Nat} {xs : Nat → Int32} {o : Nat} {co : ClassId} {fo : Nat → Int64} {a : Nat → Nat} {c : Nat → ClassId} {b : Nat → Nat} {d : Nat → ClassId} {S : St} {g1 g2 : Nat → Nat} {th : Nat} {i : Nat} (ho : Ok S) (hg1 : ∀ j, g1 j < 4096) (hg2 : ∀ j, g2 j < 4096) (hi : i + 6 ≤ L) (hL : L ≤ 3072) (hkn : k + 1 ≤ 1067 ∧ n + 6 ≤ 10898) (K : ∀ (S' : St) (g1' g2' : Nat → Nat) (th' : Nat) (fo' : Nat → Int64), Ok S' → (∀ j, g1' j < 4096) → (∀ j, g2' j < 4096) → V RL cL_law 7 rt wsL_law room_1 (vXL s0 L xs) (tyz co c d) QL (k + 1) (n + 6) (lwz o co fo' a c b d S' g1' g2' th') 1306 [(0, .ref s0), (1, .ref (a 0)), (2, .ref (b 0)), (3, .ref o), (4, .int (iZ i))] []) : V RL cL_law 7 rt wsL_law room_1 (vXL s0 L xs) (tyz co c d) QL k n (lwz o co fo a c b d S g1 g2 th) 284 [(0, .ref s0), (1, .ref (a 0)), (2, .ref (b 0)), (3, .ref o), (4, .int (iZ i))] [] := by
  refine V_aload_n (q := 285) dL_law_284 1 rfl rfl ?_
  refine V_aload_n (q := 286) dL_law_285 0 rfl rfl ?_
  refine V_iload (q := 288) dL_law_286 4 rfl rfl ?_
  refine V_iconst (q := 289) dL_law_288 rfl ?_
  refine V_iadd (q := 290) dL_law_289 rfl ?_
  refine V_sld dL_law_290 (i + 1) (by omega) (by omega) (by omega) (show 290 + 1 = 291 from rfl) ?_
  refine V_top (iZ_self _).symm ?_
  refine V_aload_n (q := 292) dL_law_291 0 rfl rfl ?_
  refine V_iload (q := 294) dL_law_292 4 rfl rfl ?_
  refine V_iconst (q := 295) dL_law_294 rfl ?_
  refine V_iadd (q := 296) dL_law_295 rfl ?_
  refine V_sld dL_law_296 (i + 2) (by omega) (by omega) (by omega) (show 296 + 1 = 297 from rfl) ?_
  refine V_top (iZ_self _).symm ?_
  refine V_cut (M := 311) (iZ (bZ (decide (¬ (xs (i + 3)).toInt = 0)))) ?_ (fun k311 => ?_)
  rotate_left
  · skip
    refine V_aload_n (q := 298) dL_law_297 0 rfl rfl ?_
    refine V_iload (q := 300) dL_law_298 4 rfl rfl ?_
    refine V_iconst (q := 301) dL_law_300 rfl ?_
    refine V_iadd (q := 302) dL_law_301 rfl ?_
    refine V_sld dL_law_302 (i + 3) (by omega) (by omega) (by omega) (show 302 + 1 = 303 from rfl) ?_
    refine V_top (iZ_self _).symm ?_
    refine V_if_eq (q := 306) (tgt := 310) dL_law_303 (x_toInt _) (by decide) (fun h => ?_) (fun h => ?_)
    · skip
      refine V_iconst (q := 311) dL_law_310 rfl ?_
      exact k311 _ (bZ_f (decide_eq_false (fun q => q h)))
    · skip
      refine V_iconst (q := 307) dL_law_306 rfl ?_
      refine V_goto (tgt := 311) dL_law_307 (by decide) ?_
      exact k311 _ (bZ_t (decide_eq_true h))
  refine V_aload_n (q := 312) dL_law_311 3 rfl rfl ?_
  refine V_callWs (q := 315) (As := [.ref (a 0), .int (iZ (xs (i + 1)).toInt), .int (iZ (xs (i + 2)).toInt), .int (iZ (bZ (decide (¬ (xs (i + 3)).toInt = 0)))), .ref o]) (rest := []) (w1 := []) (w2 := mkc b d S g2 th) (w' := lwx o co (if cClash ((xs (i + 1)).toInt) ((xs (i + 2)).toInt) = 0 then vp_updL fo 0 (bL (sX S (8 * (((xs (i + 1)).toInt)).toNat + (((xs (i + 2)).toInt)).toNat))) else fo) a c (if cClash ((xs (i + 1)).toInt) ((xs (i + 2)).toInt) = 0 then clS S ((xs (i + 1)).toInt) ((xs (i + 2)).toInt) (decide (¬ (xs (i + 3)).toInt = 0)) else S) (if cClash ((xs (i + 1)).toInt) ((xs (i + 2)).toInt) = 0 then g1 else g1)) (ws' := lwx o co (if cClash ((xs (i + 1)).toInt) ((xs (i + 2)).toInt) = 0 then vp_updL fo 0 (bL (sX S (8 * (((xs (i + 1)).toInt)).toNat + (((xs (i + 2)).toInt)).toNat))) else fo) a c (if cClash ((xs (i + 1)).toInt) ((xs (i + 2)).toInt) = 0 then clS S ((xs (i + 1)).toInt) ((xs (i + 2)).toInt) (decide (¬ (xs (i + 3)).toInt = 0)) else S) (if cClash ((xs (i + 1)).toInt) ((xs (i + 2)).toInt) = 0 then g1 else g1) ++ mkc b d S g2 th) dL_law_312 (w_setClash (a := a) (c := c) (g := g1) (o := o) (co := co) (fo := fo) ho ((xs (i + 1)).toInt) ((xs (i + 2)).toInt) (decide (¬ (xs (i + 3)).toInt = 0)) (x_toInt _) (x_toInt _)) yw_setClash rfl gL_law_L_setClash rfl (by decide) (by decide) hkn rfl rfl rfl tyz_x ?_
  refine V_istore (q := 317) (lv' := [(0, _), (1, _), (2, _), (3, _), (4, _), (5, _)]) dL_law_315 (by decide) rfl rfl ?_
  refine V_aload_n (q := 318) dL_law_317 2 rfl rfl ?_
  refine V_aload_n (q := 319) dL_law_318 0 rfl rfl ?_
  refine V_iload (q := 321) dL_law_319 4 rfl rfl ?_
  refine V_iconst (q := 322) dL_law_321 rfl ?_
  refine V_iadd (q := 323) dL_law_322 rfl ?_
  refine V_sld dL_law_323 (i + 1) (by omega) (by omega) (by omega) (show 323 + 1 = 324 from rfl) ?_
  refine V_top (iZ_self _).symm ?_
  refine V_aload_n (q := 325) dL_law_324 0 rfl rfl ?_
  refine V_iload (q := 327) dL_law_325 4 rfl rfl ?_
  refine V_iconst (q := 328) dL_law_327 rfl ?_
  refine V_iadd (q := 329) dL_law_328 rfl ?_
  refine V_sld dL_law_329 (i + 2) (by omega) (by omega) (by omega) (show 329 + 1 = 330 from rfl) ?_
  refine V_top (iZ_self _).symm ?_
  refine V_cut (M := 344) (iZ (bZ (decide (¬ (xs (i + 3)).toInt = 0)))) ?_ (fun k344 => ?_)
  rotate_left
  · skip
    refine V_aload_n (q := 331) dL_law_330 0 rfl rfl ?_
    refine V_iload (q := 333) dL_law_331 4 rfl rfl ?_
    refine V_iconst (q := 334) dL_law_333 rfl ?_
    refine V_iadd (q := 335) dL_law_334 rfl ?_
    refine V_sld dL_law_335 (i + 3) (by omega) (by omega) (by omega) (show 335 + 1 = 336 from rfl) ?_
    refine V_top (iZ_self _).symm ?_
    refine V_if_eq (q := 339) (tgt := 343) dL_law_336 (x_toInt _) (by decide) (fun h => ?_) (fun h => ?_)
    · skip
      refine V_iconst (q := 344) dL_law_343 rfl ?_
      exact k344 _ (bZ_f (decide_eq_false (fun q => q h)))
    · skip
      refine V_iconst (q := 340) dL_law_339 rfl ?_
      refine V_goto (tgt := 344) dL_law_340 (by decide) ?_
      exact k344 _ (bZ_t (decide_eq_true h))
  refine V_callIf (q := 347) (As := [.int (iZ (xs (i + 1)).toInt), .int (iZ (xs (i + 2)).toInt), .int (iZ (bZ (decide (¬ (xs (i + 3)).toInt = 0))))]) (rest := []) (w1 := lwx o co (if cClash ((xs (i + 1)).toInt) ((xs (i + 2)).toInt) = 0 then vp_updL fo 0 (bL (sX S (8 * (((xs (i + 1)).toInt)).toNat + (((xs (i + 2)).toInt)).toNat))) else fo) a c (if cClash ((xs (i + 1)).toInt) ((xs (i + 2)).toInt) = 0 then clS S ((xs (i + 1)).toInt) ((xs (i + 2)).toInt) (decide (¬ (xs (i + 3)).toInt = 0)) else S) (if cClash ((xs (i + 1)).toInt) ((xs (i + 2)).toInt) = 0 then g1 else g1)) (w2 := []) (ws' := lwx o co (if cClash ((xs (i + 1)).toInt) ((xs (i + 2)).toInt) = 0 then vp_updL fo 0 (bL (sX S (8 * (((xs (i + 1)).toInt)).toNat + (((xs (i + 2)).toInt)).toNat))) else fo) a c (if cClash ((xs (i + 1)).toInt) ((xs (i + 2)).toInt) = 0 then clS S ((xs (i + 1)).toInt) ((xs (i + 2)).toInt) (decide (¬ (xs (i + 3)).toInt = 0)) else S) (if cClash ((xs (i + 1)).toInt) ((xs (i + 2)).toInt) = 0 then g1 else g1) ++ (mkc b d _ _ _ ++ [])) dL_law_344 (c_X1_setClash (b := b) (d := d) (g := g2) (th := th) ho ((xs (i + 1)).toInt) ((xs (i + 2)).toInt) (decide (¬ (xs (i + 3)).toInt = 0)) (x_toInt _) (x_toInt _)) yv_X1_setClash rfl gL_law_X1_setClash rfl 0 rfl rfl rfl rfl (by decide) (by decide) ⟨hkn.1, hkn.2⟩ (by rw [List.append_nil]) rfl rfl tyz_m ?_
  refine V_wz (ws' := lwz o co (if cClash ((xs (i + 1)).toInt) ((xs (i + 2)).toInt) = 0 then vp_updL fo 0 (bL (sX S (8 * (((xs (i + 1)).toInt)).toNat + (((xs (i + 2)).toInt)).toNat))) else fo) a c b d (if cClash ((xs (i + 1)).toInt) ((xs (i + 2)).toInt) = 0 then clS S ((xs (i + 1)).toInt) ((xs (i + 2)).toInt) (decide (¬ (xs (i + 3)).toInt = 0)) else S) (if cClash ((xs (i + 1)).toInt) ((xs (i + 2)).toInt) = 0 then g1 else g1) g2 (cClash ((xs (i + 1)).toInt) ((xs (i + 2)).toInt))) (by skip; unfold lwz; first | rfl | (simp only [ite_self, List.append_nil]; done) | (rw [List.append_nil]; rfl) | (simp only [ite_self, List.append_nil]; rfl)) ?_
  refine V_istore (q := 349) (lv' := [(0, _), (1, _), (2, _), (3, _), (4, _), (5, _), (6, _)]) dL_law_347 (by decide) rfl rfl ?_
  refine V_aload_n (q := 350) dL_law_349 2 rfl rfl ?_
  refine V_callIf (q := 353) (As := []) (rest := []) (w1 := lwx o co (if cClash ((xs (i + 1)).toInt) ((xs (i + 2)).toInt) = 0 then vp_updL fo 0 (bL (sX S (8 * (((xs (i + 1)).toInt)).toNat + (((xs (i + 2)).toInt)).toNat))) else fo) a c (if cClash ((xs (i + 1)).toInt) ((xs (i + 2)).toInt) = 0 then clS S ((xs (i + 1)).toInt) ((xs (i + 2)).toInt) (decide (¬ (xs (i + 3)).toInt = 0)) else S) (if cClash ((xs (i + 1)).toInt) ((xs (i + 2)).toInt) = 0 then g1 else g1)) (w2 := []) (ws' := lwz o co (if cClash ((xs (i + 1)).toInt) ((xs (i + 2)).toInt) = 0 then vp_updL fo 0 (bL (sX S (8 * (((xs (i + 1)).toInt)).toNat + (((xs (i + 2)).toInt)).toNat))) else fo) a c b d (if cClash ((xs (i + 1)).toInt) ((xs (i + 2)).toInt) = 0 then clS S ((xs (i + 1)).toInt) ((xs (i + 2)).toInt) (decide (¬ (xs (i + 3)).toInt = 0)) else S) (if cClash ((xs (i + 1)).toInt) ((xs (i + 2)).toInt) = 0 then g1 else g1) g2 (cClash ((xs (i + 1)).toInt) ((xs (i + 2)).toInt))) dL_law_350 (c_X1_thrown (b := b) (d := d) (S := (if cClash ((xs (i + 1)).toInt) ((xs (i + 2)).toInt) = 0 then clS S ((xs (i + 1)).toInt) ((xs (i + 2)).toInt) (decide (¬ (xs (i + 3)).toInt = 0)) else S)) (g := g2) (th := cClash ((xs (i + 1)).toInt) ((xs (i + 2)).toInt))) yv_X1_thrown rfl gL_law_X1_thrown rfl 0 rfl rfl rfl rfl (by decide) (by decide) ⟨hkn.1, hkn.2⟩ (by unfold lwz; rw [List.append_nil]) (by unfold lwz; rw [List.append_nil]) rfl tyz_m ?_
  have hcc := cClash_c ((xs (i + 1)).toInt) ((xs (i + 2)).toInt)
  have hcr : -2147483648 ≤ ((cClash ((xs (i + 1)).toInt) ((xs (i + 2)).toInt) : Nat) : Int) ∧ ((cClash ((xs (i + 1)).toInt) ((xs (i + 2)).toInt) : Nat) : Int) < 2147483648 := by omega
  refine V_iload (q := 355) dL_law_353 5 rfl rfl ?_
  refine V_icmp_eq (q := 358) (tgt := 360) dL_law_355 hcr hcr (by decide) (fun _ => ?_) (fun h => absurd rfl h)
  refine V_iload (q := 362) dL_law_360 5 rfl rfl ?_
  have KF : V RL cL_law 7 rt wsL_law room_1 (vXL s0 L xs) (tyz co c d) QL (k + 1) (n + 6) (lwz o co (if cClash ((xs (i + 1)).toInt) ((xs (i + 2)).toInt) = 0 then vp_updL fo 0 (bL (sX S (8 * (((xs (i + 1)).toInt)).toNat + (((xs (i + 2)).toInt)).toNat))) else fo) a c b d (if cClash ((xs (i + 1)).toInt) ((xs (i + 2)).toInt) = 0 then clS S ((xs (i + 1)).toInt) ((xs (i + 2)).toInt) (decide (¬ (xs (i + 3)).toInt = 0)) else S) (if cClash ((xs (i + 1)).toInt) ((xs (i + 2)).toInt) = 0 then g1 else g1) g2 (cClash ((xs (i + 1)).toInt) ((xs (i + 2)).toInt))) 384 [(0, .ref s0), (1, .ref (a 0)), (2, .ref (b 0)), (3, .ref o), (4, .int (iZ i))] [] := by
    refine V_goto (tgt := 1306) dL_law_384 (by decide) ?_
    exact K _ _ _ _ _ (ok_ite ho (fun h => ok_cls ho h)) (g_ite hg1 hg1) hg2
  refine V_if_ne (q := 365) (tgt := 384) dL_law_362 hcr (by decide) (fun _ => V_loc [0, 1, 2, 3, 4] rfl KF) (fun h => ?_)
  have h0 : cClash ((xs (i + 1)).toInt) ((xs (i + 2)).toInt) = 0 := by omega
  refine V_aload_n (q := 366) dL_law_365 3 rfl rfl ?_
  refine V_iconst (q := 367) dL_law_366 rfl ?_
  refine V_lald (q := 368) (v := bL (sX S (8 * (((xs (i + 1)).toInt)).toNat + (((xs (i + 2)).toInt)).toNat))) dL_law_367 0 0 rfl rfl 0 rfl (by decide) (by decide) (by rw [if_pos h0]; exact if_pos rfl) rfl ?_
  refine V_cutL (M := 378) (bL (sX S (8 * (((xs (i + 1)).toInt)).toNat + (((xs (i + 2)).toInt)).toNat))) ?_ (fun k378 => ?_)
  rotate_left
  · skip
    refine V_iload (q := 370) dL_law_368 6 rfl rfl ?_
    refine V_top (y := iZ (bZ (sX S (8 * (((xs (i + 1)).toInt)).toNat + (((xs (i + 2)).toInt)).toNat)))) (by skip; rw [decide_eq_true h0, Bool.true_and]) ?_
    refine V_if_eqB (q := 373) (tgt := 377) dL_law_370 (by decide) (fun h => ?_) (fun h => ?_)
    · skip
      refine V_lconst (q := 378) dL_law_377 (v := bL (sX S (8 * (((xs (i + 1)).toInt)).toNat + (((xs (i + 2)).toInt)).toNat))) (by rw [h]; rfl) rfl ?_
      exact k378 _ rfl
    · skip
      refine V_lconst (q := 374) dL_law_373 (v := bL (sX S (8 * (((xs (i + 1)).toInt)).toNat + (((xs (i + 2)).toInt)).toNat))) (by rw [h]; rfl) rfl ?_
      refine V_goto (tgt := 378) dL_law_374 (by decide) ?_
      exact k378 _ rfl
  refine V_lcmp (q := 379) dL_law_378 rfl ?_
  refine V_top (cmp_self _) ?_
  exact V_if_eq (q := 382) (tgt := 384) dL_law_379 (by decide) (by decide) (fun _ => V_loc [0, 1, 2, 3, 4] rfl KF) (fun h => absurd rfl h)
set_option maxRecDepth 100000 in
set_option maxHeartbeats 4000000 in
theorem law_left {rt : Option FieldType} {QL : VQ} {k n : Nat} {s0 L : Nat} {xs : Nat → Int32} {o : Nat} {co : ClassId} {fo : Nat → Int64} {a : Nat → Nat} {c : Nat → ClassId} {b : Nat → Nat} {d : Nat → ClassId} {S : St} {g1 g2 : Nat → Nat} {th : Nat} {i : Nat} (ho : Ok S) (hg1 : ∀ j, g1 j < 4096) (hg2 : ∀ j, g2 j < 4096) (hi : i + 6 ≤ L) (hL : L ≤ 3072) (hkn : k + 1 ≤ 1067 ∧ n + 6 ≤ 10898) (K : ∀ (S' : St) (g1' g2' : Nat → Nat) (th' : Nat) (fo' : Nat → Int64), Ok S' → (∀ j, g1' j < 4096) → (∀ j, g2' j < 4096) → V RL cL_law 7 rt wsL_law room_1 (vXL s0 L xs) (tyz co c d) QL (k + 1) (n + 6) (lwz o co fo' a c b d S' g1' g2' th') 1306 [(0, .ref s0), (1, .ref (a 0)), (2, .ref (b 0)), (3, .ref o), (4, .int (iZ i))] []) : V RL cL_law 7 rt wsL_law room_1 (vXL s0 L xs) (tyz co c d) QL k n (lwz o co fo a c b d S g1 g2 th) 400 [(0, .ref s0), (1, .ref (a 0)), (2, .ref (b 0)), (3, .ref o), (4, .int (iZ i))] [] := by
  refine V_aload_n (q := 401) dL_law_400 1 rfl rfl ?_
  refine V_aload_n (q := 402) dL_law_401 0 rfl rfl ?_
  refine V_iload (q := 404) dL_law_402 4 rfl rfl ?_
  refine V_iconst (q := 405) dL_law_404 rfl ?_
  refine V_iadd (q := 406) dL_law_405 rfl ?_
  refine V_sld dL_law_406 (i + 1) (by omega) (by omega) (by omega) (show 406 + 1 = 407 from rfl) ?_
  refine V_top (iZ_self _).symm ?_
  refine V_aload_n (q := 408) dL_law_407 3 rfl rfl ?_
  refine V_callWs (q := 411) (As := [.ref (a 0), .int (iZ (xs (i + 1)).toInt), .ref o]) (rest := []) (w1 := []) (w2 := mkc b d S g2 th) (w' := lwx o co (if cHas S ((xs (i + 1)).toInt) = 0 then vp_updL fo 0 ((iZ (sL S (((xs (i + 1)).toInt)).toNat)).toInt64) else fo) a c (if cHas S ((xs (i + 1)).toInt) = 0 then S else S) (if cHas S ((xs (i + 1)).toInt) = 0 then g1 else g1)) (ws' := lwx o co (if cHas S ((xs (i + 1)).toInt) = 0 then vp_updL fo 0 ((iZ (sL S (((xs (i + 1)).toInt)).toNat)).toInt64) else fo) a c (if cHas S ((xs (i + 1)).toInt) = 0 then S else S) (if cHas S ((xs (i + 1)).toInt) = 0 then g1 else g1) ++ mkc b d S g2 th) dL_law_408 (w_left (a := a) (c := c) (g := g1) (o := o) (co := co) (fo := fo) ho ((xs (i + 1)).toInt) (x_toInt _)) yw_left rfl gL_law_L_left rfl (by decide) (by decide) hkn rfl rfl rfl tyz_x ?_
  refine V_istore (q := 413) (lv' := [(0, _), (1, _), (2, _), (3, _), (4, _), (5, _)]) dL_law_411 (by decide) rfl rfl ?_
  refine V_aload_n (q := 414) dL_law_413 2 rfl rfl ?_
  refine V_aload_n (q := 415) dL_law_414 0 rfl rfl ?_
  refine V_iload (q := 417) dL_law_415 4 rfl rfl ?_
  refine V_iconst (q := 418) dL_law_417 rfl ?_
  refine V_iadd (q := 419) dL_law_418 rfl ?_
  refine V_sld dL_law_419 (i + 1) (by omega) (by omega) (by omega) (show 419 + 1 = 420 from rfl) ?_
  refine V_top (iZ_self _).symm ?_
  refine V_callIf (q := 423) (As := [.int (iZ (xs (i + 1)).toInt)]) (rest := []) (w1 := lwx o co (if cHas S ((xs (i + 1)).toInt) = 0 then vp_updL fo 0 ((iZ (sL S (((xs (i + 1)).toInt)).toNat)).toInt64) else fo) a c (if cHas S ((xs (i + 1)).toInt) = 0 then S else S) (if cHas S ((xs (i + 1)).toInt) = 0 then g1 else g1)) (w2 := []) (ws' := lwx o co (if cHas S ((xs (i + 1)).toInt) = 0 then vp_updL fo 0 ((iZ (sL S (((xs (i + 1)).toInt)).toNat)).toInt64) else fo) a c (if cHas S ((xs (i + 1)).toInt) = 0 then S else S) (if cHas S ((xs (i + 1)).toInt) = 0 then g1 else g1) ++ (mkc b d _ _ _ ++ [])) dL_law_420 (c_X1_left (b := b) (d := d) (g := g2) (th := th) ho ((xs (i + 1)).toInt) (x_toInt _)) yv_X1_left rfl gL_law_X1_left rfl 0 rfl rfl rfl rfl (by decide) (by decide) ⟨hkn.1, hkn.2⟩ (by rw [List.append_nil]) rfl rfl tyz_m ?_
  refine V_wz (ws' := lwz o co (if cHas S ((xs (i + 1)).toInt) = 0 then vp_updL fo 0 ((iZ (sL S (((xs (i + 1)).toInt)).toNat)).toInt64) else fo) a c b d (if cHas S ((xs (i + 1)).toInt) = 0 then S else S) (if cHas S ((xs (i + 1)).toInt) = 0 then g1 else g1) g2 (cHas S ((xs (i + 1)).toInt))) (by skip; unfold lwz; first | rfl | (simp only [ite_self, List.append_nil]; done) | (rw [List.append_nil]; rfl) | (simp only [ite_self, List.append_nil]; rfl)) ?_
  refine V_istore (q := 425) (lv' := [(0, _), (1, _), (2, _), (3, _), (4, _), (5, _), (6, _)]) dL_law_423 (by decide) rfl rfl ?_
  refine V_aload_n (q := 426) dL_law_425 2 rfl rfl ?_
  refine V_callIf (q := 429) (As := []) (rest := []) (w1 := lwx o co (if cHas S ((xs (i + 1)).toInt) = 0 then vp_updL fo 0 ((iZ (sL S (((xs (i + 1)).toInt)).toNat)).toInt64) else fo) a c (if cHas S ((xs (i + 1)).toInt) = 0 then S else S) (if cHas S ((xs (i + 1)).toInt) = 0 then g1 else g1)) (w2 := []) (ws' := lwz o co (if cHas S ((xs (i + 1)).toInt) = 0 then vp_updL fo 0 ((iZ (sL S (((xs (i + 1)).toInt)).toNat)).toInt64) else fo) a c b d (if cHas S ((xs (i + 1)).toInt) = 0 then S else S) (if cHas S ((xs (i + 1)).toInt) = 0 then g1 else g1) g2 (cHas S ((xs (i + 1)).toInt))) dL_law_426 (c_X1_thrown (b := b) (d := d) (S := (if cHas S ((xs (i + 1)).toInt) = 0 then S else S)) (g := g2) (th := cHas S ((xs (i + 1)).toInt))) yv_X1_thrown rfl gL_law_X1_thrown rfl 0 rfl rfl rfl rfl (by decide) (by decide) ⟨hkn.1, hkn.2⟩ (by unfold lwz; rw [List.append_nil]) (by unfold lwz; rw [List.append_nil]) rfl tyz_m ?_
  have hcc := cHas_c S ((xs (i + 1)).toInt)
  have hcr : -2147483648 ≤ ((cHas S ((xs (i + 1)).toInt) : Nat) : Int) ∧ ((cHas S ((xs (i + 1)).toInt) : Nat) : Int) < 2147483648 := by omega
  refine V_iload (q := 431) dL_law_429 5 rfl rfl ?_
  refine V_icmp_eq (q := 434) (tgt := 436) dL_law_431 hcr hcr (by decide) (fun _ => ?_) (fun h => absurd rfl h)
  refine V_iload (q := 438) dL_law_436 5 rfl rfl ?_
  have KF : V RL cL_law 7 rt wsL_law room_1 (vXL s0 L xs) (tyz co c d) QL (k + 1) (n + 6) (lwz o co (if cHas S ((xs (i + 1)).toInt) = 0 then vp_updL fo 0 ((iZ (sL S (((xs (i + 1)).toInt)).toNat)).toInt64) else fo) a c b d (if cHas S ((xs (i + 1)).toInt) = 0 then S else S) (if cHas S ((xs (i + 1)).toInt) = 0 then g1 else g1) g2 (cHas S ((xs (i + 1)).toInt))) 453 [(0, .ref s0), (1, .ref (a 0)), (2, .ref (b 0)), (3, .ref o), (4, .int (iZ i))] [] := by
    refine V_goto (tgt := 1306) dL_law_453 (by decide) ?_
    exact K _ _ _ _ _ ((by rw [ite_self]; exact ho)) (g_ite hg1 hg1) hg2
  refine V_if_ne (q := 441) (tgt := 453) dL_law_438 hcr (by decide) (fun _ => V_loc [0, 1, 2, 3, 4] rfl KF) (fun h => ?_)
  have h0 : cHas S ((xs (i + 1)).toInt) = 0 := by omega
  refine V_aload_n (q := 442) dL_law_441 3 rfl rfl ?_
  refine V_iconst (q := 443) dL_law_442 rfl ?_
  refine V_lald (q := 444) (v := (iZ (sL S (((xs (i + 1)).toInt)).toNat)).toInt64) dL_law_443 0 0 rfl rfl 0 rfl (by decide) (by decide) (by rw [if_pos h0]; exact if_pos rfl) rfl ?_
  refine V_iload (q := 446) dL_law_444 6 rfl rfl ?_
  refine V_top (y := iZ (sL S (((xs (i + 1)).toInt)).toNat)) (by rw [if_pos h0]) ?_
  refine V_i2l (q := 447) dL_law_446 rfl ?_
  refine V_lcmp (q := 448) dL_law_447 rfl ?_
  refine V_top (cmp_self _) ?_
  exact V_if_eq (q := 451) (tgt := 453) dL_law_448 (by decide) (by decide) (fun _ => V_loc [0, 1, 2, 3, 4] rfl KF) (fun h => absurd rfl h)
set_option maxRecDepth 100000 in
set_option maxHeartbeats 4000000 in
theorem law_isPossible {rt : Option FieldType} {QL : VQ} {k n : Nat} {s0 L : Nat} {xs : Nat → Int32} {o : Nat} {co : ClassId} {fo : Nat → Int64} {a : Nat → Nat} {c : Nat → ClassId} {b : Nat → Nat} {d : Nat → ClassId} {S : St} {g1 g2 : Nat → Nat} {th : Nat} {i : Nat} (ho : Ok S) (hg1 : ∀ j, g1 j < 4096) (hg2 : ∀ j, g2 j < 4096) (hi : i + 6 ≤ L) (hL : L ≤ 3072) (hkn : k + 1 ≤ 1067 ∧ n + 6 ≤ 10898) (K : ∀ (S' : St) (g1' g2' : Nat → Nat) (th' : Nat) (fo' : Nat → Int64), Ok S' → (∀ j, g1' j < 4096) → (∀ j, g2' j < 4096) → V RL cL_law 7 rt wsL_law room_1 (vXL s0 L xs) (tyz co c d) QL (k + 1) (n + 6) (lwz o co fo' a c b d S' g1' g2' th') 1306 [(0, .ref s0), (1, .ref (a 0)), (2, .ref (b 0)), (3, .ref o), (4, .int (iZ i))] []) : V RL cL_law 7 rt wsL_law room_1 (vXL s0 L xs) (tyz co c d) QL k n (lwz o co fo a c b d S g1 g2 th) 456 [(0, .ref s0), (1, .ref (a 0)), (2, .ref (b 0)), (3, .ref o), (4, .int (iZ i))] [] := by
  refine V_aload_n (q := 457) dL_law_456 1 rfl rfl ?_
  refine V_aload_n (q := 458) dL_law_457 0 rfl rfl ?_
  refine V_iload (q := 460) dL_law_458 4 rfl rfl ?_
  refine V_iconst (q := 461) dL_law_460 rfl ?_
  refine V_iadd (q := 462) dL_law_461 rfl ?_
  refine V_sld dL_law_462 (i + 1) (by omega) (by omega) (by omega) (show 462 + 1 = 463 from rfl) ?_
  refine V_top (iZ_self _).symm ?_
  refine V_aload_n (q := 464) dL_law_463 0 rfl rfl ?_
  refine V_iload (q := 466) dL_law_464 4 rfl rfl ?_
  refine V_iconst (q := 467) dL_law_466 rfl ?_
  refine V_iadd (q := 468) dL_law_467 rfl ?_
  refine V_sld dL_law_468 (i + 2) (by omega) (by omega) (by omega) (show 468 + 1 = 469 from rfl) ?_
  refine V_top (iZ_self _).symm ?_
  refine V_aload_n (q := 470) dL_law_469 0 rfl rfl ?_
  refine V_iload (q := 472) dL_law_470 4 rfl rfl ?_
  refine V_iconst (q := 473) dL_law_472 rfl ?_
  refine V_iadd (q := 474) dL_law_473 rfl ?_
  refine V_sld dL_law_474 (i + 3) (by omega) (by omega) (by omega) (show 474 + 1 = 475 from rfl) ?_
  refine V_top (iZ_self _).symm ?_
  refine V_aload_n (q := 476) dL_law_475 3 rfl rfl ?_
  refine V_callWs (q := 479) (As := [.ref (a 0), .int (iZ (xs (i + 1)).toInt), .int (iZ (xs (i + 2)).toInt), .int (iZ (xs (i + 3)).toInt), .ref o]) (rest := []) (w1 := []) (w2 := mkc b d S g2 th) (w' := lwx o co (if wrZ S ((xs (i + 1)).toInt) ((xs (i + 2)).toInt) ((xs (i + 3)).toInt) = 0 then vp_updL fo 0 (bL (canZ S ((xs (i + 1)).toInt) ((xs (i + 2)).toInt) ((xs (i + 3)).toInt))) else fo) a c (if wrZ S ((xs (i + 1)).toInt) ((xs (i + 2)).toInt) ((xs (i + 3)).toInt) = 0 then S else S) (if wrZ S ((xs (i + 1)).toInt) ((xs (i + 2)).toInt) ((xs (i + 3)).toInt) = 0 then g1 else g1)) (ws' := lwx o co (if wrZ S ((xs (i + 1)).toInt) ((xs (i + 2)).toInt) ((xs (i + 3)).toInt) = 0 then vp_updL fo 0 (bL (canZ S ((xs (i + 1)).toInt) ((xs (i + 2)).toInt) ((xs (i + 3)).toInt))) else fo) a c (if wrZ S ((xs (i + 1)).toInt) ((xs (i + 2)).toInt) ((xs (i + 3)).toInt) = 0 then S else S) (if wrZ S ((xs (i + 1)).toInt) ((xs (i + 2)).toInt) ((xs (i + 3)).toInt) = 0 then g1 else g1) ++ mkc b d S g2 th) dL_law_476 (w_isPossible (a := a) (c := c) (g := g1) (o := o) (co := co) (fo := fo) ho ((xs (i + 1)).toInt) ((xs (i + 2)).toInt) ((xs (i + 3)).toInt) (x_toInt _) (x_toInt _) (x_toInt _)) yw_isPossible rfl gL_law_L_isPossible rfl (by decide) (by decide) hkn rfl rfl rfl tyz_x ?_
  refine V_istore (q := 481) (lv' := [(0, _), (1, _), (2, _), (3, _), (4, _), (5, _)]) dL_law_479 (by decide) rfl rfl ?_
  refine V_aload_n (q := 482) dL_law_481 2 rfl rfl ?_
  refine V_aload_n (q := 483) dL_law_482 0 rfl rfl ?_
  refine V_iload (q := 485) dL_law_483 4 rfl rfl ?_
  refine V_iconst (q := 486) dL_law_485 rfl ?_
  refine V_iadd (q := 487) dL_law_486 rfl ?_
  refine V_sld dL_law_487 (i + 1) (by omega) (by omega) (by omega) (show 487 + 1 = 488 from rfl) ?_
  refine V_top (iZ_self _).symm ?_
  refine V_aload_n (q := 489) dL_law_488 0 rfl rfl ?_
  refine V_iload (q := 491) dL_law_489 4 rfl rfl ?_
  refine V_iconst (q := 492) dL_law_491 rfl ?_
  refine V_iadd (q := 493) dL_law_492 rfl ?_
  refine V_sld dL_law_493 (i + 2) (by omega) (by omega) (by omega) (show 493 + 1 = 494 from rfl) ?_
  refine V_top (iZ_self _).symm ?_
  refine V_aload_n (q := 495) dL_law_494 0 rfl rfl ?_
  refine V_iload (q := 497) dL_law_495 4 rfl rfl ?_
  refine V_iconst (q := 498) dL_law_497 rfl ?_
  refine V_iadd (q := 499) dL_law_498 rfl ?_
  refine V_sld dL_law_499 (i + 3) (by omega) (by omega) (by omega) (show 499 + 1 = 500 from rfl) ?_
  refine V_top (iZ_self _).symm ?_
  refine V_callIf (q := 503) (As := [.int (iZ (xs (i + 1)).toInt), .int (iZ (xs (i + 2)).toInt), .int (iZ (xs (i + 3)).toInt)]) (rest := []) (w1 := lwx o co (if wrZ S ((xs (i + 1)).toInt) ((xs (i + 2)).toInt) ((xs (i + 3)).toInt) = 0 then vp_updL fo 0 (bL (canZ S ((xs (i + 1)).toInt) ((xs (i + 2)).toInt) ((xs (i + 3)).toInt))) else fo) a c (if wrZ S ((xs (i + 1)).toInt) ((xs (i + 2)).toInt) ((xs (i + 3)).toInt) = 0 then S else S) (if wrZ S ((xs (i + 1)).toInt) ((xs (i + 2)).toInt) ((xs (i + 3)).toInt) = 0 then g1 else g1)) (w2 := []) (ws' := lwx o co (if wrZ S ((xs (i + 1)).toInt) ((xs (i + 2)).toInt) ((xs (i + 3)).toInt) = 0 then vp_updL fo 0 (bL (canZ S ((xs (i + 1)).toInt) ((xs (i + 2)).toInt) ((xs (i + 3)).toInt))) else fo) a c (if wrZ S ((xs (i + 1)).toInt) ((xs (i + 2)).toInt) ((xs (i + 3)).toInt) = 0 then S else S) (if wrZ S ((xs (i + 1)).toInt) ((xs (i + 2)).toInt) ((xs (i + 3)).toInt) = 0 then g1 else g1) ++ (mkc b d _ _ _ ++ [])) dL_law_500 (c_X1_isPossible (b := b) (d := d) (g := g2) (th := th) ho ((xs (i + 1)).toInt) ((xs (i + 2)).toInt) ((xs (i + 3)).toInt) (x_toInt _) (x_toInt _) (x_toInt _)) yv_X1_isPossible rfl gL_law_X1_isPossible rfl 0 rfl rfl rfl rfl (by decide) (by decide) ⟨hkn.1, hkn.2⟩ (by rw [List.append_nil]) rfl rfl tyz_m ?_
  refine V_wz (ws' := lwz o co (if wrZ S ((xs (i + 1)).toInt) ((xs (i + 2)).toInt) ((xs (i + 3)).toInt) = 0 then vp_updL fo 0 (bL (canZ S ((xs (i + 1)).toInt) ((xs (i + 2)).toInt) ((xs (i + 3)).toInt))) else fo) a c b d (if wrZ S ((xs (i + 1)).toInt) ((xs (i + 2)).toInt) ((xs (i + 3)).toInt) = 0 then S else S) (if wrZ S ((xs (i + 1)).toInt) ((xs (i + 2)).toInt) ((xs (i + 3)).toInt) = 0 then g1 else g1) g2 (wrZ S ((xs (i + 1)).toInt) ((xs (i + 2)).toInt) ((xs (i + 3)).toInt))) (by skip; unfold lwz; first | rfl | (simp only [ite_self, List.append_nil]; done) | (rw [List.append_nil]; rfl) | (simp only [ite_self, List.append_nil]; rfl)) ?_
  refine V_istore (q := 505) (lv' := [(0, _), (1, _), (2, _), (3, _), (4, _), (5, _), (6, _)]) dL_law_503 (by decide) rfl rfl ?_
  refine V_aload_n (q := 506) dL_law_505 2 rfl rfl ?_
  refine V_callIf (q := 509) (As := []) (rest := []) (w1 := lwx o co (if wrZ S ((xs (i + 1)).toInt) ((xs (i + 2)).toInt) ((xs (i + 3)).toInt) = 0 then vp_updL fo 0 (bL (canZ S ((xs (i + 1)).toInt) ((xs (i + 2)).toInt) ((xs (i + 3)).toInt))) else fo) a c (if wrZ S ((xs (i + 1)).toInt) ((xs (i + 2)).toInt) ((xs (i + 3)).toInt) = 0 then S else S) (if wrZ S ((xs (i + 1)).toInt) ((xs (i + 2)).toInt) ((xs (i + 3)).toInt) = 0 then g1 else g1)) (w2 := []) (ws' := lwz o co (if wrZ S ((xs (i + 1)).toInt) ((xs (i + 2)).toInt) ((xs (i + 3)).toInt) = 0 then vp_updL fo 0 (bL (canZ S ((xs (i + 1)).toInt) ((xs (i + 2)).toInt) ((xs (i + 3)).toInt))) else fo) a c b d (if wrZ S ((xs (i + 1)).toInt) ((xs (i + 2)).toInt) ((xs (i + 3)).toInt) = 0 then S else S) (if wrZ S ((xs (i + 1)).toInt) ((xs (i + 2)).toInt) ((xs (i + 3)).toInt) = 0 then g1 else g1) g2 (wrZ S ((xs (i + 1)).toInt) ((xs (i + 2)).toInt) ((xs (i + 3)).toInt))) dL_law_506 (c_X1_thrown (b := b) (d := d) (S := (if wrZ S ((xs (i + 1)).toInt) ((xs (i + 2)).toInt) ((xs (i + 3)).toInt) = 0 then S else S)) (g := g2) (th := wrZ S ((xs (i + 1)).toInt) ((xs (i + 2)).toInt) ((xs (i + 3)).toInt))) yv_X1_thrown rfl gL_law_X1_thrown rfl 0 rfl rfl rfl rfl (by decide) (by decide) ⟨hkn.1, hkn.2⟩ (by unfold lwz; rw [List.append_nil]) (by unfold lwz; rw [List.append_nil]) rfl tyz_m ?_
  have hcc := wrZ_c S ((xs (i + 1)).toInt) ((xs (i + 2)).toInt) ((xs (i + 3)).toInt)
  have hcr : -2147483648 ≤ ((wrZ S ((xs (i + 1)).toInt) ((xs (i + 2)).toInt) ((xs (i + 3)).toInt) : Nat) : Int) ∧ ((wrZ S ((xs (i + 1)).toInt) ((xs (i + 2)).toInt) ((xs (i + 3)).toInt) : Nat) : Int) < 2147483648 := by omega
  refine V_iload (q := 511) dL_law_509 5 rfl rfl ?_
  refine V_icmp_eq (q := 514) (tgt := 516) dL_law_511 hcr hcr (by decide) (fun _ => ?_) (fun h => absurd rfl h)
  refine V_iload (q := 518) dL_law_516 5 rfl rfl ?_
  have KF : V RL cL_law 7 rt wsL_law room_1 (vXL s0 L xs) (tyz co c d) QL (k + 1) (n + 6) (lwz o co (if wrZ S ((xs (i + 1)).toInt) ((xs (i + 2)).toInt) ((xs (i + 3)).toInt) = 0 then vp_updL fo 0 (bL (canZ S ((xs (i + 1)).toInt) ((xs (i + 2)).toInt) ((xs (i + 3)).toInt))) else fo) a c b d (if wrZ S ((xs (i + 1)).toInt) ((xs (i + 2)).toInt) ((xs (i + 3)).toInt) = 0 then S else S) (if wrZ S ((xs (i + 1)).toInt) ((xs (i + 2)).toInt) ((xs (i + 3)).toInt) = 0 then g1 else g1) g2 (wrZ S ((xs (i + 1)).toInt) ((xs (i + 2)).toInt) ((xs (i + 3)).toInt))) 540 [(0, .ref s0), (1, .ref (a 0)), (2, .ref (b 0)), (3, .ref o), (4, .int (iZ i))] [] := by
    refine V_goto (tgt := 1306) dL_law_540 (by decide) ?_
    exact K _ _ _ _ _ ((by rw [ite_self]; exact ho)) (g_ite hg1 hg1) hg2
  refine V_if_ne (q := 521) (tgt := 540) dL_law_518 hcr (by decide) (fun _ => V_loc [0, 1, 2, 3, 4] rfl KF) (fun h => ?_)
  have h0 : wrZ S ((xs (i + 1)).toInt) ((xs (i + 2)).toInt) ((xs (i + 3)).toInt) = 0 := by omega
  refine V_aload_n (q := 522) dL_law_521 3 rfl rfl ?_
  refine V_iconst (q := 523) dL_law_522 rfl ?_
  refine V_lald (q := 524) (v := bL (canZ S ((xs (i + 1)).toInt) ((xs (i + 2)).toInt) ((xs (i + 3)).toInt))) dL_law_523 0 0 rfl rfl 0 rfl (by decide) (by decide) (by rw [if_pos h0]; exact if_pos rfl) rfl ?_
  refine V_cutL (M := 534) (bL (canZ S ((xs (i + 1)).toInt) ((xs (i + 2)).toInt) ((xs (i + 3)).toInt))) ?_ (fun k534 => ?_)
  rotate_left
  · skip
    refine V_iload (q := 526) dL_law_524 6 rfl rfl ?_
    refine V_top (y := iZ (bZ (canZ S ((xs (i + 1)).toInt) ((xs (i + 2)).toInt) ((xs (i + 3)).toInt)))) (by skip; rw [decide_eq_true h0, Bool.true_and]) ?_
    refine V_if_eqB (q := 529) (tgt := 533) dL_law_526 (by decide) (fun h => ?_) (fun h => ?_)
    · skip
      refine V_lconst (q := 534) dL_law_533 (v := bL (canZ S ((xs (i + 1)).toInt) ((xs (i + 2)).toInt) ((xs (i + 3)).toInt))) (by rw [h]; rfl) rfl ?_
      exact k534 _ rfl
    · skip
      refine V_lconst (q := 530) dL_law_529 (v := bL (canZ S ((xs (i + 1)).toInt) ((xs (i + 2)).toInt) ((xs (i + 3)).toInt))) (by rw [h]; rfl) rfl ?_
      refine V_goto (tgt := 534) dL_law_530 (by decide) ?_
      exact k534 _ rfl
  refine V_lcmp (q := 535) dL_law_534 rfl ?_
  refine V_top (cmp_self _) ?_
  exact V_if_eq (q := 538) (tgt := 540) dL_law_535 (by decide) (by decide) (fun _ => V_loc [0, 1, 2, 3, 4] rfl KF) (fun h => absurd rfl h)
set_option maxRecDepth 100000 in
set_option maxHeartbeats 4000000 in
theorem law_isTooSoon {rt : Option FieldType} {QL : VQ} {k n : Nat} {s0 L : Nat} {xs : Nat → Int32} {o : Nat} {co : ClassId} {fo : Nat → Int64} {a : Nat → Nat} {c : Nat → ClassId} {b : Nat → Nat} {d : Nat → ClassId} {S : St} {g1 g2 : Nat → Nat} {th : Nat} {i : Nat} (ho : Ok S) (hg1 : ∀ j, g1 j < 4096) (hg2 : ∀ j, g2 j < 4096) (hi : i + 6 ≤ L) (hL : L ≤ 3072) (hkn : k + 1 ≤ 1067 ∧ n + 6 ≤ 10898) (K : ∀ (S' : St) (g1' g2' : Nat → Nat) (th' : Nat) (fo' : Nat → Int64), Ok S' → (∀ j, g1' j < 4096) → (∀ j, g2' j < 4096) → V RL cL_law 7 rt wsL_law room_1 (vXL s0 L xs) (tyz co c d) QL (k + 1) (n + 6) (lwz o co fo' a c b d S' g1' g2' th') 1306 [(0, .ref s0), (1, .ref (a 0)), (2, .ref (b 0)), (3, .ref o), (4, .int (iZ i))] []) : V RL cL_law 7 rt wsL_law room_1 (vXL s0 L xs) (tyz co c d) QL k n (lwz o co fo a c b d S g1 g2 th) 543 [(0, .ref s0), (1, .ref (a 0)), (2, .ref (b 0)), (3, .ref o), (4, .int (iZ i))] [] := by
  refine V_aload_n (q := 544) dL_law_543 1 rfl rfl ?_
  refine V_aload_n (q := 545) dL_law_544 0 rfl rfl ?_
  refine V_iload (q := 547) dL_law_545 4 rfl rfl ?_
  refine V_iconst (q := 548) dL_law_547 rfl ?_
  refine V_iadd (q := 549) dL_law_548 rfl ?_
  refine V_sld dL_law_549 (i + 1) (by omega) (by omega) (by omega) (show 549 + 1 = 550 from rfl) ?_
  refine V_top (iZ_self _).symm ?_
  refine V_aload_n (q := 551) dL_law_550 0 rfl rfl ?_
  refine V_iload (q := 553) dL_law_551 4 rfl rfl ?_
  refine V_iconst (q := 554) dL_law_553 rfl ?_
  refine V_iadd (q := 555) dL_law_554 rfl ?_
  refine V_sld dL_law_555 (i + 2) (by omega) (by omega) (by omega) (show 555 + 1 = 556 from rfl) ?_
  refine V_top (iZ_self _).symm ?_
  refine V_aload_n (q := 557) dL_law_556 0 rfl rfl ?_
  refine V_iload (q := 559) dL_law_557 4 rfl rfl ?_
  refine V_iconst (q := 560) dL_law_559 rfl ?_
  refine V_iadd (q := 561) dL_law_560 rfl ?_
  refine V_sld dL_law_561 (i + 3) (by omega) (by omega) (by omega) (show 561 + 1 = 562 from rfl) ?_
  refine V_top (iZ_self _).symm ?_
  refine V_aload_n (q := 563) dL_law_562 3 rfl rfl ?_
  refine V_callWs (q := 566) (As := [.ref (a 0), .int (iZ (xs (i + 1)).toInt), .int (iZ (xs (i + 2)).toInt), .int (iZ (xs (i + 3)).toInt), .ref o]) (rest := []) (w1 := []) (w2 := mkc b d S g2 th) (w' := lwx o co (if cSoon S ((xs (i + 1)).toInt) ((xs (i + 2)).toInt) ((xs (i + 3)).toInt) = 0 then vp_updL fo 0 (bL (seenZ S ((xs (i + 1)).toInt) ((xs (i + 2)).toInt) (((xs (i + 3)).toInt)).toNat)) else fo) a c (if cSoon S ((xs (i + 1)).toInt) ((xs (i + 2)).toInt) ((xs (i + 3)).toInt) = 0 then S else S) (if cSoon S ((xs (i + 1)).toInt) ((xs (i + 2)).toInt) ((xs (i + 3)).toInt) = 0 then g1 else g1)) (ws' := lwx o co (if cSoon S ((xs (i + 1)).toInt) ((xs (i + 2)).toInt) ((xs (i + 3)).toInt) = 0 then vp_updL fo 0 (bL (seenZ S ((xs (i + 1)).toInt) ((xs (i + 2)).toInt) (((xs (i + 3)).toInt)).toNat)) else fo) a c (if cSoon S ((xs (i + 1)).toInt) ((xs (i + 2)).toInt) ((xs (i + 3)).toInt) = 0 then S else S) (if cSoon S ((xs (i + 1)).toInt) ((xs (i + 2)).toInt) ((xs (i + 3)).toInt) = 0 then g1 else g1) ++ mkc b d S g2 th) dL_law_563 (w_isTooSoon (a := a) (c := c) (g := g1) (o := o) (co := co) (fo := fo) ho ((xs (i + 1)).toInt) ((xs (i + 2)).toInt) ((xs (i + 3)).toInt) (x_toInt _) (x_toInt _) (x_toInt _)) yw_isTooSoon rfl gL_law_L_isTooSoon rfl (by decide) (by decide) hkn rfl rfl rfl tyz_x ?_
  refine V_istore (q := 568) (lv' := [(0, _), (1, _), (2, _), (3, _), (4, _), (5, _)]) dL_law_566 (by decide) rfl rfl ?_
  refine V_aload_n (q := 569) dL_law_568 2 rfl rfl ?_
  refine V_aload_n (q := 570) dL_law_569 0 rfl rfl ?_
  refine V_iload (q := 572) dL_law_570 4 rfl rfl ?_
  refine V_iconst (q := 573) dL_law_572 rfl ?_
  refine V_iadd (q := 574) dL_law_573 rfl ?_
  refine V_sld dL_law_574 (i + 1) (by omega) (by omega) (by omega) (show 574 + 1 = 575 from rfl) ?_
  refine V_top (iZ_self _).symm ?_
  refine V_aload_n (q := 576) dL_law_575 0 rfl rfl ?_
  refine V_iload (q := 578) dL_law_576 4 rfl rfl ?_
  refine V_iconst (q := 579) dL_law_578 rfl ?_
  refine V_iadd (q := 580) dL_law_579 rfl ?_
  refine V_sld dL_law_580 (i + 2) (by omega) (by omega) (by omega) (show 580 + 1 = 581 from rfl) ?_
  refine V_top (iZ_self _).symm ?_
  refine V_aload_n (q := 582) dL_law_581 0 rfl rfl ?_
  refine V_iload (q := 584) dL_law_582 4 rfl rfl ?_
  refine V_iconst (q := 585) dL_law_584 rfl ?_
  refine V_iadd (q := 586) dL_law_585 rfl ?_
  refine V_sld dL_law_586 (i + 3) (by omega) (by omega) (by omega) (show 586 + 1 = 587 from rfl) ?_
  refine V_top (iZ_self _).symm ?_
  refine V_callIf (q := 590) (As := [.int (iZ (xs (i + 1)).toInt), .int (iZ (xs (i + 2)).toInt), .int (iZ (xs (i + 3)).toInt)]) (rest := []) (w1 := lwx o co (if cSoon S ((xs (i + 1)).toInt) ((xs (i + 2)).toInt) ((xs (i + 3)).toInt) = 0 then vp_updL fo 0 (bL (seenZ S ((xs (i + 1)).toInt) ((xs (i + 2)).toInt) (((xs (i + 3)).toInt)).toNat)) else fo) a c (if cSoon S ((xs (i + 1)).toInt) ((xs (i + 2)).toInt) ((xs (i + 3)).toInt) = 0 then S else S) (if cSoon S ((xs (i + 1)).toInt) ((xs (i + 2)).toInt) ((xs (i + 3)).toInt) = 0 then g1 else g1)) (w2 := []) (ws' := lwx o co (if cSoon S ((xs (i + 1)).toInt) ((xs (i + 2)).toInt) ((xs (i + 3)).toInt) = 0 then vp_updL fo 0 (bL (seenZ S ((xs (i + 1)).toInt) ((xs (i + 2)).toInt) (((xs (i + 3)).toInt)).toNat)) else fo) a c (if cSoon S ((xs (i + 1)).toInt) ((xs (i + 2)).toInt) ((xs (i + 3)).toInt) = 0 then S else S) (if cSoon S ((xs (i + 1)).toInt) ((xs (i + 2)).toInt) ((xs (i + 3)).toInt) = 0 then g1 else g1) ++ (mkc b d _ _ _ ++ [])) dL_law_587 (c_X1_isTooSoon (b := b) (d := d) (g := g2) (th := th) ho ((xs (i + 1)).toInt) ((xs (i + 2)).toInt) ((xs (i + 3)).toInt) (x_toInt _) (x_toInt _) (x_toInt _)) yv_X1_isTooSoon rfl gL_law_X1_isTooSoon rfl 0 rfl rfl rfl rfl (by decide) (by decide) ⟨hkn.1, hkn.2⟩ (by rw [List.append_nil]) rfl rfl tyz_m ?_
  refine V_wz (ws' := lwz o co (if cSoon S ((xs (i + 1)).toInt) ((xs (i + 2)).toInt) ((xs (i + 3)).toInt) = 0 then vp_updL fo 0 (bL (seenZ S ((xs (i + 1)).toInt) ((xs (i + 2)).toInt) (((xs (i + 3)).toInt)).toNat)) else fo) a c b d (if cSoon S ((xs (i + 1)).toInt) ((xs (i + 2)).toInt) ((xs (i + 3)).toInt) = 0 then S else S) (if cSoon S ((xs (i + 1)).toInt) ((xs (i + 2)).toInt) ((xs (i + 3)).toInt) = 0 then g1 else g1) g2 (cSoon S ((xs (i + 1)).toInt) ((xs (i + 2)).toInt) ((xs (i + 3)).toInt))) (by skip; unfold lwz; first | rfl | (simp only [ite_self, List.append_nil]; done) | (rw [List.append_nil]; rfl) | (simp only [ite_self, List.append_nil]; rfl)) ?_
  refine V_istore (q := 592) (lv' := [(0, _), (1, _), (2, _), (3, _), (4, _), (5, _), (6, _)]) dL_law_590 (by decide) rfl rfl ?_
  refine V_aload_n (q := 593) dL_law_592 2 rfl rfl ?_
  refine V_callIf (q := 596) (As := []) (rest := []) (w1 := lwx o co (if cSoon S ((xs (i + 1)).toInt) ((xs (i + 2)).toInt) ((xs (i + 3)).toInt) = 0 then vp_updL fo 0 (bL (seenZ S ((xs (i + 1)).toInt) ((xs (i + 2)).toInt) (((xs (i + 3)).toInt)).toNat)) else fo) a c (if cSoon S ((xs (i + 1)).toInt) ((xs (i + 2)).toInt) ((xs (i + 3)).toInt) = 0 then S else S) (if cSoon S ((xs (i + 1)).toInt) ((xs (i + 2)).toInt) ((xs (i + 3)).toInt) = 0 then g1 else g1)) (w2 := []) (ws' := lwz o co (if cSoon S ((xs (i + 1)).toInt) ((xs (i + 2)).toInt) ((xs (i + 3)).toInt) = 0 then vp_updL fo 0 (bL (seenZ S ((xs (i + 1)).toInt) ((xs (i + 2)).toInt) (((xs (i + 3)).toInt)).toNat)) else fo) a c b d (if cSoon S ((xs (i + 1)).toInt) ((xs (i + 2)).toInt) ((xs (i + 3)).toInt) = 0 then S else S) (if cSoon S ((xs (i + 1)).toInt) ((xs (i + 2)).toInt) ((xs (i + 3)).toInt) = 0 then g1 else g1) g2 (cSoon S ((xs (i + 1)).toInt) ((xs (i + 2)).toInt) ((xs (i + 3)).toInt))) dL_law_593 (c_X1_thrown (b := b) (d := d) (S := (if cSoon S ((xs (i + 1)).toInt) ((xs (i + 2)).toInt) ((xs (i + 3)).toInt) = 0 then S else S)) (g := g2) (th := cSoon S ((xs (i + 1)).toInt) ((xs (i + 2)).toInt) ((xs (i + 3)).toInt))) yv_X1_thrown rfl gL_law_X1_thrown rfl 0 rfl rfl rfl rfl (by decide) (by decide) ⟨hkn.1, hkn.2⟩ (by unfold lwz; rw [List.append_nil]) (by unfold lwz; rw [List.append_nil]) rfl tyz_m ?_
  have hcc := cSoon_c S ((xs (i + 1)).toInt) ((xs (i + 2)).toInt) ((xs (i + 3)).toInt)
  have hcr : -2147483648 ≤ ((cSoon S ((xs (i + 1)).toInt) ((xs (i + 2)).toInt) ((xs (i + 3)).toInt) : Nat) : Int) ∧ ((cSoon S ((xs (i + 1)).toInt) ((xs (i + 2)).toInt) ((xs (i + 3)).toInt) : Nat) : Int) < 2147483648 := by omega
  refine V_iload (q := 598) dL_law_596 5 rfl rfl ?_
  refine V_icmp_eq (q := 601) (tgt := 603) dL_law_598 hcr hcr (by decide) (fun _ => ?_) (fun h => absurd rfl h)
  refine V_iload (q := 605) dL_law_603 5 rfl rfl ?_
  have KF : V RL cL_law 7 rt wsL_law room_1 (vXL s0 L xs) (tyz co c d) QL (k + 1) (n + 6) (lwz o co (if cSoon S ((xs (i + 1)).toInt) ((xs (i + 2)).toInt) ((xs (i + 3)).toInt) = 0 then vp_updL fo 0 (bL (seenZ S ((xs (i + 1)).toInt) ((xs (i + 2)).toInt) (((xs (i + 3)).toInt)).toNat)) else fo) a c b d (if cSoon S ((xs (i + 1)).toInt) ((xs (i + 2)).toInt) ((xs (i + 3)).toInt) = 0 then S else S) (if cSoon S ((xs (i + 1)).toInt) ((xs (i + 2)).toInt) ((xs (i + 3)).toInt) = 0 then g1 else g1) g2 (cSoon S ((xs (i + 1)).toInt) ((xs (i + 2)).toInt) ((xs (i + 3)).toInt))) 627 [(0, .ref s0), (1, .ref (a 0)), (2, .ref (b 0)), (3, .ref o), (4, .int (iZ i))] [] := by
    refine V_goto (tgt := 1306) dL_law_627 (by decide) ?_
    exact K _ _ _ _ _ ((by rw [ite_self]; exact ho)) (g_ite hg1 hg1) hg2
  refine V_if_ne (q := 608) (tgt := 627) dL_law_605 hcr (by decide) (fun _ => V_loc [0, 1, 2, 3, 4] rfl KF) (fun h => ?_)
  have h0 : cSoon S ((xs (i + 1)).toInt) ((xs (i + 2)).toInt) ((xs (i + 3)).toInt) = 0 := by omega
  refine V_aload_n (q := 609) dL_law_608 3 rfl rfl ?_
  refine V_iconst (q := 610) dL_law_609 rfl ?_
  refine V_lald (q := 611) (v := bL (seenZ S ((xs (i + 1)).toInt) ((xs (i + 2)).toInt) (((xs (i + 3)).toInt)).toNat)) dL_law_610 0 0 rfl rfl 0 rfl (by decide) (by decide) (by rw [if_pos h0]; exact if_pos rfl) rfl ?_
  refine V_cutL (M := 621) (bL (seenZ S ((xs (i + 1)).toInt) ((xs (i + 2)).toInt) (((xs (i + 3)).toInt)).toNat)) ?_ (fun k621 => ?_)
  rotate_left
  · skip
    refine V_iload (q := 613) dL_law_611 6 rfl rfl ?_
    refine V_top (y := iZ (bZ (seenZ S ((xs (i + 1)).toInt) ((xs (i + 2)).toInt) (((xs (i + 3)).toInt)).toNat))) (by skip; rw [decide_eq_true h0, Bool.true_and]) ?_
    refine V_if_eqB (q := 616) (tgt := 620) dL_law_613 (by decide) (fun h => ?_) (fun h => ?_)
    · skip
      refine V_lconst (q := 621) dL_law_620 (v := bL (seenZ S ((xs (i + 1)).toInt) ((xs (i + 2)).toInt) (((xs (i + 3)).toInt)).toNat)) (by rw [h]; rfl) rfl ?_
      exact k621 _ rfl
    · skip
      refine V_lconst (q := 617) dL_law_616 (v := bL (seenZ S ((xs (i + 1)).toInt) ((xs (i + 2)).toInt) (((xs (i + 3)).toInt)).toNat)) (by rw [h]; rfl) rfl ?_
      refine V_goto (tgt := 621) dL_law_617 (by decide) ?_
      exact k621 _ rfl
  refine V_lcmp (q := 622) dL_law_621 rfl ?_
  refine V_top (cmp_self _) ?_
  exact V_if_eq (q := 625) (tgt := 627) dL_law_622 (by decide) (by decide) (fun _ => V_loc [0, 1, 2, 3, 4] rfl KF) (fun h => absurd rfl h)
set_option maxRecDepth 100000 in
set_option maxHeartbeats 4000000 in
theorem law_wear {rt : Option FieldType} {QL : VQ} {k n : Nat} {s0 L : Nat} {xs : Nat → Int32} {o : Nat} {co : ClassId} {fo : Nat → Int64} {a : Nat → Nat} {c : Nat → ClassId} {b : Nat → Nat} {d : Nat → ClassId} {S : St} {g1 g2 : Nat → Nat} {th : Nat} {i : Nat} (ho : Ok S) (hg1 : ∀ j, g1 j < 4096) (hg2 : ∀ j, g2 j < 4096) (hi : i + 6 ≤ L) (hL : L ≤ 3072) (hkn : k + 1 ≤ 1067 ∧ n + 6 ≤ 10898) (K : ∀ (S' : St) (g1' g2' : Nat → Nat) (th' : Nat) (fo' : Nat → Int64), Ok S' → (∀ j, g1' j < 4096) → (∀ j, g2' j < 4096) → V RL cL_law 7 rt wsL_law room_1 (vXL s0 L xs) (tyz co c d) QL (k + 1) (n + 6) (lwz o co fo' a c b d S' g1' g2' th') 1306 [(0, .ref s0), (1, .ref (a 0)), (2, .ref (b 0)), (3, .ref o), (4, .int (iZ i))] []) : V RL cL_law 7 rt wsL_law room_1 (vXL s0 L xs) (tyz co c d) QL k n (lwz o co fo a c b d S g1 g2 th) 630 [(0, .ref s0), (1, .ref (a 0)), (2, .ref (b 0)), (3, .ref o), (4, .int (iZ i))] [] := by
  refine V_aload_n (q := 631) dL_law_630 1 rfl rfl ?_
  refine V_aload_n (q := 632) dL_law_631 0 rfl rfl ?_
  refine V_iload (q := 634) dL_law_632 4 rfl rfl ?_
  refine V_iconst (q := 635) dL_law_634 rfl ?_
  refine V_iadd (q := 636) dL_law_635 rfl ?_
  refine V_sld dL_law_636 (i + 1) (by omega) (by omega) (by omega) (show 636 + 1 = 637 from rfl) ?_
  refine V_top (iZ_self _).symm ?_
  refine V_aload_n (q := 638) dL_law_637 0 rfl rfl ?_
  refine V_iload (q := 640) dL_law_638 4 rfl rfl ?_
  refine V_iconst (q := 641) dL_law_640 rfl ?_
  refine V_iadd (q := 642) dL_law_641 rfl ?_
  refine V_sld dL_law_642 (i + 2) (by omega) (by omega) (by omega) (show 642 + 1 = 643 from rfl) ?_
  refine V_top (iZ_self _).symm ?_
  refine V_aload_n (q := 644) dL_law_643 0 rfl rfl ?_
  refine V_iload (q := 646) dL_law_644 4 rfl rfl ?_
  refine V_iconst (q := 647) dL_law_646 rfl ?_
  refine V_iadd (q := 648) dL_law_647 rfl ?_
  refine V_sld dL_law_648 (i + 3) (by omega) (by omega) (by omega) (show 648 + 1 = 649 from rfl) ?_
  refine V_top (iZ_self _).symm ?_
  refine V_aload_n (q := 650) dL_law_649 0 rfl rfl ?_
  refine V_iload (q := 652) dL_law_650 4 rfl rfl ?_
  refine V_iconst (q := 653) dL_law_652 rfl ?_
  refine V_iadd (q := 654) dL_law_653 rfl ?_
  refine V_sld dL_law_654 (i + 4) (by omega) (by omega) (by omega) (show 654 + 1 = 655 from rfl) ?_
  refine V_top (iZ_self _).symm ?_
  refine V_aload_n (q := 656) dL_law_655 3 rfl rfl ?_
  refine V_callWs (q := 659) (As := [.ref (a 0), .int (iZ (xs (i + 1)).toInt), .int (iZ (xs (i + 2)).toInt), .int (iZ (xs (i + 3)).toInt), .int (iZ (xs (i + 4)).toInt), .ref o]) (rest := []) (w1 := []) (w2 := mkc b d S g2 th) (w' := lwx o co (if cWear S ((xs (i + 1)).toInt) ((xs (i + 2)).toInt) ((xs (i + 3)).toInt) ((xs (i + 4)).toInt) = 0 then vp_updL fo 0 ((iZ (owZ S ((xs (i + 1)).toInt) ((xs (i + 2)).toInt) ((xs (i + 3)).toInt))).toInt64) else fo) a c (if cWear S ((xs (i + 1)).toInt) ((xs (i + 2)).toInt) ((xs (i + 3)).toInt) ((xs (i + 4)).toInt) = 0 then wrS S ((xs (i + 1)).toInt) ((xs (i + 2)).toInt) ((xs (i + 3)).toInt) (((xs (i + 4)).toInt)).toNat else S) (if cWear S ((xs (i + 1)).toInt) ((xs (i + 2)).toInt) ((xs (i + 3)).toInt) ((xs (i + 4)).toInt) = 0 then g1 else g1)) (ws' := lwx o co (if cWear S ((xs (i + 1)).toInt) ((xs (i + 2)).toInt) ((xs (i + 3)).toInt) ((xs (i + 4)).toInt) = 0 then vp_updL fo 0 ((iZ (owZ S ((xs (i + 1)).toInt) ((xs (i + 2)).toInt) ((xs (i + 3)).toInt))).toInt64) else fo) a c (if cWear S ((xs (i + 1)).toInt) ((xs (i + 2)).toInt) ((xs (i + 3)).toInt) ((xs (i + 4)).toInt) = 0 then wrS S ((xs (i + 1)).toInt) ((xs (i + 2)).toInt) ((xs (i + 3)).toInt) (((xs (i + 4)).toInt)).toNat else S) (if cWear S ((xs (i + 1)).toInt) ((xs (i + 2)).toInt) ((xs (i + 3)).toInt) ((xs (i + 4)).toInt) = 0 then g1 else g1) ++ mkc b d S g2 th) dL_law_656 (w_wear (a := a) (c := c) (g := g1) (o := o) (co := co) (fo := fo) ho ((xs (i + 1)).toInt) ((xs (i + 2)).toInt) ((xs (i + 3)).toInt) ((xs (i + 4)).toInt) (x_toInt _) (x_toInt _) (x_toInt _) (x_toInt _)) yw_wear rfl gL_law_L_wear rfl (by decide) (by decide) hkn rfl rfl rfl tyz_x ?_
  refine V_istore (q := 661) (lv' := [(0, _), (1, _), (2, _), (3, _), (4, _), (5, _)]) dL_law_659 (by decide) rfl rfl ?_
  refine V_aload_n (q := 662) dL_law_661 2 rfl rfl ?_
  refine V_aload_n (q := 663) dL_law_662 0 rfl rfl ?_
  refine V_iload (q := 665) dL_law_663 4 rfl rfl ?_
  refine V_iconst (q := 666) dL_law_665 rfl ?_
  refine V_iadd (q := 667) dL_law_666 rfl ?_
  refine V_sld dL_law_667 (i + 1) (by omega) (by omega) (by omega) (show 667 + 1 = 668 from rfl) ?_
  refine V_top (iZ_self _).symm ?_
  refine V_aload_n (q := 669) dL_law_668 0 rfl rfl ?_
  refine V_iload (q := 671) dL_law_669 4 rfl rfl ?_
  refine V_iconst (q := 672) dL_law_671 rfl ?_
  refine V_iadd (q := 673) dL_law_672 rfl ?_
  refine V_sld dL_law_673 (i + 2) (by omega) (by omega) (by omega) (show 673 + 1 = 674 from rfl) ?_
  refine V_top (iZ_self _).symm ?_
  refine V_aload_n (q := 675) dL_law_674 0 rfl rfl ?_
  refine V_iload (q := 677) dL_law_675 4 rfl rfl ?_
  refine V_iconst (q := 678) dL_law_677 rfl ?_
  refine V_iadd (q := 679) dL_law_678 rfl ?_
  refine V_sld dL_law_679 (i + 3) (by omega) (by omega) (by omega) (show 679 + 1 = 680 from rfl) ?_
  refine V_top (iZ_self _).symm ?_
  refine V_aload_n (q := 681) dL_law_680 0 rfl rfl ?_
  refine V_iload (q := 683) dL_law_681 4 rfl rfl ?_
  refine V_iconst (q := 684) dL_law_683 rfl ?_
  refine V_iadd (q := 685) dL_law_684 rfl ?_
  refine V_sld dL_law_685 (i + 4) (by omega) (by omega) (by omega) (show 685 + 1 = 686 from rfl) ?_
  refine V_top (iZ_self _).symm ?_
  refine V_callIf (q := 689) (As := [.int (iZ (xs (i + 1)).toInt), .int (iZ (xs (i + 2)).toInt), .int (iZ (xs (i + 3)).toInt), .int (iZ (xs (i + 4)).toInt)]) (rest := []) (w1 := lwx o co (if cWear S ((xs (i + 1)).toInt) ((xs (i + 2)).toInt) ((xs (i + 3)).toInt) ((xs (i + 4)).toInt) = 0 then vp_updL fo 0 ((iZ (owZ S ((xs (i + 1)).toInt) ((xs (i + 2)).toInt) ((xs (i + 3)).toInt))).toInt64) else fo) a c (if cWear S ((xs (i + 1)).toInt) ((xs (i + 2)).toInt) ((xs (i + 3)).toInt) ((xs (i + 4)).toInt) = 0 then wrS S ((xs (i + 1)).toInt) ((xs (i + 2)).toInt) ((xs (i + 3)).toInt) (((xs (i + 4)).toInt)).toNat else S) (if cWear S ((xs (i + 1)).toInt) ((xs (i + 2)).toInt) ((xs (i + 3)).toInt) ((xs (i + 4)).toInt) = 0 then g1 else g1)) (w2 := []) (ws' := lwx o co (if cWear S ((xs (i + 1)).toInt) ((xs (i + 2)).toInt) ((xs (i + 3)).toInt) ((xs (i + 4)).toInt) = 0 then vp_updL fo 0 ((iZ (owZ S ((xs (i + 1)).toInt) ((xs (i + 2)).toInt) ((xs (i + 3)).toInt))).toInt64) else fo) a c (if cWear S ((xs (i + 1)).toInt) ((xs (i + 2)).toInt) ((xs (i + 3)).toInt) ((xs (i + 4)).toInt) = 0 then wrS S ((xs (i + 1)).toInt) ((xs (i + 2)).toInt) ((xs (i + 3)).toInt) (((xs (i + 4)).toInt)).toNat else S) (if cWear S ((xs (i + 1)).toInt) ((xs (i + 2)).toInt) ((xs (i + 3)).toInt) ((xs (i + 4)).toInt) = 0 then g1 else g1) ++ (mkc b d _ _ _ ++ [])) dL_law_686 (c_X1_wear (b := b) (d := d) (g := g2) (th := th) ho ((xs (i + 1)).toInt) ((xs (i + 2)).toInt) ((xs (i + 3)).toInt) ((xs (i + 4)).toInt) (x_toInt _) (x_toInt _) (x_toInt _) (x_toInt _)) yv_X1_wear rfl gL_law_X1_wear rfl 0 rfl rfl rfl rfl (by decide) (by decide) ⟨hkn.1, hkn.2⟩ (by rw [List.append_nil]) rfl rfl tyz_m ?_
  refine V_wz (ws' := lwz o co (if cWear S ((xs (i + 1)).toInt) ((xs (i + 2)).toInt) ((xs (i + 3)).toInt) ((xs (i + 4)).toInt) = 0 then vp_updL fo 0 ((iZ (owZ S ((xs (i + 1)).toInt) ((xs (i + 2)).toInt) ((xs (i + 3)).toInt))).toInt64) else fo) a c b d (if cWear S ((xs (i + 1)).toInt) ((xs (i + 2)).toInt) ((xs (i + 3)).toInt) ((xs (i + 4)).toInt) = 0 then wrS S ((xs (i + 1)).toInt) ((xs (i + 2)).toInt) ((xs (i + 3)).toInt) (((xs (i + 4)).toInt)).toNat else S) (if cWear S ((xs (i + 1)).toInt) ((xs (i + 2)).toInt) ((xs (i + 3)).toInt) ((xs (i + 4)).toInt) = 0 then g1 else g1) g2 (cWear S ((xs (i + 1)).toInt) ((xs (i + 2)).toInt) ((xs (i + 3)).toInt) ((xs (i + 4)).toInt))) (by skip; unfold lwz; first | rfl | (simp only [ite_self, List.append_nil]; done) | (rw [List.append_nil]; rfl) | (simp only [ite_self, List.append_nil]; rfl)) ?_
  refine V_istore (q := 691) (lv' := [(0, _), (1, _), (2, _), (3, _), (4, _), (5, _), (6, _)]) dL_law_689 (by decide) rfl rfl ?_
  refine V_aload_n (q := 692) dL_law_691 2 rfl rfl ?_
  refine V_callIf (q := 695) (As := []) (rest := []) (w1 := lwx o co (if cWear S ((xs (i + 1)).toInt) ((xs (i + 2)).toInt) ((xs (i + 3)).toInt) ((xs (i + 4)).toInt) = 0 then vp_updL fo 0 ((iZ (owZ S ((xs (i + 1)).toInt) ((xs (i + 2)).toInt) ((xs (i + 3)).toInt))).toInt64) else fo) a c (if cWear S ((xs (i + 1)).toInt) ((xs (i + 2)).toInt) ((xs (i + 3)).toInt) ((xs (i + 4)).toInt) = 0 then wrS S ((xs (i + 1)).toInt) ((xs (i + 2)).toInt) ((xs (i + 3)).toInt) (((xs (i + 4)).toInt)).toNat else S) (if cWear S ((xs (i + 1)).toInt) ((xs (i + 2)).toInt) ((xs (i + 3)).toInt) ((xs (i + 4)).toInt) = 0 then g1 else g1)) (w2 := []) (ws' := lwz o co (if cWear S ((xs (i + 1)).toInt) ((xs (i + 2)).toInt) ((xs (i + 3)).toInt) ((xs (i + 4)).toInt) = 0 then vp_updL fo 0 ((iZ (owZ S ((xs (i + 1)).toInt) ((xs (i + 2)).toInt) ((xs (i + 3)).toInt))).toInt64) else fo) a c b d (if cWear S ((xs (i + 1)).toInt) ((xs (i + 2)).toInt) ((xs (i + 3)).toInt) ((xs (i + 4)).toInt) = 0 then wrS S ((xs (i + 1)).toInt) ((xs (i + 2)).toInt) ((xs (i + 3)).toInt) (((xs (i + 4)).toInt)).toNat else S) (if cWear S ((xs (i + 1)).toInt) ((xs (i + 2)).toInt) ((xs (i + 3)).toInt) ((xs (i + 4)).toInt) = 0 then g1 else g1) g2 (cWear S ((xs (i + 1)).toInt) ((xs (i + 2)).toInt) ((xs (i + 3)).toInt) ((xs (i + 4)).toInt))) dL_law_692 (c_X1_thrown (b := b) (d := d) (S := (if cWear S ((xs (i + 1)).toInt) ((xs (i + 2)).toInt) ((xs (i + 3)).toInt) ((xs (i + 4)).toInt) = 0 then wrS S ((xs (i + 1)).toInt) ((xs (i + 2)).toInt) ((xs (i + 3)).toInt) (((xs (i + 4)).toInt)).toNat else S)) (g := g2) (th := cWear S ((xs (i + 1)).toInt) ((xs (i + 2)).toInt) ((xs (i + 3)).toInt) ((xs (i + 4)).toInt))) yv_X1_thrown rfl gL_law_X1_thrown rfl 0 rfl rfl rfl rfl (by decide) (by decide) ⟨hkn.1, hkn.2⟩ (by unfold lwz; rw [List.append_nil]) (by unfold lwz; rw [List.append_nil]) rfl tyz_m ?_
  have hcc := cWear_c S ((xs (i + 1)).toInt) ((xs (i + 2)).toInt) ((xs (i + 3)).toInt) ((xs (i + 4)).toInt)
  have hcr : -2147483648 ≤ ((cWear S ((xs (i + 1)).toInt) ((xs (i + 2)).toInt) ((xs (i + 3)).toInt) ((xs (i + 4)).toInt) : Nat) : Int) ∧ ((cWear S ((xs (i + 1)).toInt) ((xs (i + 2)).toInt) ((xs (i + 3)).toInt) ((xs (i + 4)).toInt) : Nat) : Int) < 2147483648 := by omega
  refine V_iload (q := 697) dL_law_695 5 rfl rfl ?_
  refine V_icmp_eq (q := 700) (tgt := 702) dL_law_697 hcr hcr (by decide) (fun _ => ?_) (fun h => absurd rfl h)
  refine V_iload (q := 704) dL_law_702 5 rfl rfl ?_
  have KF : V RL cL_law 7 rt wsL_law room_1 (vXL s0 L xs) (tyz co c d) QL (k + 1) (n + 6) (lwz o co (if cWear S ((xs (i + 1)).toInt) ((xs (i + 2)).toInt) ((xs (i + 3)).toInt) ((xs (i + 4)).toInt) = 0 then vp_updL fo 0 ((iZ (owZ S ((xs (i + 1)).toInt) ((xs (i + 2)).toInt) ((xs (i + 3)).toInt))).toInt64) else fo) a c b d (if cWear S ((xs (i + 1)).toInt) ((xs (i + 2)).toInt) ((xs (i + 3)).toInt) ((xs (i + 4)).toInt) = 0 then wrS S ((xs (i + 1)).toInt) ((xs (i + 2)).toInt) ((xs (i + 3)).toInt) (((xs (i + 4)).toInt)).toNat else S) (if cWear S ((xs (i + 1)).toInt) ((xs (i + 2)).toInt) ((xs (i + 3)).toInt) ((xs (i + 4)).toInt) = 0 then g1 else g1) g2 (cWear S ((xs (i + 1)).toInt) ((xs (i + 2)).toInt) ((xs (i + 3)).toInt) ((xs (i + 4)).toInt))) 719 [(0, .ref s0), (1, .ref (a 0)), (2, .ref (b 0)), (3, .ref o), (4, .int (iZ i))] [] := by
    refine V_goto (tgt := 1306) dL_law_719 (by decide) ?_
    exact K _ _ _ _ _ (ok_ite ho (fun _ => ok_wear ho _ _ _ _)) (g_ite hg1 hg1) hg2
  refine V_if_ne (q := 707) (tgt := 719) dL_law_704 hcr (by decide) (fun _ => V_loc [0, 1, 2, 3, 4] rfl KF) (fun h => ?_)
  have h0 : cWear S ((xs (i + 1)).toInt) ((xs (i + 2)).toInt) ((xs (i + 3)).toInt) ((xs (i + 4)).toInt) = 0 := by omega
  refine V_aload_n (q := 708) dL_law_707 3 rfl rfl ?_
  refine V_iconst (q := 709) dL_law_708 rfl ?_
  refine V_lald (q := 710) (v := (iZ (owZ S ((xs (i + 1)).toInt) ((xs (i + 2)).toInt) ((xs (i + 3)).toInt))).toInt64) dL_law_709 0 0 rfl rfl 0 rfl (by decide) (by decide) (by rw [if_pos h0]; exact if_pos rfl) rfl ?_
  refine V_iload (q := 712) dL_law_710 6 rfl rfl ?_
  refine V_top (y := iZ (owZ S ((xs (i + 1)).toInt) ((xs (i + 2)).toInt) ((xs (i + 3)).toInt))) (by rw [if_pos h0]) ?_
  refine V_i2l (q := 713) dL_law_712 rfl ?_
  refine V_lcmp (q := 714) dL_law_713 rfl ?_
  refine V_top (cmp_self _) ?_
  exact V_if_eq (q := 717) (tgt := 719) dL_law_714 (by decide) (by decide) (fun _ => V_loc [0, 1, 2, 3, 4] rfl KF) (fun h => absurd rfl h)
set_option maxRecDepth 100000 in
set_option maxHeartbeats 4000000 in
theorem law_outfits {rt : Option FieldType} {QL : VQ} {k n : Nat} {s0 L : Nat} {xs : Nat → Int32} {o : Nat} {co : ClassId} {fo : Nat → Int64} {a : Nat → Nat} {c : Nat → ClassId} {b : Nat → Nat} {d : Nat → ClassId} {S : St} {g1 g2 : Nat → Nat} {th : Nat} {i : Nat} (ho : Ok S) (hg1 : ∀ j, g1 j < 4096) (hg2 : ∀ j, g2 j < 4096) (hi : i + 6 ≤ L) (hL : L ≤ 3072) (hkn : k + 1 ≤ 1067 ∧ n + 6 ≤ 10898) (K : ∀ (S' : St) (g1' g2' : Nat → Nat) (th' : Nat) (fo' : Nat → Int64), Ok S' → (∀ j, g1' j < 4096) → (∀ j, g2' j < 4096) → V RL cL_law 7 rt wsL_law room_1 (vXL s0 L xs) (tyz co c d) QL (k + 1) (n + 6) (lwz o co fo' a c b d S' g1' g2' th') 1306 [(0, .ref s0), (1, .ref (a 0)), (2, .ref (b 0)), (3, .ref o), (4, .int (iZ i))] []) : V RL cL_law 7 rt wsL_law room_1 (vXL s0 L xs) (tyz co c d) QL k n (lwz o co fo a c b d S g1 g2 th) 722 [(0, .ref s0), (1, .ref (a 0)), (2, .ref (b 0)), (3, .ref o), (4, .int (iZ i))] [] := by
  refine V_aload_n (q := 723) dL_law_722 1 rfl rfl ?_
  refine V_aload_n (q := 724) dL_law_723 0 rfl rfl ?_
  refine V_iload (q := 726) dL_law_724 4 rfl rfl ?_
  refine V_iconst (q := 727) dL_law_726 rfl ?_
  refine V_iadd (q := 728) dL_law_727 rfl ?_
  refine V_sld dL_law_728 (i + 1) (by omega) (by omega) (by omega) (show 728 + 1 = 729 from rfl) ?_
  refine V_top (iZ_self _).symm ?_
  refine V_aload_n (q := 730) dL_law_729 3 rfl rfl ?_
  refine V_callWs (q := 733) (As := [.ref (a 0), .int (iZ (xs (i + 1)).toInt), .ref o]) (rest := []) (w1 := []) (w2 := mkc b d S g2 th) (w' := lwx o co (if cOut ((xs (i + 1)).toInt) = 0 then vp_updL fo 0 ((iZ (outZ S ((xs (i + 1)).toInt))).toInt64) else fo) a c (if cOut ((xs (i + 1)).toInt) = 0 then S else S) (if cOut ((xs (i + 1)).toInt) = 0 then g1 else g1)) (ws' := lwx o co (if cOut ((xs (i + 1)).toInt) = 0 then vp_updL fo 0 ((iZ (outZ S ((xs (i + 1)).toInt))).toInt64) else fo) a c (if cOut ((xs (i + 1)).toInt) = 0 then S else S) (if cOut ((xs (i + 1)).toInt) = 0 then g1 else g1) ++ mkc b d S g2 th) dL_law_730 (w_outfits (a := a) (c := c) (g := g1) (o := o) (co := co) (fo := fo) ho ((xs (i + 1)).toInt) (x_toInt _)) yw_outfits rfl gL_law_L_outfits rfl (by decide) (by decide) hkn rfl rfl rfl tyz_x ?_
  refine V_istore (q := 735) (lv' := [(0, _), (1, _), (2, _), (3, _), (4, _), (5, _)]) dL_law_733 (by decide) rfl rfl ?_
  refine V_aload_n (q := 736) dL_law_735 2 rfl rfl ?_
  refine V_aload_n (q := 737) dL_law_736 0 rfl rfl ?_
  refine V_iload (q := 739) dL_law_737 4 rfl rfl ?_
  refine V_iconst (q := 740) dL_law_739 rfl ?_
  refine V_iadd (q := 741) dL_law_740 rfl ?_
  refine V_sld dL_law_741 (i + 1) (by omega) (by omega) (by omega) (show 741 + 1 = 742 from rfl) ?_
  refine V_top (iZ_self _).symm ?_
  refine V_callIf (q := 745) (As := [.int (iZ (xs (i + 1)).toInt)]) (rest := []) (w1 := lwx o co (if cOut ((xs (i + 1)).toInt) = 0 then vp_updL fo 0 ((iZ (outZ S ((xs (i + 1)).toInt))).toInt64) else fo) a c (if cOut ((xs (i + 1)).toInt) = 0 then S else S) (if cOut ((xs (i + 1)).toInt) = 0 then g1 else g1)) (w2 := []) (ws' := lwx o co (if cOut ((xs (i + 1)).toInt) = 0 then vp_updL fo 0 ((iZ (outZ S ((xs (i + 1)).toInt))).toInt64) else fo) a c (if cOut ((xs (i + 1)).toInt) = 0 then S else S) (if cOut ((xs (i + 1)).toInt) = 0 then g1 else g1) ++ (mkc b d _ _ _ ++ [])) dL_law_742 (c_X1_outfits (b := b) (d := d) (g := g2) (th := th) ho ((xs (i + 1)).toInt) (x_toInt _)) yv_X1_outfits rfl gL_law_X1_outfits rfl 0 rfl rfl rfl rfl (by decide) (by decide) ⟨hkn.1, hkn.2⟩ (by rw [List.append_nil]) rfl rfl tyz_m ?_
  refine V_wz (ws' := lwz o co (if cOut ((xs (i + 1)).toInt) = 0 then vp_updL fo 0 ((iZ (outZ S ((xs (i + 1)).toInt))).toInt64) else fo) a c b d (if cOut ((xs (i + 1)).toInt) = 0 then S else S) (if cOut ((xs (i + 1)).toInt) = 0 then g1 else g1) g2 (cOut ((xs (i + 1)).toInt))) (by skip; unfold lwz; first | rfl | (simp only [ite_self, List.append_nil]; done) | (rw [List.append_nil]; rfl) | (simp only [ite_self, List.append_nil]; rfl)) ?_
  refine V_istore (q := 747) (lv' := [(0, _), (1, _), (2, _), (3, _), (4, _), (5, _), (6, _)]) dL_law_745 (by decide) rfl rfl ?_
  refine V_aload_n (q := 748) dL_law_747 2 rfl rfl ?_
  refine V_callIf (q := 751) (As := []) (rest := []) (w1 := lwx o co (if cOut ((xs (i + 1)).toInt) = 0 then vp_updL fo 0 ((iZ (outZ S ((xs (i + 1)).toInt))).toInt64) else fo) a c (if cOut ((xs (i + 1)).toInt) = 0 then S else S) (if cOut ((xs (i + 1)).toInt) = 0 then g1 else g1)) (w2 := []) (ws' := lwz o co (if cOut ((xs (i + 1)).toInt) = 0 then vp_updL fo 0 ((iZ (outZ S ((xs (i + 1)).toInt))).toInt64) else fo) a c b d (if cOut ((xs (i + 1)).toInt) = 0 then S else S) (if cOut ((xs (i + 1)).toInt) = 0 then g1 else g1) g2 (cOut ((xs (i + 1)).toInt))) dL_law_748 (c_X1_thrown (b := b) (d := d) (S := (if cOut ((xs (i + 1)).toInt) = 0 then S else S)) (g := g2) (th := cOut ((xs (i + 1)).toInt))) yv_X1_thrown rfl gL_law_X1_thrown rfl 0 rfl rfl rfl rfl (by decide) (by decide) ⟨hkn.1, hkn.2⟩ (by unfold lwz; rw [List.append_nil]) (by unfold lwz; rw [List.append_nil]) rfl tyz_m ?_
  have hcc := cOut_c ((xs (i + 1)).toInt)
  have hcr : -2147483648 ≤ ((cOut ((xs (i + 1)).toInt) : Nat) : Int) ∧ ((cOut ((xs (i + 1)).toInt) : Nat) : Int) < 2147483648 := by omega
  refine V_iload (q := 753) dL_law_751 5 rfl rfl ?_
  refine V_icmp_eq (q := 756) (tgt := 758) dL_law_753 hcr hcr (by decide) (fun _ => ?_) (fun h => absurd rfl h)
  refine V_iload (q := 760) dL_law_758 5 rfl rfl ?_
  have KF : V RL cL_law 7 rt wsL_law room_1 (vXL s0 L xs) (tyz co c d) QL (k + 1) (n + 6) (lwz o co (if cOut ((xs (i + 1)).toInt) = 0 then vp_updL fo 0 ((iZ (outZ S ((xs (i + 1)).toInt))).toInt64) else fo) a c b d (if cOut ((xs (i + 1)).toInt) = 0 then S else S) (if cOut ((xs (i + 1)).toInt) = 0 then g1 else g1) g2 (cOut ((xs (i + 1)).toInt))) 775 [(0, .ref s0), (1, .ref (a 0)), (2, .ref (b 0)), (3, .ref o), (4, .int (iZ i))] [] := by
    refine V_goto (tgt := 1306) dL_law_775 (by decide) ?_
    exact K _ _ _ _ _ ((by rw [ite_self]; exact ho)) (g_ite hg1 hg1) hg2
  refine V_if_ne (q := 763) (tgt := 775) dL_law_760 hcr (by decide) (fun _ => V_loc [0, 1, 2, 3, 4] rfl KF) (fun h => ?_)
  have h0 : cOut ((xs (i + 1)).toInt) = 0 := by omega
  refine V_aload_n (q := 764) dL_law_763 3 rfl rfl ?_
  refine V_iconst (q := 765) dL_law_764 rfl ?_
  refine V_lald (q := 766) (v := (iZ (outZ S ((xs (i + 1)).toInt))).toInt64) dL_law_765 0 0 rfl rfl 0 rfl (by decide) (by decide) (by rw [if_pos h0]; exact if_pos rfl) rfl ?_
  refine V_iload (q := 768) dL_law_766 6 rfl rfl ?_
  refine V_top (y := iZ (outZ S ((xs (i + 1)).toInt))) (by rw [if_pos h0]; rw [← out_eq ho]) ?_
  refine V_i2l (q := 769) dL_law_768 rfl ?_
  refine V_lcmp (q := 770) dL_law_769 rfl ?_
  refine V_top (cmp_self _) ?_
  exact V_if_eq (q := 773) (tgt := 775) dL_law_770 (by decide) (by decide) (fun _ => V_loc [0, 1, 2, 3, 4] rfl KF) (fun h => absurd rfl h)
set_option maxRecDepth 100000 in
set_option maxHeartbeats 4000000 in
theorem law_adds {rt : Option FieldType} {QL : VQ} {k n : Nat} {s0 L : Nat} {xs : Nat → Int32} {o : Nat} {co : ClassId} {fo : Nat → Int64} {a : Nat → Nat} {c : Nat → ClassId} {b : Nat → Nat} {d : Nat → ClassId} {S : St} {g1 g2 : Nat → Nat} {th : Nat} {i : Nat} (ho : Ok S) (hg1 : ∀ j, g1 j < 4096) (hg2 : ∀ j, g2 j < 4096) (hi : i + 6 ≤ L) (hL : L ≤ 3072) (hkn : k + 1 ≤ 1067 ∧ n + 6 ≤ 10898) (K : ∀ (S' : St) (g1' g2' : Nat → Nat) (th' : Nat) (fo' : Nat → Int64), Ok S' → (∀ j, g1' j < 4096) → (∀ j, g2' j < 4096) → V RL cL_law 7 rt wsL_law room_1 (vXL s0 L xs) (tyz co c d) QL (k + 1) (n + 6) (lwz o co fo' a c b d S' g1' g2' th') 1306 [(0, .ref s0), (1, .ref (a 0)), (2, .ref (b 0)), (3, .ref o), (4, .int (iZ i))] []) : V RL cL_law 7 rt wsL_law room_1 (vXL s0 L xs) (tyz co c d) QL k n (lwz o co fo a c b d S g1 g2 th) 778 [(0, .ref s0), (1, .ref (a 0)), (2, .ref (b 0)), (3, .ref o), (4, .int (iZ i))] [] := by
  refine V_aload_n (q := 779) dL_law_778 1 rfl rfl ?_
  refine V_aload_n (q := 780) dL_law_779 0 rfl rfl ?_
  refine V_iload (q := 782) dL_law_780 4 rfl rfl ?_
  refine V_iconst (q := 783) dL_law_782 rfl ?_
  refine V_iadd (q := 784) dL_law_783 rfl ?_
  refine V_sld dL_law_784 (i + 1) (by omega) (by omega) (by omega) (show 784 + 1 = 785 from rfl) ?_
  refine V_top (iZ_self _).symm ?_
  refine V_aload_n (q := 786) dL_law_785 0 rfl rfl ?_
  refine V_iload (q := 788) dL_law_786 4 rfl rfl ?_
  refine V_iconst (q := 789) dL_law_788 rfl ?_
  refine V_iadd (q := 790) dL_law_789 rfl ?_
  refine V_sld dL_law_790 (i + 2) (by omega) (by omega) (by omega) (show 790 + 1 = 791 from rfl) ?_
  refine V_top (iZ_self _).symm ?_
  refine V_aload_n (q := 792) dL_law_791 3 rfl rfl ?_
  refine V_callWs (q := 795) (As := [.ref (a 0), .int (iZ (xs (i + 1)).toInt), .int (iZ (xs (i + 2)).toInt), .ref o]) (rest := []) (w1 := []) (w2 := mkc b d S g2 th) (w' := lwx o co (if cAdds S ((xs (i + 1)).toInt) ((xs (i + 2)).toInt) = 0 then vp_updL fo 0 ((iZ (addZ S ((xs (i + 1)).toInt) ((xs (i + 2)).toInt))).toInt64) else fo) a c (if cAdds S ((xs (i + 1)).toInt) ((xs (i + 2)).toInt) = 0 then S else S) (if cAdds S ((xs (i + 1)).toInt) ((xs (i + 2)).toInt) = 0 then g1 else g1)) (ws' := lwx o co (if cAdds S ((xs (i + 1)).toInt) ((xs (i + 2)).toInt) = 0 then vp_updL fo 0 ((iZ (addZ S ((xs (i + 1)).toInt) ((xs (i + 2)).toInt))).toInt64) else fo) a c (if cAdds S ((xs (i + 1)).toInt) ((xs (i + 2)).toInt) = 0 then S else S) (if cAdds S ((xs (i + 1)).toInt) ((xs (i + 2)).toInt) = 0 then g1 else g1) ++ mkc b d S g2 th) dL_law_792 (w_adds (a := a) (c := c) (g := g1) (o := o) (co := co) (fo := fo) ho ((xs (i + 1)).toInt) ((xs (i + 2)).toInt) (x_toInt _) (x_toInt _)) yw_adds rfl gL_law_L_adds rfl (by decide) (by decide) hkn rfl rfl rfl tyz_x ?_
  refine V_istore (q := 797) (lv' := [(0, _), (1, _), (2, _), (3, _), (4, _), (5, _)]) dL_law_795 (by decide) rfl rfl ?_
  refine V_aload_n (q := 798) dL_law_797 2 rfl rfl ?_
  refine V_aload_n (q := 799) dL_law_798 0 rfl rfl ?_
  refine V_iload (q := 801) dL_law_799 4 rfl rfl ?_
  refine V_iconst (q := 802) dL_law_801 rfl ?_
  refine V_iadd (q := 803) dL_law_802 rfl ?_
  refine V_sld dL_law_803 (i + 1) (by omega) (by omega) (by omega) (show 803 + 1 = 804 from rfl) ?_
  refine V_top (iZ_self _).symm ?_
  refine V_aload_n (q := 805) dL_law_804 0 rfl rfl ?_
  refine V_iload (q := 807) dL_law_805 4 rfl rfl ?_
  refine V_iconst (q := 808) dL_law_807 rfl ?_
  refine V_iadd (q := 809) dL_law_808 rfl ?_
  refine V_sld dL_law_809 (i + 2) (by omega) (by omega) (by omega) (show 809 + 1 = 810 from rfl) ?_
  refine V_top (iZ_self _).symm ?_
  refine V_callIf (q := 813) (As := [.int (iZ (xs (i + 1)).toInt), .int (iZ (xs (i + 2)).toInt)]) (rest := []) (w1 := lwx o co (if cAdds S ((xs (i + 1)).toInt) ((xs (i + 2)).toInt) = 0 then vp_updL fo 0 ((iZ (addZ S ((xs (i + 1)).toInt) ((xs (i + 2)).toInt))).toInt64) else fo) a c (if cAdds S ((xs (i + 1)).toInt) ((xs (i + 2)).toInt) = 0 then S else S) (if cAdds S ((xs (i + 1)).toInt) ((xs (i + 2)).toInt) = 0 then g1 else g1)) (w2 := []) (ws' := lwx o co (if cAdds S ((xs (i + 1)).toInt) ((xs (i + 2)).toInt) = 0 then vp_updL fo 0 ((iZ (addZ S ((xs (i + 1)).toInt) ((xs (i + 2)).toInt))).toInt64) else fo) a c (if cAdds S ((xs (i + 1)).toInt) ((xs (i + 2)).toInt) = 0 then S else S) (if cAdds S ((xs (i + 1)).toInt) ((xs (i + 2)).toInt) = 0 then g1 else g1) ++ (mkc b d _ _ _ ++ [])) dL_law_810 (c_X1_adds (b := b) (d := d) (g := g2) (th := th) ho ((xs (i + 1)).toInt) ((xs (i + 2)).toInt) (x_toInt _) (x_toInt _)) yv_X1_adds rfl gL_law_X1_adds rfl 0 rfl rfl rfl rfl (by decide) (by decide) ⟨hkn.1, hkn.2⟩ (by rw [List.append_nil]) rfl rfl tyz_m ?_
  refine V_wz (ws' := lwz o co (if cAdds S ((xs (i + 1)).toInt) ((xs (i + 2)).toInt) = 0 then vp_updL fo 0 ((iZ (addZ S ((xs (i + 1)).toInt) ((xs (i + 2)).toInt))).toInt64) else fo) a c b d (if cAdds S ((xs (i + 1)).toInt) ((xs (i + 2)).toInt) = 0 then S else S) (if cAdds S ((xs (i + 1)).toInt) ((xs (i + 2)).toInt) = 0 then g1 else g1) g2 (cAdds S ((xs (i + 1)).toInt) ((xs (i + 2)).toInt))) (by skip; unfold lwz; first | rfl | (simp only [ite_self, List.append_nil]; done) | (rw [List.append_nil]; rfl) | (simp only [ite_self, List.append_nil]; rfl)) ?_
  refine V_istore (q := 815) (lv' := [(0, _), (1, _), (2, _), (3, _), (4, _), (5, _), (6, _)]) dL_law_813 (by decide) rfl rfl ?_
  refine V_aload_n (q := 816) dL_law_815 2 rfl rfl ?_
  refine V_callIf (q := 819) (As := []) (rest := []) (w1 := lwx o co (if cAdds S ((xs (i + 1)).toInt) ((xs (i + 2)).toInt) = 0 then vp_updL fo 0 ((iZ (addZ S ((xs (i + 1)).toInt) ((xs (i + 2)).toInt))).toInt64) else fo) a c (if cAdds S ((xs (i + 1)).toInt) ((xs (i + 2)).toInt) = 0 then S else S) (if cAdds S ((xs (i + 1)).toInt) ((xs (i + 2)).toInt) = 0 then g1 else g1)) (w2 := []) (ws' := lwz o co (if cAdds S ((xs (i + 1)).toInt) ((xs (i + 2)).toInt) = 0 then vp_updL fo 0 ((iZ (addZ S ((xs (i + 1)).toInt) ((xs (i + 2)).toInt))).toInt64) else fo) a c b d (if cAdds S ((xs (i + 1)).toInt) ((xs (i + 2)).toInt) = 0 then S else S) (if cAdds S ((xs (i + 1)).toInt) ((xs (i + 2)).toInt) = 0 then g1 else g1) g2 (cAdds S ((xs (i + 1)).toInt) ((xs (i + 2)).toInt))) dL_law_816 (c_X1_thrown (b := b) (d := d) (S := (if cAdds S ((xs (i + 1)).toInt) ((xs (i + 2)).toInt) = 0 then S else S)) (g := g2) (th := cAdds S ((xs (i + 1)).toInt) ((xs (i + 2)).toInt))) yv_X1_thrown rfl gL_law_X1_thrown rfl 0 rfl rfl rfl rfl (by decide) (by decide) ⟨hkn.1, hkn.2⟩ (by unfold lwz; rw [List.append_nil]) (by unfold lwz; rw [List.append_nil]) rfl tyz_m ?_
  have hcc := cAdds_c S ((xs (i + 1)).toInt) ((xs (i + 2)).toInt)
  have hcr : -2147483648 ≤ ((cAdds S ((xs (i + 1)).toInt) ((xs (i + 2)).toInt) : Nat) : Int) ∧ ((cAdds S ((xs (i + 1)).toInt) ((xs (i + 2)).toInt) : Nat) : Int) < 2147483648 := by omega
  refine V_iload (q := 821) dL_law_819 5 rfl rfl ?_
  refine V_icmp_eq (q := 824) (tgt := 826) dL_law_821 hcr hcr (by decide) (fun _ => ?_) (fun h => absurd rfl h)
  refine V_iload (q := 828) dL_law_826 5 rfl rfl ?_
  have KF : V RL cL_law 7 rt wsL_law room_1 (vXL s0 L xs) (tyz co c d) QL (k + 1) (n + 6) (lwz o co (if cAdds S ((xs (i + 1)).toInt) ((xs (i + 2)).toInt) = 0 then vp_updL fo 0 ((iZ (addZ S ((xs (i + 1)).toInt) ((xs (i + 2)).toInt))).toInt64) else fo) a c b d (if cAdds S ((xs (i + 1)).toInt) ((xs (i + 2)).toInt) = 0 then S else S) (if cAdds S ((xs (i + 1)).toInt) ((xs (i + 2)).toInt) = 0 then g1 else g1) g2 (cAdds S ((xs (i + 1)).toInt) ((xs (i + 2)).toInt))) 843 [(0, .ref s0), (1, .ref (a 0)), (2, .ref (b 0)), (3, .ref o), (4, .int (iZ i))] [] := by
    refine V_goto (tgt := 1306) dL_law_843 (by decide) ?_
    exact K _ _ _ _ _ ((by rw [ite_self]; exact ho)) (g_ite hg1 hg1) hg2
  refine V_if_ne (q := 831) (tgt := 843) dL_law_828 hcr (by decide) (fun _ => V_loc [0, 1, 2, 3, 4] rfl KF) (fun h => ?_)
  have h0 : cAdds S ((xs (i + 1)).toInt) ((xs (i + 2)).toInt) = 0 := by omega
  refine V_aload_n (q := 832) dL_law_831 3 rfl rfl ?_
  refine V_iconst (q := 833) dL_law_832 rfl ?_
  refine V_lald (q := 834) (v := (iZ (addZ S ((xs (i + 1)).toInt) ((xs (i + 2)).toInt))).toInt64) dL_law_833 0 0 rfl rfl 0 rfl (by decide) (by decide) (by rw [if_pos h0]; exact if_pos rfl) rfl ?_
  refine V_iload (q := 836) dL_law_834 6 rfl rfl ?_
  refine V_top (y := iZ (addZ S ((xs (i + 1)).toInt) ((xs (i + 2)).toInt))) (by rw [if_pos h0]; rw [← add_eq ho (adds_has h0)]) ?_
  refine V_i2l (q := 837) dL_law_836 rfl ?_
  refine V_lcmp (q := 838) dL_law_837 rfl ?_
  refine V_top (cmp_self _) ?_
  exact V_if_eq (q := 841) (tgt := 843) dL_law_838 (by decide) (by decide) (fun _ => V_loc [0, 1, 2, 3, 4] rfl KF) (fun h => absurd rfl h)
set_option maxRecDepth 100000 in
set_option maxHeartbeats 4000000 in
theorem law_outfitFor {rt : Option FieldType} {QL : VQ} {k n : Nat} {s0 L : Nat} {xs : Nat → Int32} {o : Nat} {co : ClassId} {fo : Nat → Int64} {a : Nat → Nat} {c : Nat → ClassId} {b : Nat → Nat} {d : Nat → ClassId} {S : St} {g1 g2 : Nat → Nat} {th : Nat} {i : Nat} (ho : Ok S) (hg1 : ∀ j, g1 j < 4096) (hg2 : ∀ j, g2 j < 4096) (hi : i + 6 ≤ L) (hL : L ≤ 3072) (hkn : k + 1 ≤ 1067 ∧ n + 6 ≤ 10898) (K : ∀ (S' : St) (g1' g2' : Nat → Nat) (th' : Nat) (fo' : Nat → Int64), Ok S' → (∀ j, g1' j < 4096) → (∀ j, g2' j < 4096) → V RL cL_law 7 rt wsL_law room_1 (vXL s0 L xs) (tyz co c d) QL (k + 1) (n + 6) (lwz o co fo' a c b d S' g1' g2' th') 1306 [(0, .ref s0), (1, .ref (a 0)), (2, .ref (b 0)), (3, .ref o), (4, .int (iZ i))] []) : V RL cL_law 7 rt wsL_law room_1 (vXL s0 L xs) (tyz co c d) QL k n (lwz o co fo a c b d S g1 g2 th) 859 [(0, .ref s0), (1, .ref (a 0)), (2, .ref (b 0)), (3, .ref o), (4, .int (iZ i))] [] := by
  refine V_aload_n (q := 860) dL_law_859 1 rfl rfl ?_
  refine V_aload_n (q := 861) dL_law_860 0 rfl rfl ?_
  refine V_iload (q := 863) dL_law_861 4 rfl rfl ?_
  refine V_iconst (q := 864) dL_law_863 rfl ?_
  refine V_iadd (q := 865) dL_law_864 rfl ?_
  refine V_sld dL_law_865 (i + 1) (by omega) (by omega) (by omega) (show 865 + 1 = 866 from rfl) ?_
  refine V_top (iZ_self _).symm ?_
  refine V_aload_n (q := 867) dL_law_866 0 rfl rfl ?_
  refine V_iload (q := 869) dL_law_867 4 rfl rfl ?_
  refine V_iconst (q := 870) dL_law_869 rfl ?_
  refine V_iadd (q := 871) dL_law_870 rfl ?_
  refine V_sld dL_law_871 (i + 2) (by omega) (by omega) (by omega) (show 871 + 1 = 872 from rfl) ?_
  refine V_top (iZ_self _).symm ?_
  refine V_aload_n (q := 873) dL_law_872 3 rfl rfl ?_
  refine V_callWs (q := 876) (As := [.ref (a 0), .int (iZ (xs (i + 1)).toInt), .int (iZ (xs (i + 2)).toInt), .ref o]) (rest := []) (w1 := []) (w2 := mkc b d S g2 th) (w' := lwx o co (if cFor ((xs (i + 1)).toInt) ((xs (i + 2)).toInt) = 0 then vp_updL fo 0 ((iZ ((ofT S ((xs (i + 1)).toInt) (((xs (i + 2)).toInt)).toNat (sN S)).1)).toInt64) else fo) a c (if cFor ((xs (i + 1)).toInt) ((xs (i + 2)).toInt) = 0 then S else S) (if cFor ((xs (i + 1)).toInt) ((xs (i + 2)).toInt) = 0 then g1 else g1)) (ws' := lwx o co (if cFor ((xs (i + 1)).toInt) ((xs (i + 2)).toInt) = 0 then vp_updL fo 0 ((iZ ((ofT S ((xs (i + 1)).toInt) (((xs (i + 2)).toInt)).toNat (sN S)).1)).toInt64) else fo) a c (if cFor ((xs (i + 1)).toInt) ((xs (i + 2)).toInt) = 0 then S else S) (if cFor ((xs (i + 1)).toInt) ((xs (i + 2)).toInt) = 0 then g1 else g1) ++ mkc b d S g2 th) dL_law_873 (w_outfitFor (a := a) (c := c) (g := g1) (o := o) (co := co) (fo := fo) ho ((xs (i + 1)).toInt) ((xs (i + 2)).toInt) (x_toInt _) (x_toInt _)) yw_outfitFor rfl gL_law_L_outfitFor rfl (by decide) (by decide) hkn rfl rfl rfl tyz_x ?_
  refine V_istore (q := 878) (lv' := [(0, _), (1, _), (2, _), (3, _), (4, _), (5, _)]) dL_law_876 (by decide) rfl rfl ?_
  refine V_aload_n (q := 879) dL_law_878 2 rfl rfl ?_
  refine V_aload_n (q := 880) dL_law_879 0 rfl rfl ?_
  refine V_iload (q := 882) dL_law_880 4 rfl rfl ?_
  refine V_iconst (q := 883) dL_law_882 rfl ?_
  refine V_iadd (q := 884) dL_law_883 rfl ?_
  refine V_sld dL_law_884 (i + 1) (by omega) (by omega) (by omega) (show 884 + 1 = 885 from rfl) ?_
  refine V_top (iZ_self _).symm ?_
  refine V_aload_n (q := 886) dL_law_885 0 rfl rfl ?_
  refine V_iload (q := 888) dL_law_886 4 rfl rfl ?_
  refine V_iconst (q := 889) dL_law_888 rfl ?_
  refine V_iadd (q := 890) dL_law_889 rfl ?_
  refine V_sld dL_law_890 (i + 2) (by omega) (by omega) (by omega) (show 890 + 1 = 891 from rfl) ?_
  refine V_top (iZ_self _).symm ?_
  refine V_callIf (q := 894) (As := [.int (iZ (xs (i + 1)).toInt), .int (iZ (xs (i + 2)).toInt)]) (rest := []) (w1 := lwx o co (if cFor ((xs (i + 1)).toInt) ((xs (i + 2)).toInt) = 0 then vp_updL fo 0 ((iZ ((ofT S ((xs (i + 1)).toInt) (((xs (i + 2)).toInt)).toNat (sN S)).1)).toInt64) else fo) a c (if cFor ((xs (i + 1)).toInt) ((xs (i + 2)).toInt) = 0 then S else S) (if cFor ((xs (i + 1)).toInt) ((xs (i + 2)).toInt) = 0 then g1 else g1)) (w2 := []) (ws' := lwx o co (if cFor ((xs (i + 1)).toInt) ((xs (i + 2)).toInt) = 0 then vp_updL fo 0 ((iZ ((ofT S ((xs (i + 1)).toInt) (((xs (i + 2)).toInt)).toNat (sN S)).1)).toInt64) else fo) a c (if cFor ((xs (i + 1)).toInt) ((xs (i + 2)).toInt) = 0 then S else S) (if cFor ((xs (i + 1)).toInt) ((xs (i + 2)).toInt) = 0 then g1 else g1) ++ (mkc b d _ _ _ ++ [])) dL_law_891 (c_X1_outfitFor (b := b) (d := d) (g := g2) (th := th) ho ((xs (i + 1)).toInt) ((xs (i + 2)).toInt) (x_toInt _) (x_toInt _)) yv_X1_outfitFor rfl gL_law_X1_outfitFor rfl 0 rfl rfl rfl rfl (by decide) (by decide) ⟨hkn.1, hkn.2⟩ (by rw [List.append_nil]) rfl rfl tyz_m ?_
  refine V_wz (ws' := lwz o co (if cFor ((xs (i + 1)).toInt) ((xs (i + 2)).toInt) = 0 then vp_updL fo 0 ((iZ ((ofT S ((xs (i + 1)).toInt) (((xs (i + 2)).toInt)).toNat (sN S)).1)).toInt64) else fo) a c b d (if cFor ((xs (i + 1)).toInt) ((xs (i + 2)).toInt) = 0 then S else S) (if cFor ((xs (i + 1)).toInt) ((xs (i + 2)).toInt) = 0 then g1 else g1) g2 (cFor ((xs (i + 1)).toInt) ((xs (i + 2)).toInt))) (by skip; unfold lwz; first | rfl | (simp only [ite_self, List.append_nil]; done) | (rw [List.append_nil]; rfl) | (simp only [ite_self, List.append_nil]; rfl)) ?_
  refine V_istore (q := 896) (lv' := [(0, _), (1, _), (2, _), (3, _), (4, _), (5, _), (6, _)]) dL_law_894 (by decide) rfl rfl ?_
  refine V_aload_n (q := 897) dL_law_896 2 rfl rfl ?_
  refine V_callIf (q := 900) (As := []) (rest := []) (w1 := lwx o co (if cFor ((xs (i + 1)).toInt) ((xs (i + 2)).toInt) = 0 then vp_updL fo 0 ((iZ ((ofT S ((xs (i + 1)).toInt) (((xs (i + 2)).toInt)).toNat (sN S)).1)).toInt64) else fo) a c (if cFor ((xs (i + 1)).toInt) ((xs (i + 2)).toInt) = 0 then S else S) (if cFor ((xs (i + 1)).toInt) ((xs (i + 2)).toInt) = 0 then g1 else g1)) (w2 := []) (ws' := lwz o co (if cFor ((xs (i + 1)).toInt) ((xs (i + 2)).toInt) = 0 then vp_updL fo 0 ((iZ ((ofT S ((xs (i + 1)).toInt) (((xs (i + 2)).toInt)).toNat (sN S)).1)).toInt64) else fo) a c b d (if cFor ((xs (i + 1)).toInt) ((xs (i + 2)).toInt) = 0 then S else S) (if cFor ((xs (i + 1)).toInt) ((xs (i + 2)).toInt) = 0 then g1 else g1) g2 (cFor ((xs (i + 1)).toInt) ((xs (i + 2)).toInt))) dL_law_897 (c_X1_thrown (b := b) (d := d) (S := (if cFor ((xs (i + 1)).toInt) ((xs (i + 2)).toInt) = 0 then S else S)) (g := g2) (th := cFor ((xs (i + 1)).toInt) ((xs (i + 2)).toInt))) yv_X1_thrown rfl gL_law_X1_thrown rfl 0 rfl rfl rfl rfl (by decide) (by decide) ⟨hkn.1, hkn.2⟩ (by unfold lwz; rw [List.append_nil]) (by unfold lwz; rw [List.append_nil]) rfl tyz_m ?_
  have hcc := cFor_c ((xs (i + 1)).toInt) ((xs (i + 2)).toInt)
  have hcr : -2147483648 ≤ ((cFor ((xs (i + 1)).toInt) ((xs (i + 2)).toInt) : Nat) : Int) ∧ ((cFor ((xs (i + 1)).toInt) ((xs (i + 2)).toInt) : Nat) : Int) < 2147483648 := by omega
  refine V_iload (q := 902) dL_law_900 5 rfl rfl ?_
  refine V_icmp_eq (q := 905) (tgt := 907) dL_law_902 hcr hcr (by decide) (fun _ => ?_) (fun h => absurd rfl h)
  refine V_iload (q := 909) dL_law_907 5 rfl rfl ?_
  have KF : V RL cL_law 7 rt wsL_law room_1 (vXL s0 L xs) (tyz co c d) QL (k + 1) (n + 6) (lwz o co (if cFor ((xs (i + 1)).toInt) ((xs (i + 2)).toInt) = 0 then vp_updL fo 0 ((iZ ((ofT S ((xs (i + 1)).toInt) (((xs (i + 2)).toInt)).toNat (sN S)).1)).toInt64) else fo) a c b d (if cFor ((xs (i + 1)).toInt) ((xs (i + 2)).toInt) = 0 then S else S) (if cFor ((xs (i + 1)).toInt) ((xs (i + 2)).toInt) = 0 then g1 else g1) g2 (cFor ((xs (i + 1)).toInt) ((xs (i + 2)).toInt))) 924 [(0, .ref s0), (1, .ref (a 0)), (2, .ref (b 0)), (3, .ref o), (4, .int (iZ i))] [] := by
    refine V_goto (tgt := 1306) dL_law_924 (by decide) ?_
    exact K _ _ _ _ _ ((by rw [ite_self]; exact ho)) (g_ite hg1 hg1) hg2
  refine V_if_ne (q := 912) (tgt := 924) dL_law_909 hcr (by decide) (fun _ => V_loc [0, 1, 2, 3, 4] rfl KF) (fun h => ?_)
  have h0 : cFor ((xs (i + 1)).toInt) ((xs (i + 2)).toInt) = 0 := by omega
  refine V_aload_n (q := 913) dL_law_912 3 rfl rfl ?_
  refine V_iconst (q := 914) dL_law_913 rfl ?_
  refine V_lald (q := 915) (v := (iZ ((ofT S ((xs (i + 1)).toInt) (((xs (i + 2)).toInt)).toNat (sN S)).1)).toInt64) dL_law_914 0 0 rfl rfl 0 rfl (by decide) (by decide) (by rw [if_pos h0]; exact if_pos rfl) rfl ?_
  refine V_iload (q := 917) dL_law_915 6 rfl rfl ?_
  refine V_top (y := iZ ((ofT S ((xs (i + 1)).toInt) (((xs (i + 2)).toInt)).toNat (sN S)).1)) (by rw [if_pos h0]; rw [← for_eq ho]) ?_
  refine V_i2l (q := 918) dL_law_917 rfl ?_
  refine V_lcmp (q := 919) dL_law_918 rfl ?_
  refine V_top (cmp_self _) ?_
  exact V_if_eq (q := 922) (tgt := 924) dL_law_919 (by decide) (by decide) (fun _ => V_loc [0, 1, 2, 3, 4] rfl KF) (fun h => absurd rfl h)
set_option maxRecDepth 100000 in
set_option maxHeartbeats 4000000 in
theorem law_load {rt : Option FieldType} {QL : VQ} {k n : Nat} {s0 L : Nat} {xs : Nat → Int32} {o : Nat} {co : ClassId} {fo : Nat → Int64} {a : Nat → Nat} {c : Nat → ClassId} {b : Nat → Nat} {d : Nat → ClassId} {S : St} {g1 g2 : Nat → Nat} {th : Nat} {i : Nat} (ho : Ok S) (hg1 : ∀ j, g1 j < 4096) (hg2 : ∀ j, g2 j < 4096) (hi : i + 6 ≤ L) (hL : L ≤ 3072) (hkn : k + 1 ≤ 1067 ∧ n + 6 ≤ 10898) (K : ∀ (S' : St) (g1' g2' : Nat → Nat) (th' : Nat) (fo' : Nat → Int64), Ok S' → (∀ j, g1' j < 4096) → (∀ j, g2' j < 4096) → V RL cL_law 7 rt wsL_law room_1 (vXL s0 L xs) (tyz co c d) QL (k + 1) (n + 6) (lwz o co fo' a c b d S' g1' g2' th') 1306 [(0, .ref s0), (1, .ref (a 0)), (2, .ref (b 0)), (3, .ref o), (4, .int (iZ i))] []) : V RL cL_law 7 rt wsL_law room_1 (vXL s0 L xs) (tyz co c d) QL k n (lwz o co fo a c b d S g1 g2 th) 927 [(0, .ref s0), (1, .ref (a 0)), (2, .ref (b 0)), (3, .ref o), (4, .int (iZ i))] [] := by
  refine V_aload_n (q := 928) dL_law_927 1 rfl rfl ?_
  refine V_aload_n (q := 929) dL_law_928 0 rfl rfl ?_
  refine V_iload (q := 931) dL_law_929 4 rfl rfl ?_
  refine V_iconst (q := 932) dL_law_931 rfl ?_
  refine V_iadd (q := 933) dL_law_932 rfl ?_
  refine V_sld dL_law_933 (i + 1) (by omega) (by omega) (by omega) (show 933 + 1 = 934 from rfl) ?_
  refine V_top (iZ_self _).symm ?_
  refine V_cut (M := 948) (iZ (bZ (decide (¬ (xs (i + 2)).toInt = 0)))) ?_ (fun k948 => ?_)
  rotate_left
  · skip
    refine V_aload_n (q := 935) dL_law_934 0 rfl rfl ?_
    refine V_iload (q := 937) dL_law_935 4 rfl rfl ?_
    refine V_iconst (q := 938) dL_law_937 rfl ?_
    refine V_iadd (q := 939) dL_law_938 rfl ?_
    refine V_sld dL_law_939 (i + 2) (by omega) (by omega) (by omega) (show 939 + 1 = 940 from rfl) ?_
    refine V_top (iZ_self _).symm ?_
    refine V_if_eq (q := 943) (tgt := 947) dL_law_940 (x_toInt _) (by decide) (fun h => ?_) (fun h => ?_)
    · skip
      refine V_iconst (q := 948) dL_law_947 rfl ?_
      exact k948 _ (bZ_f (decide_eq_false (fun q => q h)))
    · skip
      refine V_iconst (q := 944) dL_law_943 rfl ?_
      refine V_goto (tgt := 948) dL_law_944 (by decide) ?_
      exact k948 _ (bZ_t (decide_eq_true h))
  refine V_aload_n (q := 949) dL_law_948 3 rfl rfl ?_
  refine V_callWs (q := 952) (As := [.ref (a 0), .int (iZ (xs (i + 1)).toInt), .int (iZ (bZ (decide (¬ (xs (i + 2)).toInt = 0)))), .ref o]) (rest := []) (w1 := []) (w2 := mkc b d S g2 th) (w' := lwx o co (if cCare ((xs (i + 1)).toInt) = 0 then vp_updL fo 0 ((iZ ((cnt (ldP S ((xs (i + 1)).toInt) (decide (¬ (xs (i + 2)).toInt = 0))) (sN S) : Nat))).toInt64) else fo) a c (if cCare ((xs (i + 1)).toInt) = 0 then S else S) (if cCare ((xs (i + 1)).toInt) = 0 then g1 else g1)) (ws' := lwx o co (if cCare ((xs (i + 1)).toInt) = 0 then vp_updL fo 0 ((iZ ((cnt (ldP S ((xs (i + 1)).toInt) (decide (¬ (xs (i + 2)).toInt = 0))) (sN S) : Nat))).toInt64) else fo) a c (if cCare ((xs (i + 1)).toInt) = 0 then S else S) (if cCare ((xs (i + 1)).toInt) = 0 then g1 else g1) ++ mkc b d S g2 th) dL_law_949 (w_load (a := a) (c := c) (g := g1) (o := o) (co := co) (fo := fo) ho ((xs (i + 1)).toInt) (decide (¬ (xs (i + 2)).toInt = 0)) (x_toInt _)) yw_load rfl gL_law_L_load rfl (by decide) (by decide) hkn rfl rfl rfl tyz_x ?_
  refine V_istore (q := 954) (lv' := [(0, _), (1, _), (2, _), (3, _), (4, _), (5, _)]) dL_law_952 (by decide) rfl rfl ?_
  refine V_aload_n (q := 955) dL_law_954 2 rfl rfl ?_
  refine V_aload_n (q := 956) dL_law_955 0 rfl rfl ?_
  refine V_iload (q := 958) dL_law_956 4 rfl rfl ?_
  refine V_iconst (q := 959) dL_law_958 rfl ?_
  refine V_iadd (q := 960) dL_law_959 rfl ?_
  refine V_sld dL_law_960 (i + 1) (by omega) (by omega) (by omega) (show 960 + 1 = 961 from rfl) ?_
  refine V_top (iZ_self _).symm ?_
  refine V_cut (M := 975) (iZ (bZ (decide (¬ (xs (i + 2)).toInt = 0)))) ?_ (fun k975 => ?_)
  rotate_left
  · skip
    refine V_aload_n (q := 962) dL_law_961 0 rfl rfl ?_
    refine V_iload (q := 964) dL_law_962 4 rfl rfl ?_
    refine V_iconst (q := 965) dL_law_964 rfl ?_
    refine V_iadd (q := 966) dL_law_965 rfl ?_
    refine V_sld dL_law_966 (i + 2) (by omega) (by omega) (by omega) (show 966 + 1 = 967 from rfl) ?_
    refine V_top (iZ_self _).symm ?_
    refine V_if_eq (q := 970) (tgt := 974) dL_law_967 (x_toInt _) (by decide) (fun h => ?_) (fun h => ?_)
    · skip
      refine V_iconst (q := 975) dL_law_974 rfl ?_
      exact k975 _ (bZ_f (decide_eq_false (fun q => q h)))
    · skip
      refine V_iconst (q := 971) dL_law_970 rfl ?_
      refine V_goto (tgt := 975) dL_law_971 (by decide) ?_
      exact k975 _ (bZ_t (decide_eq_true h))
  refine V_callIf (q := 978) (As := [.int (iZ (xs (i + 1)).toInt), .int (iZ (bZ (decide (¬ (xs (i + 2)).toInt = 0))))]) (rest := []) (w1 := lwx o co (if cCare ((xs (i + 1)).toInt) = 0 then vp_updL fo 0 ((iZ ((cnt (ldP S ((xs (i + 1)).toInt) (decide (¬ (xs (i + 2)).toInt = 0))) (sN S) : Nat))).toInt64) else fo) a c (if cCare ((xs (i + 1)).toInt) = 0 then S else S) (if cCare ((xs (i + 1)).toInt) = 0 then g1 else g1)) (w2 := []) (ws' := lwx o co (if cCare ((xs (i + 1)).toInt) = 0 then vp_updL fo 0 ((iZ ((cnt (ldP S ((xs (i + 1)).toInt) (decide (¬ (xs (i + 2)).toInt = 0))) (sN S) : Nat))).toInt64) else fo) a c (if cCare ((xs (i + 1)).toInt) = 0 then S else S) (if cCare ((xs (i + 1)).toInt) = 0 then g1 else g1) ++ (mkc b d _ _ _ ++ [])) dL_law_975 (c_X1_load (b := b) (d := d) (g := g2) (th := th) ho ((xs (i + 1)).toInt) (decide (¬ (xs (i + 2)).toInt = 0)) (x_toInt _)) yv_X1_load rfl gL_law_X1_load rfl 0 rfl rfl rfl rfl (by decide) (by decide) ⟨hkn.1, hkn.2⟩ (by rw [List.append_nil]) rfl rfl tyz_m ?_
  refine V_wz (ws' := lwz o co (if cCare ((xs (i + 1)).toInt) = 0 then vp_updL fo 0 ((iZ ((cnt (ldP S ((xs (i + 1)).toInt) (decide (¬ (xs (i + 2)).toInt = 0))) (sN S) : Nat))).toInt64) else fo) a c b d (if cCare ((xs (i + 1)).toInt) = 0 then S else S) (if cCare ((xs (i + 1)).toInt) = 0 then g1 else g1) g2 (cCare ((xs (i + 1)).toInt))) (by skip; unfold lwz; first | rfl | (simp only [ite_self, List.append_nil]; done) | (rw [List.append_nil]; rfl) | (simp only [ite_self, List.append_nil]; rfl)) ?_
  refine V_istore (q := 980) (lv' := [(0, _), (1, _), (2, _), (3, _), (4, _), (5, _), (6, _)]) dL_law_978 (by decide) rfl rfl ?_
  refine V_aload_n (q := 981) dL_law_980 2 rfl rfl ?_
  refine V_callIf (q := 984) (As := []) (rest := []) (w1 := lwx o co (if cCare ((xs (i + 1)).toInt) = 0 then vp_updL fo 0 ((iZ ((cnt (ldP S ((xs (i + 1)).toInt) (decide (¬ (xs (i + 2)).toInt = 0))) (sN S) : Nat))).toInt64) else fo) a c (if cCare ((xs (i + 1)).toInt) = 0 then S else S) (if cCare ((xs (i + 1)).toInt) = 0 then g1 else g1)) (w2 := []) (ws' := lwz o co (if cCare ((xs (i + 1)).toInt) = 0 then vp_updL fo 0 ((iZ ((cnt (ldP S ((xs (i + 1)).toInt) (decide (¬ (xs (i + 2)).toInt = 0))) (sN S) : Nat))).toInt64) else fo) a c b d (if cCare ((xs (i + 1)).toInt) = 0 then S else S) (if cCare ((xs (i + 1)).toInt) = 0 then g1 else g1) g2 (cCare ((xs (i + 1)).toInt))) dL_law_981 (c_X1_thrown (b := b) (d := d) (S := (if cCare ((xs (i + 1)).toInt) = 0 then S else S)) (g := g2) (th := cCare ((xs (i + 1)).toInt))) yv_X1_thrown rfl gL_law_X1_thrown rfl 0 rfl rfl rfl rfl (by decide) (by decide) ⟨hkn.1, hkn.2⟩ (by unfold lwz; rw [List.append_nil]) (by unfold lwz; rw [List.append_nil]) rfl tyz_m ?_
  have hcc := cCare_c ((xs (i + 1)).toInt)
  have hcr : -2147483648 ≤ ((cCare ((xs (i + 1)).toInt) : Nat) : Int) ∧ ((cCare ((xs (i + 1)).toInt) : Nat) : Int) < 2147483648 := by omega
  refine V_iload (q := 986) dL_law_984 5 rfl rfl ?_
  refine V_icmp_eq (q := 989) (tgt := 991) dL_law_986 hcr hcr (by decide) (fun _ => ?_) (fun h => absurd rfl h)
  refine V_iload (q := 993) dL_law_991 5 rfl rfl ?_
  have KF : V RL cL_law 7 rt wsL_law room_1 (vXL s0 L xs) (tyz co c d) QL (k + 1) (n + 6) (lwz o co (if cCare ((xs (i + 1)).toInt) = 0 then vp_updL fo 0 ((iZ ((cnt (ldP S ((xs (i + 1)).toInt) (decide (¬ (xs (i + 2)).toInt = 0))) (sN S) : Nat))).toInt64) else fo) a c b d (if cCare ((xs (i + 1)).toInt) = 0 then S else S) (if cCare ((xs (i + 1)).toInt) = 0 then g1 else g1) g2 (cCare ((xs (i + 1)).toInt))) 1008 [(0, .ref s0), (1, .ref (a 0)), (2, .ref (b 0)), (3, .ref o), (4, .int (iZ i))] [] := by
    refine V_goto (tgt := 1306) dL_law_1008 (by decide) ?_
    exact K _ _ _ _ _ ((by rw [ite_self]; exact ho)) (g_ite hg1 hg1) hg2
  refine V_if_ne (q := 996) (tgt := 1008) dL_law_993 hcr (by decide) (fun _ => V_loc [0, 1, 2, 3, 4] rfl KF) (fun h => ?_)
  have h0 : cCare ((xs (i + 1)).toInt) = 0 := by omega
  refine V_aload_n (q := 997) dL_law_996 3 rfl rfl ?_
  refine V_iconst (q := 998) dL_law_997 rfl ?_
  refine V_lald (q := 999) (v := (iZ ((cnt (ldP S ((xs (i + 1)).toInt) (decide (¬ (xs (i + 2)).toInt = 0))) (sN S) : Nat))).toInt64) dL_law_998 0 0 rfl rfl 0 rfl (by decide) (by decide) (by rw [if_pos h0]; exact if_pos rfl) rfl ?_
  refine V_iload (q := 1001) dL_law_999 6 rfl rfl ?_
  refine V_top (y := iZ ((cnt (ldP S ((xs (i + 1)).toInt) (decide (¬ (xs (i + 2)).toInt = 0))) (sN S) : Nat))) (by rw [if_pos h0]) ?_
  refine V_i2l (q := 1002) dL_law_1001 rfl ?_
  refine V_lcmp (q := 1003) dL_law_1002 rfl ?_
  refine V_top (cmp_self _) ?_
  exact V_if_eq (q := 1006) (tgt := 1008) dL_law_1003 (by decide) (by decide) (fun _ => V_loc [0, 1, 2, 3, 4] rfl KF) (fun h => absurd rfl h)
set_option maxRecDepth 100000 in
set_option maxHeartbeats 4000000 in
theorem law_wash {rt : Option FieldType} {QL : VQ} {k n : Nat} {s0 L : Nat} {xs : Nat → Int32} {o : Nat} {co : ClassId} {fo : Nat → Int64} {a : Nat → Nat} {c : Nat → ClassId} {b : Nat → Nat} {d : Nat → ClassId} {S : St} {g1 g2 : Nat → Nat} {th : Nat} {i : Nat} (ho : Ok S) (hg1 : ∀ j, g1 j < 4096) (hg2 : ∀ j, g2 j < 4096) (hi : i + 6 ≤ L) (hL : L ≤ 3072) (hkn : k + 1 ≤ 1067 ∧ n + 6 ≤ 10898) (K : ∀ (S' : St) (g1' g2' : Nat → Nat) (th' : Nat) (fo' : Nat → Int64), Ok S' → (∀ j, g1' j < 4096) → (∀ j, g2' j < 4096) → V RL cL_law 7 rt wsL_law room_1 (vXL s0 L xs) (tyz co c d) QL (k + 1) (n + 6) (lwz o co fo' a c b d S' g1' g2' th') 1306 [(0, .ref s0), (1, .ref (a 0)), (2, .ref (b 0)), (3, .ref o), (4, .int (iZ i))] []) : V RL cL_law 7 rt wsL_law room_1 (vXL s0 L xs) (tyz co c d) QL k n (lwz o co fo a c b d S g1 g2 th) 1011 [(0, .ref s0), (1, .ref (a 0)), (2, .ref (b 0)), (3, .ref o), (4, .int (iZ i))] [] := by
  refine V_aload_n (q := 1012) dL_law_1011 1 rfl rfl ?_
  refine V_aload_n (q := 1013) dL_law_1012 0 rfl rfl ?_
  refine V_iload (q := 1015) dL_law_1013 4 rfl rfl ?_
  refine V_iconst (q := 1016) dL_law_1015 rfl ?_
  refine V_iadd (q := 1017) dL_law_1016 rfl ?_
  refine V_sld dL_law_1017 (i + 1) (by omega) (by omega) (by omega) (show 1017 + 1 = 1018 from rfl) ?_
  refine V_top (iZ_self _).symm ?_
  refine V_cut (M := 1032) (iZ (bZ (decide (¬ (xs (i + 2)).toInt = 0)))) ?_ (fun k1032 => ?_)
  rotate_left
  · skip
    refine V_aload_n (q := 1019) dL_law_1018 0 rfl rfl ?_
    refine V_iload (q := 1021) dL_law_1019 4 rfl rfl ?_
    refine V_iconst (q := 1022) dL_law_1021 rfl ?_
    refine V_iadd (q := 1023) dL_law_1022 rfl ?_
    refine V_sld dL_law_1023 (i + 2) (by omega) (by omega) (by omega) (show 1023 + 1 = 1024 from rfl) ?_
    refine V_top (iZ_self _).symm ?_
    refine V_if_eq (q := 1027) (tgt := 1031) dL_law_1024 (x_toInt _) (by decide) (fun h => ?_) (fun h => ?_)
    · skip
      refine V_iconst (q := 1032) dL_law_1031 rfl ?_
      exact k1032 _ (bZ_f (decide_eq_false (fun q => q h)))
    · skip
      refine V_iconst (q := 1028) dL_law_1027 rfl ?_
      refine V_goto (tgt := 1032) dL_law_1028 (by decide) ?_
      exact k1032 _ (bZ_t (decide_eq_true h))
  refine V_aload_n (q := 1033) dL_law_1032 3 rfl rfl ?_
  refine V_callWs (q := 1036) (As := [.ref (a 0), .int (iZ (xs (i + 1)).toInt), .int (iZ (bZ (decide (¬ (xs (i + 2)).toInt = 0)))), .ref o]) (rest := []) (w1 := []) (w2 := mkc b d S g2 th) (w' := lwx o co (if cCare ((xs (i + 1)).toInt) = 0 then vp_updL fo 0 ((iZ ((wst S ((xs (i + 1)).toInt) (decide (¬ (xs (i + 2)).toInt = 0)) 5).2)).toInt64) else fo) a c (if cCare ((xs (i + 1)).toInt) = 0 then (wst S ((xs (i + 1)).toInt) (decide (¬ (xs (i + 2)).toInt = 0)) 5).1 else S) (if cCare ((xs (i + 1)).toInt) = 0 then g1 else g1)) (ws' := lwx o co (if cCare ((xs (i + 1)).toInt) = 0 then vp_updL fo 0 ((iZ ((wst S ((xs (i + 1)).toInt) (decide (¬ (xs (i + 2)).toInt = 0)) 5).2)).toInt64) else fo) a c (if cCare ((xs (i + 1)).toInt) = 0 then (wst S ((xs (i + 1)).toInt) (decide (¬ (xs (i + 2)).toInt = 0)) 5).1 else S) (if cCare ((xs (i + 1)).toInt) = 0 then g1 else g1) ++ mkc b d S g2 th) dL_law_1033 (w_wash (a := a) (c := c) (g := g1) (o := o) (co := co) (fo := fo) ho ((xs (i + 1)).toInt) (decide (¬ (xs (i + 2)).toInt = 0)) (x_toInt _)) yw_wash rfl gL_law_L_wash rfl (by decide) (by decide) hkn rfl rfl rfl tyz_x ?_
  refine V_istore (q := 1038) (lv' := [(0, _), (1, _), (2, _), (3, _), (4, _), (5, _)]) dL_law_1036 (by decide) rfl rfl ?_
  refine V_aload_n (q := 1039) dL_law_1038 2 rfl rfl ?_
  refine V_aload_n (q := 1040) dL_law_1039 0 rfl rfl ?_
  refine V_iload (q := 1042) dL_law_1040 4 rfl rfl ?_
  refine V_iconst (q := 1043) dL_law_1042 rfl ?_
  refine V_iadd (q := 1044) dL_law_1043 rfl ?_
  refine V_sld dL_law_1044 (i + 1) (by omega) (by omega) (by omega) (show 1044 + 1 = 1045 from rfl) ?_
  refine V_top (iZ_self _).symm ?_
  refine V_cut (M := 1059) (iZ (bZ (decide (¬ (xs (i + 2)).toInt = 0)))) ?_ (fun k1059 => ?_)
  rotate_left
  · skip
    refine V_aload_n (q := 1046) dL_law_1045 0 rfl rfl ?_
    refine V_iload (q := 1048) dL_law_1046 4 rfl rfl ?_
    refine V_iconst (q := 1049) dL_law_1048 rfl ?_
    refine V_iadd (q := 1050) dL_law_1049 rfl ?_
    refine V_sld dL_law_1050 (i + 2) (by omega) (by omega) (by omega) (show 1050 + 1 = 1051 from rfl) ?_
    refine V_top (iZ_self _).symm ?_
    refine V_if_eq (q := 1054) (tgt := 1058) dL_law_1051 (x_toInt _) (by decide) (fun h => ?_) (fun h => ?_)
    · skip
      refine V_iconst (q := 1059) dL_law_1058 rfl ?_
      exact k1059 _ (bZ_f (decide_eq_false (fun q => q h)))
    · skip
      refine V_iconst (q := 1055) dL_law_1054 rfl ?_
      refine V_goto (tgt := 1059) dL_law_1055 (by decide) ?_
      exact k1059 _ (bZ_t (decide_eq_true h))
  refine V_callIf (q := 1062) (As := [.int (iZ (xs (i + 1)).toInt), .int (iZ (bZ (decide (¬ (xs (i + 2)).toInt = 0))))]) (rest := []) (w1 := lwx o co (if cCare ((xs (i + 1)).toInt) = 0 then vp_updL fo 0 ((iZ ((wst S ((xs (i + 1)).toInt) (decide (¬ (xs (i + 2)).toInt = 0)) 5).2)).toInt64) else fo) a c (if cCare ((xs (i + 1)).toInt) = 0 then (wst S ((xs (i + 1)).toInt) (decide (¬ (xs (i + 2)).toInt = 0)) 5).1 else S) (if cCare ((xs (i + 1)).toInt) = 0 then g1 else g1)) (w2 := []) (ws' := lwx o co (if cCare ((xs (i + 1)).toInt) = 0 then vp_updL fo 0 ((iZ ((wst S ((xs (i + 1)).toInt) (decide (¬ (xs (i + 2)).toInt = 0)) 5).2)).toInt64) else fo) a c (if cCare ((xs (i + 1)).toInt) = 0 then (wst S ((xs (i + 1)).toInt) (decide (¬ (xs (i + 2)).toInt = 0)) 5).1 else S) (if cCare ((xs (i + 1)).toInt) = 0 then g1 else g1) ++ (mkc b d _ _ _ ++ [])) dL_law_1059 (c_X1_wash (b := b) (d := d) (g := g2) (th := th) ho ((xs (i + 1)).toInt) (decide (¬ (xs (i + 2)).toInt = 0)) (x_toInt _)) yv_X1_wash rfl gL_law_X1_wash rfl 0 rfl rfl rfl rfl (by decide) (by decide) ⟨hkn.1, hkn.2⟩ (by rw [List.append_nil]) rfl rfl tyz_m ?_
  refine V_wz (ws' := lwz o co (if cCare ((xs (i + 1)).toInt) = 0 then vp_updL fo 0 ((iZ ((wst S ((xs (i + 1)).toInt) (decide (¬ (xs (i + 2)).toInt = 0)) 5).2)).toInt64) else fo) a c b d (if cCare ((xs (i + 1)).toInt) = 0 then (wst S ((xs (i + 1)).toInt) (decide (¬ (xs (i + 2)).toInt = 0)) 5).1 else S) (if cCare ((xs (i + 1)).toInt) = 0 then g1 else g1) g2 (cCare ((xs (i + 1)).toInt))) (by rw [← load_eq ho]; unfold lwz; first | rfl | (simp only [ite_self, List.append_nil]; done) | (rw [List.append_nil]; rfl) | (simp only [ite_self, List.append_nil]; rfl)) ?_
  refine V_istore (q := 1064) (lv' := [(0, _), (1, _), (2, _), (3, _), (4, _), (5, _), (6, _)]) dL_law_1062 (by decide) rfl rfl ?_
  refine V_aload_n (q := 1065) dL_law_1064 2 rfl rfl ?_
  refine V_callIf (q := 1068) (As := []) (rest := []) (w1 := lwx o co (if cCare ((xs (i + 1)).toInt) = 0 then vp_updL fo 0 ((iZ ((wst S ((xs (i + 1)).toInt) (decide (¬ (xs (i + 2)).toInt = 0)) 5).2)).toInt64) else fo) a c (if cCare ((xs (i + 1)).toInt) = 0 then (wst S ((xs (i + 1)).toInt) (decide (¬ (xs (i + 2)).toInt = 0)) 5).1 else S) (if cCare ((xs (i + 1)).toInt) = 0 then g1 else g1)) (w2 := []) (ws' := lwz o co (if cCare ((xs (i + 1)).toInt) = 0 then vp_updL fo 0 ((iZ ((wst S ((xs (i + 1)).toInt) (decide (¬ (xs (i + 2)).toInt = 0)) 5).2)).toInt64) else fo) a c b d (if cCare ((xs (i + 1)).toInt) = 0 then (wst S ((xs (i + 1)).toInt) (decide (¬ (xs (i + 2)).toInt = 0)) 5).1 else S) (if cCare ((xs (i + 1)).toInt) = 0 then g1 else g1) g2 (cCare ((xs (i + 1)).toInt))) dL_law_1065 (c_X1_thrown (b := b) (d := d) (S := (if cCare ((xs (i + 1)).toInt) = 0 then (wst S ((xs (i + 1)).toInt) (decide (¬ (xs (i + 2)).toInt = 0)) 5).1 else S)) (g := g2) (th := cCare ((xs (i + 1)).toInt))) yv_X1_thrown rfl gL_law_X1_thrown rfl 0 rfl rfl rfl rfl (by decide) (by decide) ⟨hkn.1, hkn.2⟩ (by unfold lwz; rw [List.append_nil]) (by unfold lwz; rw [List.append_nil]) rfl tyz_m ?_
  have hcc := cCare_c ((xs (i + 1)).toInt)
  have hcr : -2147483648 ≤ ((cCare ((xs (i + 1)).toInt) : Nat) : Int) ∧ ((cCare ((xs (i + 1)).toInt) : Nat) : Int) < 2147483648 := by omega
  refine V_iload (q := 1070) dL_law_1068 5 rfl rfl ?_
  refine V_icmp_eq (q := 1073) (tgt := 1075) dL_law_1070 hcr hcr (by decide) (fun _ => ?_) (fun h => absurd rfl h)
  refine V_iload (q := 1077) dL_law_1075 5 rfl rfl ?_
  have KF : V RL cL_law 7 rt wsL_law room_1 (vXL s0 L xs) (tyz co c d) QL (k + 1) (n + 6) (lwz o co (if cCare ((xs (i + 1)).toInt) = 0 then vp_updL fo 0 ((iZ ((wst S ((xs (i + 1)).toInt) (decide (¬ (xs (i + 2)).toInt = 0)) 5).2)).toInt64) else fo) a c b d (if cCare ((xs (i + 1)).toInt) = 0 then (wst S ((xs (i + 1)).toInt) (decide (¬ (xs (i + 2)).toInt = 0)) 5).1 else S) (if cCare ((xs (i + 1)).toInt) = 0 then g1 else g1) g2 (cCare ((xs (i + 1)).toInt))) 1092 [(0, .ref s0), (1, .ref (a 0)), (2, .ref (b 0)), (3, .ref o), (4, .int (iZ i))] [] := by
    refine V_goto (tgt := 1306) dL_law_1092 (by decide) ?_
    exact K _ _ _ _ _ (ok_ite ho (fun _ => (wst_ok ho _ _ 5).1)) (g_ite hg1 hg1) hg2
  refine V_if_ne (q := 1080) (tgt := 1092) dL_law_1077 hcr (by decide) (fun _ => V_loc [0, 1, 2, 3, 4] rfl KF) (fun h => ?_)
  have h0 : cCare ((xs (i + 1)).toInt) = 0 := by omega
  refine V_aload_n (q := 1081) dL_law_1080 3 rfl rfl ?_
  refine V_iconst (q := 1082) dL_law_1081 rfl ?_
  refine V_lald (q := 1083) (v := (iZ ((wst S ((xs (i + 1)).toInt) (decide (¬ (xs (i + 2)).toInt = 0)) 5).2)).toInt64) dL_law_1082 0 0 rfl rfl 0 rfl (by decide) (by decide) (by rw [if_pos h0]; exact if_pos rfl) rfl ?_
  refine V_iload (q := 1085) dL_law_1083 6 rfl rfl ?_
  refine V_top (y := iZ ((wst S ((xs (i + 1)).toInt) (decide (¬ (xs (i + 2)).toInt = 0)) 5).2)) (by rw [if_pos h0]; rw [← load_eq ho]) ?_
  refine V_i2l (q := 1086) dL_law_1085 rfl ?_
  refine V_lcmp (q := 1087) dL_law_1086 rfl ?_
  refine V_top (cmp_self _) ?_
  exact V_if_eq (q := 1090) (tgt := 1092) dL_law_1087 (by decide) (by decide) (fun _ => V_loc [0, 1, 2, 3, 4] rfl KF) (fun h => absurd rfl h)
set_option maxRecDepth 100000 in
set_option maxHeartbeats 4000000 in
theorem law_pass {rt : Option FieldType} {QL : VQ} {k n : Nat} {s0 L : Nat} {xs : Nat → Int32} {o : Nat} {co : ClassId} {fo : Nat → Int64} {a : Nat → Nat} {c : Nat → ClassId} {b : Nat → Nat} {d : Nat → ClassId} {S : St} {g1 g2 : Nat → Nat} {th : Nat} {i : Nat} (ho : Ok S) (hg1 : ∀ j, g1 j < 4096) (hg2 : ∀ j, g2 j < 4096) (hi : i + 6 ≤ L) (hL : L ≤ 3072) (hkn : k + 1 ≤ 1067 ∧ n + 6 ≤ 10898) (K : ∀ (S' : St) (g1' g2' : Nat → Nat) (th' : Nat) (fo' : Nat → Int64), Ok S' → (∀ j, g1' j < 4096) → (∀ j, g2' j < 4096) → V RL cL_law 7 rt wsL_law room_1 (vXL s0 L xs) (tyz co c d) QL (k + 1) (n + 6) (lwz o co fo' a c b d S' g1' g2' th') 1306 [(0, .ref s0), (1, .ref (a 0)), (2, .ref (b 0)), (3, .ref o), (4, .int (iZ i))] []) : V RL cL_law 7 rt wsL_law room_1 (vXL s0 L xs) (tyz co c d) QL k n (lwz o co fo a c b d S g1 g2 th) 1095 [(0, .ref s0), (1, .ref (a 0)), (2, .ref (b 0)), (3, .ref o), (4, .int (iZ i))] [] := by
  refine V_aload_n (q := 1096) dL_law_1095 1 rfl rfl ?_
  refine V_aload_n (q := 1097) dL_law_1096 0 rfl rfl ?_
  refine V_iload (q := 1099) dL_law_1097 4 rfl rfl ?_
  refine V_iconst (q := 1100) dL_law_1099 rfl ?_
  refine V_iadd (q := 1101) dL_law_1100 rfl ?_
  refine V_sld dL_law_1101 (i + 1) (by omega) (by omega) (by omega) (show 1101 + 1 = 1102 from rfl) ?_
  refine V_top (iZ_self _).symm ?_
  refine V_aload_n (q := 1103) dL_law_1102 3 rfl rfl ?_
  refine V_callWs (q := 1106) (As := [.ref (a 0), .int (iZ (xs (i + 1)).toInt), .ref o]) (rest := []) (w1 := []) (w2 := mkc b d S g2 th) (w' := lwx o co (if cPass S ((xs (i + 1)).toInt) = 0 then vp_updL fo 0 ((iZ (((sT S + (((xs (i + 1)).toInt)).toNat : Nat) : Int))).toInt64) else fo) a c (if cPass S ((xs (i + 1)).toInt) = 0 then uT S (sT S + (((xs (i + 1)).toInt)).toNat) else S) (if cPass S ((xs (i + 1)).toInt) = 0 then g1 else g1)) (ws' := lwx o co (if cPass S ((xs (i + 1)).toInt) = 0 then vp_updL fo 0 ((iZ (((sT S + (((xs (i + 1)).toInt)).toNat : Nat) : Int))).toInt64) else fo) a c (if cPass S ((xs (i + 1)).toInt) = 0 then uT S (sT S + (((xs (i + 1)).toInt)).toNat) else S) (if cPass S ((xs (i + 1)).toInt) = 0 then g1 else g1) ++ mkc b d S g2 th) dL_law_1103 (w_pass (a := a) (c := c) (g := g1) (o := o) (co := co) (fo := fo) ho ((xs (i + 1)).toInt) (x_toInt _)) yw_pass rfl gL_law_L_pass rfl (by decide) (by decide) hkn rfl rfl rfl tyz_x ?_
  refine V_istore (q := 1108) (lv' := [(0, _), (1, _), (2, _), (3, _), (4, _), (5, _)]) dL_law_1106 (by decide) rfl rfl ?_
  refine V_aload_n (q := 1109) dL_law_1108 2 rfl rfl ?_
  refine V_aload_n (q := 1110) dL_law_1109 0 rfl rfl ?_
  refine V_iload (q := 1112) dL_law_1110 4 rfl rfl ?_
  refine V_iconst (q := 1113) dL_law_1112 rfl ?_
  refine V_iadd (q := 1114) dL_law_1113 rfl ?_
  refine V_sld dL_law_1114 (i + 1) (by omega) (by omega) (by omega) (show 1114 + 1 = 1115 from rfl) ?_
  refine V_top (iZ_self _).symm ?_
  refine V_callIf (q := 1118) (As := [.int (iZ (xs (i + 1)).toInt)]) (rest := []) (w1 := lwx o co (if cPass S ((xs (i + 1)).toInt) = 0 then vp_updL fo 0 ((iZ (((sT S + (((xs (i + 1)).toInt)).toNat : Nat) : Int))).toInt64) else fo) a c (if cPass S ((xs (i + 1)).toInt) = 0 then uT S (sT S + (((xs (i + 1)).toInt)).toNat) else S) (if cPass S ((xs (i + 1)).toInt) = 0 then g1 else g1)) (w2 := []) (ws' := lwx o co (if cPass S ((xs (i + 1)).toInt) = 0 then vp_updL fo 0 ((iZ (((sT S + (((xs (i + 1)).toInt)).toNat : Nat) : Int))).toInt64) else fo) a c (if cPass S ((xs (i + 1)).toInt) = 0 then uT S (sT S + (((xs (i + 1)).toInt)).toNat) else S) (if cPass S ((xs (i + 1)).toInt) = 0 then g1 else g1) ++ (mkc b d _ _ _ ++ [])) dL_law_1115 (c_X1_pass (b := b) (d := d) (g := g2) (th := th) ho ((xs (i + 1)).toInt) (x_toInt _)) yv_X1_pass rfl gL_law_X1_pass rfl 0 rfl rfl rfl rfl (by decide) (by decide) ⟨hkn.1, hkn.2⟩ (by rw [List.append_nil]) rfl rfl tyz_m ?_
  refine V_wz (ws' := lwz o co (if cPass S ((xs (i + 1)).toInt) = 0 then vp_updL fo 0 ((iZ (((sT S + (((xs (i + 1)).toInt)).toNat : Nat) : Int))).toInt64) else fo) a c b d (if cPass S ((xs (i + 1)).toInt) = 0 then uT S (sT S + (((xs (i + 1)).toInt)).toNat) else S) (if cPass S ((xs (i + 1)).toInt) = 0 then g1 else g1) g2 (cPass S ((xs (i + 1)).toInt))) (by skip; unfold lwz; first | rfl | (simp only [ite_self, List.append_nil]; done) | (rw [List.append_nil]; rfl) | (simp only [ite_self, List.append_nil]; rfl)) ?_
  refine V_istore (q := 1120) (lv' := [(0, _), (1, _), (2, _), (3, _), (4, _), (5, _), (6, _)]) dL_law_1118 (by decide) rfl rfl ?_
  refine V_aload_n (q := 1121) dL_law_1120 2 rfl rfl ?_
  refine V_callIf (q := 1124) (As := []) (rest := []) (w1 := lwx o co (if cPass S ((xs (i + 1)).toInt) = 0 then vp_updL fo 0 ((iZ (((sT S + (((xs (i + 1)).toInt)).toNat : Nat) : Int))).toInt64) else fo) a c (if cPass S ((xs (i + 1)).toInt) = 0 then uT S (sT S + (((xs (i + 1)).toInt)).toNat) else S) (if cPass S ((xs (i + 1)).toInt) = 0 then g1 else g1)) (w2 := []) (ws' := lwz o co (if cPass S ((xs (i + 1)).toInt) = 0 then vp_updL fo 0 ((iZ (((sT S + (((xs (i + 1)).toInt)).toNat : Nat) : Int))).toInt64) else fo) a c b d (if cPass S ((xs (i + 1)).toInt) = 0 then uT S (sT S + (((xs (i + 1)).toInt)).toNat) else S) (if cPass S ((xs (i + 1)).toInt) = 0 then g1 else g1) g2 (cPass S ((xs (i + 1)).toInt))) dL_law_1121 (c_X1_thrown (b := b) (d := d) (S := (if cPass S ((xs (i + 1)).toInt) = 0 then uT S (sT S + (((xs (i + 1)).toInt)).toNat) else S)) (g := g2) (th := cPass S ((xs (i + 1)).toInt))) yv_X1_thrown rfl gL_law_X1_thrown rfl 0 rfl rfl rfl rfl (by decide) (by decide) ⟨hkn.1, hkn.2⟩ (by unfold lwz; rw [List.append_nil]) (by unfold lwz; rw [List.append_nil]) rfl tyz_m ?_
  have hcc := cPass_c S ((xs (i + 1)).toInt)
  have hcr : -2147483648 ≤ ((cPass S ((xs (i + 1)).toInt) : Nat) : Int) ∧ ((cPass S ((xs (i + 1)).toInt) : Nat) : Int) < 2147483648 := by omega
  refine V_iload (q := 1126) dL_law_1124 5 rfl rfl ?_
  refine V_icmp_eq (q := 1129) (tgt := 1131) dL_law_1126 hcr hcr (by decide) (fun _ => ?_) (fun h => absurd rfl h)
  refine V_iload (q := 1133) dL_law_1131 5 rfl rfl ?_
  have KF : V RL cL_law 7 rt wsL_law room_1 (vXL s0 L xs) (tyz co c d) QL (k + 1) (n + 6) (lwz o co (if cPass S ((xs (i + 1)).toInt) = 0 then vp_updL fo 0 ((iZ (((sT S + (((xs (i + 1)).toInt)).toNat : Nat) : Int))).toInt64) else fo) a c b d (if cPass S ((xs (i + 1)).toInt) = 0 then uT S (sT S + (((xs (i + 1)).toInt)).toNat) else S) (if cPass S ((xs (i + 1)).toInt) = 0 then g1 else g1) g2 (cPass S ((xs (i + 1)).toInt))) 1148 [(0, .ref s0), (1, .ref (a 0)), (2, .ref (b 0)), (3, .ref o), (4, .int (iZ i))] [] := by
    refine V_goto (tgt := 1306) dL_law_1148 (by decide) ?_
    exact K _ _ _ _ _ (ok_ite ho (fun h => ok_pass ho h)) (g_ite hg1 hg1) hg2
  refine V_if_ne (q := 1136) (tgt := 1148) dL_law_1133 hcr (by decide) (fun _ => V_loc [0, 1, 2, 3, 4] rfl KF) (fun h => ?_)
  have h0 : cPass S ((xs (i + 1)).toInt) = 0 := by omega
  refine V_aload_n (q := 1137) dL_law_1136 3 rfl rfl ?_
  refine V_iconst (q := 1138) dL_law_1137 rfl ?_
  refine V_lald (q := 1139) (v := (iZ (((sT S + (((xs (i + 1)).toInt)).toNat : Nat) : Int))).toInt64) dL_law_1138 0 0 rfl rfl 0 rfl (by decide) (by decide) (by rw [if_pos h0]; exact if_pos rfl) rfl ?_
  refine V_iload (q := 1141) dL_law_1139 6 rfl rfl ?_
  refine V_top (y := iZ (((sT S + (((xs (i + 1)).toInt)).toNat : Nat) : Int))) (by rw [if_pos h0]) ?_
  refine V_i2l (q := 1142) dL_law_1141 rfl ?_
  refine V_lcmp (q := 1143) dL_law_1142 rfl ?_
  refine V_top (cmp_self _) ?_
  exact V_if_eq (q := 1146) (tgt := 1148) dL_law_1143 (by decide) (by decide) (fun _ => V_loc [0, 1, 2, 3, 4] rfl KF) (fun h => absurd rfl h)
set_option maxRecDepth 100000 in
set_option maxHeartbeats 4000000 in
theorem law_isEnough {rt : Option FieldType} {QL : VQ} {k n : Nat} {s0 L : Nat} {xs : Nat → Int32} {o : Nat} {co : ClassId} {fo : Nat → Int64} {a : Nat → Nat} {c : Nat → ClassId} {b : Nat → Nat} {d : Nat → ClassId} {S : St} {g1 g2 : Nat → Nat} {th : Nat} {i : Nat} (ho : Ok S) (hg1 : ∀ j, g1 j < 4096) (hg2 : ∀ j, g2 j < 4096) (hi : i + 6 ≤ L) (hL : L ≤ 3072) (hkn : k + 1 ≤ 1067 ∧ n + 6 ≤ 10898) (K : ∀ (S' : St) (g1' g2' : Nat → Nat) (th' : Nat) (fo' : Nat → Int64), Ok S' → (∀ j, g1' j < 4096) → (∀ j, g2' j < 4096) → V RL cL_law 7 rt wsL_law room_1 (vXL s0 L xs) (tyz co c d) QL (k + 1) (n + 6) (lwz o co fo' a c b d S' g1' g2' th') 1306 [(0, .ref s0), (1, .ref (a 0)), (2, .ref (b 0)), (3, .ref o), (4, .int (iZ i))] []) : V RL cL_law 7 rt wsL_law room_1 (vXL s0 L xs) (tyz co c d) QL k n (lwz o co fo a c b d S g1 g2 th) 1151 [(0, .ref s0), (1, .ref (a 0)), (2, .ref (b 0)), (3, .ref o), (4, .int (iZ i))] [] := by
  refine V_aload_n (q := 1152) dL_law_1151 1 rfl rfl ?_
  refine V_aload_n (q := 1153) dL_law_1152 0 rfl rfl ?_
  refine V_iload (q := 1155) dL_law_1153 4 rfl rfl ?_
  refine V_iconst (q := 1156) dL_law_1155 rfl ?_
  refine V_iadd (q := 1157) dL_law_1156 rfl ?_
  refine V_sld dL_law_1157 (i + 1) (by omega) (by omega) (by omega) (show 1157 + 1 = 1158 from rfl) ?_
  refine V_aload_n (q := 1159) dL_law_1158 0 rfl rfl ?_
  refine V_iload (q := 1161) dL_law_1159 4 rfl rfl ?_
  refine V_iconst (q := 1162) dL_law_1161 rfl ?_
  refine V_iadd (q := 1163) dL_law_1162 rfl ?_
  refine V_sld dL_law_1163 (i + 2) (by omega) (by omega) (by omega) (show 1163 + 1 = 1164 from rfl) ?_
  refine V_top (iZ_self _).symm ?_
  refine V_aload_n (q := 1165) dL_law_1164 0 rfl rfl ?_
  refine V_iload (q := 1167) dL_law_1165 4 rfl rfl ?_
  refine V_iconst (q := 1168) dL_law_1167 rfl ?_
  refine V_iadd (q := 1169) dL_law_1168 rfl ?_
  refine V_sld dL_law_1169 (i + 3) (by omega) (by omega) (by omega) (show 1169 + 1 = 1170 from rfl) ?_
  refine V_top (iZ_self _).symm ?_
  refine V_aload_n (q := 1171) dL_law_1170 3 rfl rfl ?_
  refine V_callWs (q := 1174) (As := [.ref (a 0), .int (xs (i + 1)), .int (iZ (xs (i + 2)).toInt), .int (iZ (xs (i + 3)).toInt), .ref o]) (rest := []) (w1 := []) (w2 := mkc b d S g2 th) (w' := lwx o co (if cEn S (xs (i + 1)) ((xs (i + 2)).toInt) ((xs (i + 3)).toInt) = 0 then vp_updL fo 0 (bL (enZ S (gF S ((xs (i + 3)).toInt) g1) ((xs (i + 1))).toBitVec.toNat ((xs (i + 2)).toInt))) else fo) a c (if cEn S (xs (i + 1)) ((xs (i + 2)).toInt) ((xs (i + 3)).toInt) = 0 then S else S) (if cEn S (xs (i + 1)) ((xs (i + 2)).toInt) ((xs (i + 3)).toInt) = 0 then gF S ((xs (i + 3)).toInt) g1 else g1)) (ws' := lwx o co (if cEn S (xs (i + 1)) ((xs (i + 2)).toInt) ((xs (i + 3)).toInt) = 0 then vp_updL fo 0 (bL (enZ S (gF S ((xs (i + 3)).toInt) g1) ((xs (i + 1))).toBitVec.toNat ((xs (i + 2)).toInt))) else fo) a c (if cEn S (xs (i + 1)) ((xs (i + 2)).toInt) ((xs (i + 3)).toInt) = 0 then S else S) (if cEn S (xs (i + 1)) ((xs (i + 2)).toInt) ((xs (i + 3)).toInt) = 0 then gF S ((xs (i + 3)).toInt) g1 else g1) ++ mkc b d S g2 th) dL_law_1171 (w_isEnough (a := a) (c := c) (g := g1) (o := o) (co := co) (fo := fo) ho (xs (i + 1)) ((xs (i + 2)).toInt) ((xs (i + 3)).toInt) hg1 (x_toInt _) (x_toInt _)) yw_isEnough rfl gL_law_L_isEnough rfl (by decide) (by decide) hkn rfl rfl rfl tyz_x ?_
  refine V_istore (q := 1176) (lv' := [(0, _), (1, _), (2, _), (3, _), (4, _), (5, _)]) dL_law_1174 (by decide) rfl rfl ?_
  refine V_aload_n (q := 1177) dL_law_1176 2 rfl rfl ?_
  refine V_aload_n (q := 1178) dL_law_1177 0 rfl rfl ?_
  refine V_iload (q := 1180) dL_law_1178 4 rfl rfl ?_
  refine V_iconst (q := 1181) dL_law_1180 rfl ?_
  refine V_iadd (q := 1182) dL_law_1181 rfl ?_
  refine V_sld dL_law_1182 (i + 1) (by omega) (by omega) (by omega) (show 1182 + 1 = 1183 from rfl) ?_
  refine V_aload_n (q := 1184) dL_law_1183 0 rfl rfl ?_
  refine V_iload (q := 1186) dL_law_1184 4 rfl rfl ?_
  refine V_iconst (q := 1187) dL_law_1186 rfl ?_
  refine V_iadd (q := 1188) dL_law_1187 rfl ?_
  refine V_sld dL_law_1188 (i + 2) (by omega) (by omega) (by omega) (show 1188 + 1 = 1189 from rfl) ?_
  refine V_top (iZ_self _).symm ?_
  refine V_aload_n (q := 1190) dL_law_1189 0 rfl rfl ?_
  refine V_iload (q := 1192) dL_law_1190 4 rfl rfl ?_
  refine V_iconst (q := 1193) dL_law_1192 rfl ?_
  refine V_iadd (q := 1194) dL_law_1193 rfl ?_
  refine V_sld dL_law_1194 (i + 3) (by omega) (by omega) (by omega) (show 1194 + 1 = 1195 from rfl) ?_
  refine V_top (iZ_self _).symm ?_
  refine V_callIf (q := 1198) (As := [.int (xs (i + 1)), .int (iZ (xs (i + 2)).toInt), .int (iZ (xs (i + 3)).toInt)]) (rest := []) (w1 := lwx o co (if cEn S (xs (i + 1)) ((xs (i + 2)).toInt) ((xs (i + 3)).toInt) = 0 then vp_updL fo 0 (bL (enZ S (gF S ((xs (i + 3)).toInt) g1) ((xs (i + 1))).toBitVec.toNat ((xs (i + 2)).toInt))) else fo) a c (if cEn S (xs (i + 1)) ((xs (i + 2)).toInt) ((xs (i + 3)).toInt) = 0 then S else S) (if cEn S (xs (i + 1)) ((xs (i + 2)).toInt) ((xs (i + 3)).toInt) = 0 then gF S ((xs (i + 3)).toInt) g1 else g1)) (w2 := []) (ws' := lwx o co (if cEn S (xs (i + 1)) ((xs (i + 2)).toInt) ((xs (i + 3)).toInt) = 0 then vp_updL fo 0 (bL (enZ S (gF S ((xs (i + 3)).toInt) g1) ((xs (i + 1))).toBitVec.toNat ((xs (i + 2)).toInt))) else fo) a c (if cEn S (xs (i + 1)) ((xs (i + 2)).toInt) ((xs (i + 3)).toInt) = 0 then S else S) (if cEn S (xs (i + 1)) ((xs (i + 2)).toInt) ((xs (i + 3)).toInt) = 0 then gF S ((xs (i + 3)).toInt) g1 else g1) ++ (mkc b d _ _ _ ++ [])) dL_law_1195 (c_X1_isEnough (b := b) (d := d) (g := g2) (th := th) ho (xs (i + 1)) ((xs (i + 2)).toInt) ((xs (i + 3)).toInt) hg2 (x_toInt _) (x_toInt _)) yv_X1_isEnough rfl gL_law_X1_isEnough rfl 0 rfl rfl rfl rfl (by decide) (by decide) ⟨hkn.1, hkn.2⟩ (by rw [List.append_nil]) rfl rfl tyz_m ?_
  refine V_wz (ws' := lwz o co (if cEn S (xs (i + 1)) ((xs (i + 2)).toInt) ((xs (i + 3)).toInt) = 0 then vp_updL fo 0 (bL (enZ S (gF S ((xs (i + 3)).toInt) g1) ((xs (i + 1))).toBitVec.toNat ((xs (i + 2)).toInt))) else fo) a c b d (if cEn S (xs (i + 1)) ((xs (i + 2)).toInt) ((xs (i + 3)).toInt) = 0 then S else S) (if cEn S (xs (i + 1)) ((xs (i + 2)).toInt) ((xs (i + 3)).toInt) = 0 then gF S ((xs (i + 3)).toInt) g1 else g1) (if cEn S (xs (i + 1)) ((xs (i + 2)).toInt) ((xs (i + 3)).toInt) = 0 then gM S ((xs (i + 3)).toInt) g2 12 else g2) (cEn S (xs (i + 1)) ((xs (i + 2)).toInt) ((xs (i + 3)).toInt))) (by skip; unfold lwz; first | rfl | (simp only [ite_self, List.append_nil]; done) | (rw [List.append_nil]; rfl) | (simp only [ite_self, List.append_nil]; rfl)) ?_
  refine V_istore (q := 1200) (lv' := [(0, _), (1, _), (2, _), (3, _), (4, _), (5, _), (6, _)]) dL_law_1198 (by decide) rfl rfl ?_
  refine V_aload_n (q := 1201) dL_law_1200 2 rfl rfl ?_
  refine V_callIf (q := 1204) (As := []) (rest := []) (w1 := lwx o co (if cEn S (xs (i + 1)) ((xs (i + 2)).toInt) ((xs (i + 3)).toInt) = 0 then vp_updL fo 0 (bL (enZ S (gF S ((xs (i + 3)).toInt) g1) ((xs (i + 1))).toBitVec.toNat ((xs (i + 2)).toInt))) else fo) a c (if cEn S (xs (i + 1)) ((xs (i + 2)).toInt) ((xs (i + 3)).toInt) = 0 then S else S) (if cEn S (xs (i + 1)) ((xs (i + 2)).toInt) ((xs (i + 3)).toInt) = 0 then gF S ((xs (i + 3)).toInt) g1 else g1)) (w2 := []) (ws' := lwz o co (if cEn S (xs (i + 1)) ((xs (i + 2)).toInt) ((xs (i + 3)).toInt) = 0 then vp_updL fo 0 (bL (enZ S (gF S ((xs (i + 3)).toInt) g1) ((xs (i + 1))).toBitVec.toNat ((xs (i + 2)).toInt))) else fo) a c b d (if cEn S (xs (i + 1)) ((xs (i + 2)).toInt) ((xs (i + 3)).toInt) = 0 then S else S) (if cEn S (xs (i + 1)) ((xs (i + 2)).toInt) ((xs (i + 3)).toInt) = 0 then gF S ((xs (i + 3)).toInt) g1 else g1) (if cEn S (xs (i + 1)) ((xs (i + 2)).toInt) ((xs (i + 3)).toInt) = 0 then gM S ((xs (i + 3)).toInt) g2 12 else g2) (cEn S (xs (i + 1)) ((xs (i + 2)).toInt) ((xs (i + 3)).toInt))) dL_law_1201 (c_X1_thrown (b := b) (d := d) (S := (if cEn S (xs (i + 1)) ((xs (i + 2)).toInt) ((xs (i + 3)).toInt) = 0 then S else S)) (g := (if cEn S (xs (i + 1)) ((xs (i + 2)).toInt) ((xs (i + 3)).toInt) = 0 then gM S ((xs (i + 3)).toInt) g2 12 else g2)) (th := cEn S (xs (i + 1)) ((xs (i + 2)).toInt) ((xs (i + 3)).toInt))) yv_X1_thrown rfl gL_law_X1_thrown rfl 0 rfl rfl rfl rfl (by decide) (by decide) ⟨hkn.1, hkn.2⟩ (by unfold lwz; rw [List.append_nil]) (by unfold lwz; rw [List.append_nil]) rfl tyz_m ?_
  have hcc := cEn_c S (xs (i + 1)) ((xs (i + 2)).toInt) ((xs (i + 3)).toInt)
  have hcr : -2147483648 ≤ ((cEn S (xs (i + 1)) ((xs (i + 2)).toInt) ((xs (i + 3)).toInt) : Nat) : Int) ∧ ((cEn S (xs (i + 1)) ((xs (i + 2)).toInt) ((xs (i + 3)).toInt) : Nat) : Int) < 2147483648 := by omega
  refine V_iload (q := 1206) dL_law_1204 5 rfl rfl ?_
  refine V_icmp_eq (q := 1209) (tgt := 1211) dL_law_1206 hcr hcr (by decide) (fun _ => ?_) (fun h => absurd rfl h)
  refine V_iload (q := 1213) dL_law_1211 5 rfl rfl ?_
  have KF : V RL cL_law 7 rt wsL_law room_1 (vXL s0 L xs) (tyz co c d) QL (k + 1) (n + 6) (lwz o co (if cEn S (xs (i + 1)) ((xs (i + 2)).toInt) ((xs (i + 3)).toInt) = 0 then vp_updL fo 0 (bL (enZ S (gF S ((xs (i + 3)).toInt) g1) ((xs (i + 1))).toBitVec.toNat ((xs (i + 2)).toInt))) else fo) a c b d (if cEn S (xs (i + 1)) ((xs (i + 2)).toInt) ((xs (i + 3)).toInt) = 0 then S else S) (if cEn S (xs (i + 1)) ((xs (i + 2)).toInt) ((xs (i + 3)).toInt) = 0 then gF S ((xs (i + 3)).toInt) g1 else g1) (if cEn S (xs (i + 1)) ((xs (i + 2)).toInt) ((xs (i + 3)).toInt) = 0 then gM S ((xs (i + 3)).toInt) g2 12 else g2) (cEn S (xs (i + 1)) ((xs (i + 2)).toInt) ((xs (i + 3)).toInt))) 1235 [(0, .ref s0), (1, .ref (a 0)), (2, .ref (b 0)), (3, .ref o), (4, .int (iZ i))] [] := by
    refine V_goto (tgt := 1306) dL_law_1235 (by decide) ?_
    exact K _ _ _ _ _ ((by rw [ite_self]; exact ho)) (g_ite hg1 (gF_lt hg1)) (g_ite hg2 (fun j => gM_lt hg2 12 j))
  refine V_if_ne (q := 1216) (tgt := 1235) dL_law_1213 hcr (by decide) (fun _ => V_loc [0, 1, 2, 3, 4] rfl KF) (fun h => ?_)
  have h0 : cEn S (xs (i + 1)) ((xs (i + 2)).toInt) ((xs (i + 3)).toInt) = 0 := by omega
  refine V_aload_n (q := 1217) dL_law_1216 3 rfl rfl ?_
  refine V_iconst (q := 1218) dL_law_1217 rfl ?_
  refine V_lald (q := 1219) (v := bL (enZ S (gF S ((xs (i + 3)).toInt) g1) ((xs (i + 1))).toBitVec.toNat ((xs (i + 2)).toInt))) dL_law_1218 0 0 rfl rfl 0 rfl (by decide) (by decide) (by rw [if_pos h0]; exact if_pos rfl) rfl ?_
  refine V_cutL (M := 1229) (bL (enZ S (gF S ((xs (i + 3)).toInt) g1) ((xs (i + 1))).toBitVec.toNat ((xs (i + 2)).toInt))) ?_ (fun k1229 => ?_)
  rotate_left
  · skip
    refine V_iload (q := 1221) dL_law_1219 6 rfl rfl ?_
    refine V_top (y := iZ (bZ (enZ S (gF S ((xs (i + 3)).toInt) g1) ((xs (i + 1))).toBitVec.toNat ((xs (i + 2)).toInt)))) (by rw [en_eq (g2 := g2) ho (en_in h0)]; rw [decide_eq_true h0, Bool.true_and]) ?_
    refine V_if_eqB (q := 1224) (tgt := 1228) dL_law_1221 (by decide) (fun h => ?_) (fun h => ?_)
    · skip
      refine V_lconst (q := 1229) dL_law_1228 (v := bL (enZ S (gF S ((xs (i + 3)).toInt) g1) ((xs (i + 1))).toBitVec.toNat ((xs (i + 2)).toInt))) (by rw [h]; rfl) rfl ?_
      exact k1229 _ rfl
    · skip
      refine V_lconst (q := 1225) dL_law_1224 (v := bL (enZ S (gF S ((xs (i + 3)).toInt) g1) ((xs (i + 1))).toBitVec.toNat ((xs (i + 2)).toInt))) (by rw [h]; rfl) rfl ?_
      refine V_goto (tgt := 1229) dL_law_1225 (by decide) ?_
      exact k1229 _ rfl
  refine V_lcmp (q := 1230) dL_law_1229 rfl ?_
  refine V_top (cmp_self _) ?_
  exact V_if_eq (q := 1233) (tgt := 1235) dL_law_1230 (by decide) (by decide) (fun _ => V_loc [0, 1, 2, 3, 4] rfl KF) (fun h => absurd rfl h)
set_option maxRecDepth 100000 in
set_option maxHeartbeats 4000000 in
theorem law_bag {rt : Option FieldType} {QL : VQ} {k n : Nat} {s0 L : Nat} {xs : Nat → Int32} {o : Nat} {co : ClassId} {fo : Nat → Int64} {a : Nat → Nat} {c : Nat → ClassId} {b : Nat → Nat} {d : Nat → ClassId} {S : St} {g1 g2 : Nat → Nat} {th : Nat} {i : Nat} (ho : Ok S) (hg1 : ∀ j, g1 j < 4096) (hg2 : ∀ j, g2 j < 4096) (hi : i + 6 ≤ L) (hL : L ≤ 3072) (hkn : k + 1 ≤ 1067 ∧ n + 6 ≤ 10898) (K : ∀ (S' : St) (g1' g2' : Nat → Nat) (th' : Nat) (fo' : Nat → Int64), Ok S' → (∀ j, g1' j < 4096) → (∀ j, g2' j < 4096) → V RL cL_law 7 rt wsL_law room_1 (vXL s0 L xs) (tyz co c d) QL (k + 1) (n + 6) (lwz o co fo' a c b d S' g1' g2' th') 1306 [(0, .ref s0), (1, .ref (a 0)), (2, .ref (b 0)), (3, .ref o), (4, .int (iZ i))] []) : V RL cL_law 7 rt wsL_law room_1 (vXL s0 L xs) (tyz co c d) QL k n (lwz o co fo a c b d S g1 g2 th) 1238 [(0, .ref s0), (1, .ref (a 0)), (2, .ref (b 0)), (3, .ref o), (4, .int (iZ i))] [] := by
  refine V_aload_n (q := 1239) dL_law_1238 1 rfl rfl ?_
  refine V_aload_n (q := 1240) dL_law_1239 0 rfl rfl ?_
  refine V_iload (q := 1242) dL_law_1240 4 rfl rfl ?_
  refine V_iconst (q := 1243) dL_law_1242 rfl ?_
  refine V_iadd (q := 1244) dL_law_1243 rfl ?_
  refine V_sld dL_law_1244 (i + 1) (by omega) (by omega) (by omega) (show 1244 + 1 = 1245 from rfl) ?_
  refine V_top (iZ_self _).symm ?_
  refine V_aload_n (q := 1246) dL_law_1245 0 rfl rfl ?_
  refine V_iload (q := 1248) dL_law_1246 4 rfl rfl ?_
  refine V_iconst (q := 1249) dL_law_1248 rfl ?_
  refine V_iadd (q := 1250) dL_law_1249 rfl ?_
  refine V_sld dL_law_1250 (i + 2) (by omega) (by omega) (by omega) (show 1250 + 1 = 1251 from rfl) ?_
  refine V_top (iZ_self _).symm ?_
  refine V_aload_n (q := 1252) dL_law_1251 3 rfl rfl ?_
  refine V_callWs (q := 1255) (As := [.ref (a 0), .int (iZ (xs (i + 1)).toInt), .int (iZ (xs (i + 2)).toInt), .ref o]) (rest := []) (w1 := []) (w2 := mkc b d S g2 th) (w' := lwx o co (if cBag ((xs (i + 1)).toInt) ((xs (i + 2)).toInt) = 0 then vp_updL fo 0 ((iZ ((bagZ S (gF S ((xs (i + 2)).toInt) g1) ((xs (i + 1)).toInt) : Nat))).toInt64) else fo) a c (if cBag ((xs (i + 1)).toInt) ((xs (i + 2)).toInt) = 0 then S else S) (if cBag ((xs (i + 1)).toInt) ((xs (i + 2)).toInt) = 0 then gF S ((xs (i + 2)).toInt) g1 else g1)) (ws' := lwx o co (if cBag ((xs (i + 1)).toInt) ((xs (i + 2)).toInt) = 0 then vp_updL fo 0 ((iZ ((bagZ S (gF S ((xs (i + 2)).toInt) g1) ((xs (i + 1)).toInt) : Nat))).toInt64) else fo) a c (if cBag ((xs (i + 1)).toInt) ((xs (i + 2)).toInt) = 0 then S else S) (if cBag ((xs (i + 1)).toInt) ((xs (i + 2)).toInt) = 0 then gF S ((xs (i + 2)).toInt) g1 else g1) ++ mkc b d S g2 th) dL_law_1252 (w_bag (a := a) (c := c) (g := g1) (o := o) (co := co) (fo := fo) ho ((xs (i + 1)).toInt) ((xs (i + 2)).toInt) hg1 (x_toInt _) (x_toInt _)) yw_bag rfl gL_law_L_bag rfl (by decide) (by decide) hkn rfl rfl rfl tyz_x ?_
  refine V_istore (q := 1257) (lv' := [(0, _), (1, _), (2, _), (3, _), (4, _), (5, _)]) dL_law_1255 (by decide) rfl rfl ?_
  refine V_aload_n (q := 1258) dL_law_1257 2 rfl rfl ?_
  refine V_aload_n (q := 1259) dL_law_1258 0 rfl rfl ?_
  refine V_iload (q := 1261) dL_law_1259 4 rfl rfl ?_
  refine V_iconst (q := 1262) dL_law_1261 rfl ?_
  refine V_iadd (q := 1263) dL_law_1262 rfl ?_
  refine V_sld dL_law_1263 (i + 1) (by omega) (by omega) (by omega) (show 1263 + 1 = 1264 from rfl) ?_
  refine V_top (iZ_self _).symm ?_
  refine V_aload_n (q := 1265) dL_law_1264 0 rfl rfl ?_
  refine V_iload (q := 1267) dL_law_1265 4 rfl rfl ?_
  refine V_iconst (q := 1268) dL_law_1267 rfl ?_
  refine V_iadd (q := 1269) dL_law_1268 rfl ?_
  refine V_sld dL_law_1269 (i + 2) (by omega) (by omega) (by omega) (show 1269 + 1 = 1270 from rfl) ?_
  refine V_top (iZ_self _).symm ?_
  refine V_callIf (q := 1273) (As := [.int (iZ (xs (i + 1)).toInt), .int (iZ (xs (i + 2)).toInt)]) (rest := []) (w1 := lwx o co (if cBag ((xs (i + 1)).toInt) ((xs (i + 2)).toInt) = 0 then vp_updL fo 0 ((iZ ((bagZ S (gF S ((xs (i + 2)).toInt) g1) ((xs (i + 1)).toInt) : Nat))).toInt64) else fo) a c (if cBag ((xs (i + 1)).toInt) ((xs (i + 2)).toInt) = 0 then S else S) (if cBag ((xs (i + 1)).toInt) ((xs (i + 2)).toInt) = 0 then gF S ((xs (i + 2)).toInt) g1 else g1)) (w2 := []) (ws' := lwx o co (if cBag ((xs (i + 1)).toInt) ((xs (i + 2)).toInt) = 0 then vp_updL fo 0 ((iZ ((bagZ S (gF S ((xs (i + 2)).toInt) g1) ((xs (i + 1)).toInt) : Nat))).toInt64) else fo) a c (if cBag ((xs (i + 1)).toInt) ((xs (i + 2)).toInt) = 0 then S else S) (if cBag ((xs (i + 1)).toInt) ((xs (i + 2)).toInt) = 0 then gF S ((xs (i + 2)).toInt) g1 else g1) ++ (mkc b d _ _ _ ++ [])) dL_law_1270 (c_X1_bag (b := b) (d := d) (g := g2) (th := th) ho ((xs (i + 1)).toInt) ((xs (i + 2)).toInt) hg2 (x_toInt _) (x_toInt _)) yv_X1_bag rfl gL_law_X1_bag rfl 0 rfl rfl rfl rfl (by decide) (by decide) ⟨hkn.1, hkn.2⟩ (by rw [List.append_nil]) rfl rfl tyz_m ?_
  refine V_wz (ws' := lwz o co (if cBag ((xs (i + 1)).toInt) ((xs (i + 2)).toInt) = 0 then vp_updL fo 0 ((iZ ((bagZ S (gF S ((xs (i + 2)).toInt) g1) ((xs (i + 1)).toInt) : Nat))).toInt64) else fo) a c b d (if cBag ((xs (i + 1)).toInt) ((xs (i + 2)).toInt) = 0 then S else S) (if cBag ((xs (i + 1)).toInt) ((xs (i + 2)).toInt) = 0 then gF S ((xs (i + 2)).toInt) g1 else g1) (if cBag ((xs (i + 1)).toInt) ((xs (i + 2)).toInt) = 0 then gM S ((xs (i + 2)).toInt) g2 12 else g2) (cBag ((xs (i + 1)).toInt) ((xs (i + 2)).toInt))) (by skip; unfold lwz; first | rfl | (simp only [ite_self, List.append_nil]; done) | (rw [List.append_nil]; rfl) | (simp only [ite_self, List.append_nil]; rfl)) ?_
  refine V_istore (q := 1275) (lv' := [(0, _), (1, _), (2, _), (3, _), (4, _), (5, _), (6, _)]) dL_law_1273 (by decide) rfl rfl ?_
  refine V_aload_n (q := 1276) dL_law_1275 2 rfl rfl ?_
  refine V_callIf (q := 1279) (As := []) (rest := []) (w1 := lwx o co (if cBag ((xs (i + 1)).toInt) ((xs (i + 2)).toInt) = 0 then vp_updL fo 0 ((iZ ((bagZ S (gF S ((xs (i + 2)).toInt) g1) ((xs (i + 1)).toInt) : Nat))).toInt64) else fo) a c (if cBag ((xs (i + 1)).toInt) ((xs (i + 2)).toInt) = 0 then S else S) (if cBag ((xs (i + 1)).toInt) ((xs (i + 2)).toInt) = 0 then gF S ((xs (i + 2)).toInt) g1 else g1)) (w2 := []) (ws' := lwz o co (if cBag ((xs (i + 1)).toInt) ((xs (i + 2)).toInt) = 0 then vp_updL fo 0 ((iZ ((bagZ S (gF S ((xs (i + 2)).toInt) g1) ((xs (i + 1)).toInt) : Nat))).toInt64) else fo) a c b d (if cBag ((xs (i + 1)).toInt) ((xs (i + 2)).toInt) = 0 then S else S) (if cBag ((xs (i + 1)).toInt) ((xs (i + 2)).toInt) = 0 then gF S ((xs (i + 2)).toInt) g1 else g1) (if cBag ((xs (i + 1)).toInt) ((xs (i + 2)).toInt) = 0 then gM S ((xs (i + 2)).toInt) g2 12 else g2) (cBag ((xs (i + 1)).toInt) ((xs (i + 2)).toInt))) dL_law_1276 (c_X1_thrown (b := b) (d := d) (S := (if cBag ((xs (i + 1)).toInt) ((xs (i + 2)).toInt) = 0 then S else S)) (g := (if cBag ((xs (i + 1)).toInt) ((xs (i + 2)).toInt) = 0 then gM S ((xs (i + 2)).toInt) g2 12 else g2)) (th := cBag ((xs (i + 1)).toInt) ((xs (i + 2)).toInt))) yv_X1_thrown rfl gL_law_X1_thrown rfl 0 rfl rfl rfl rfl (by decide) (by decide) ⟨hkn.1, hkn.2⟩ (by unfold lwz; rw [List.append_nil]) (by unfold lwz; rw [List.append_nil]) rfl tyz_m ?_
  have hcc := cBag_c ((xs (i + 1)).toInt) ((xs (i + 2)).toInt)
  have hcr : -2147483648 ≤ ((cBag ((xs (i + 1)).toInt) ((xs (i + 2)).toInt) : Nat) : Int) ∧ ((cBag ((xs (i + 1)).toInt) ((xs (i + 2)).toInt) : Nat) : Int) < 2147483648 := by omega
  refine V_iload (q := 1281) dL_law_1279 5 rfl rfl ?_
  refine V_icmp_eq (q := 1284) (tgt := 1286) dL_law_1281 hcr hcr (by decide) (fun _ => ?_) (fun h => absurd rfl h)
  refine V_iload (q := 1288) dL_law_1286 5 rfl rfl ?_
  have KF : V RL cL_law 7 rt wsL_law room_1 (vXL s0 L xs) (tyz co c d) QL (k + 1) (n + 6) (lwz o co (if cBag ((xs (i + 1)).toInt) ((xs (i + 2)).toInt) = 0 then vp_updL fo 0 ((iZ ((bagZ S (gF S ((xs (i + 2)).toInt) g1) ((xs (i + 1)).toInt) : Nat))).toInt64) else fo) a c b d (if cBag ((xs (i + 1)).toInt) ((xs (i + 2)).toInt) = 0 then S else S) (if cBag ((xs (i + 1)).toInt) ((xs (i + 2)).toInt) = 0 then gF S ((xs (i + 2)).toInt) g1 else g1) (if cBag ((xs (i + 1)).toInt) ((xs (i + 2)).toInt) = 0 then gM S ((xs (i + 2)).toInt) g2 12 else g2) (cBag ((xs (i + 1)).toInt) ((xs (i + 2)).toInt))) 1303 [(0, .ref s0), (1, .ref (a 0)), (2, .ref (b 0)), (3, .ref o), (4, .int (iZ i))] [] := by
    refine V_goto (tgt := 1306) dL_law_1303 (by decide) ?_
    exact K _ _ _ _ _ ((by rw [ite_self]; exact ho)) (g_ite hg1 (gF_lt hg1)) (g_ite hg2 (fun j => gM_lt hg2 12 j))
  refine V_if_ne (q := 1291) (tgt := 1303) dL_law_1288 hcr (by decide) (fun _ => V_loc [0, 1, 2, 3, 4] rfl KF) (fun h => ?_)
  have h0 : cBag ((xs (i + 1)).toInt) ((xs (i + 2)).toInt) = 0 := by omega
  refine V_aload_n (q := 1292) dL_law_1291 3 rfl rfl ?_
  refine V_iconst (q := 1293) dL_law_1292 rfl ?_
  refine V_lald (q := 1294) (v := (iZ ((bagZ S (gF S ((xs (i + 2)).toInt) g1) ((xs (i + 1)).toInt) : Nat))).toInt64) dL_law_1293 0 0 rfl rfl 0 rfl (by decide) (by decide) (by rw [if_pos h0]; exact if_pos rfl) rfl ?_
  refine V_iload (q := 1296) dL_law_1294 6 rfl rfl ?_
  refine V_top (y := iZ ((bagZ S (gF S ((xs (i + 2)).toInt) g1) ((xs (i + 1)).toInt) : Nat))) (by rw [if_pos h0]; rw [← bag_eq (g1 := g1) ho (bag_ge h0)]) ?_
  refine V_i2l (q := 1297) dL_law_1296 rfl ?_
  refine V_lcmp (q := 1298) dL_law_1297 rfl ?_
  refine V_top (cmp_self _) ?_
  exact V_if_eq (q := 1301) (tgt := 1303) dL_law_1298 (by decide) (by decide) (fun _ => V_loc [0, 1, 2, 3, 4] rfl KF) (fun h => absurd rfl h)
set_option maxRecDepth 100000 in
set_option maxHeartbeats 4000000 in
theorem law_things {rt : Option FieldType} {QL : VQ} {k n : Nat} {s0 L : Nat} {xs : Nat → Int32} {o : Nat} {co : ClassId} {fo : Nat → Int64} {a : Nat → Nat} {c : Nat → ClassId} {b : Nat → Nat} {d : Nat → ClassId} {S : St} {g1 g2 : Nat → Nat} {th : Nat} {i : Nat} (ho : Ok S) (hg1 : ∀ j, g1 j < 4096) (hg2 : ∀ j, g2 j < 4096) (hi : i + 6 ≤ L) (hL : L ≤ 3072) (hkn : k + 1 ≤ 1067 ∧ n + 6 ≤ 10898) (K : ∀ (S' : St) (g1' g2' : Nat → Nat) (th' : Nat) (fo' : Nat → Int64), Ok S' → (∀ j, g1' j < 4096) → (∀ j, g2' j < 4096) → V RL cL_law 7 rt wsL_law room_1 (vXL s0 L xs) (tyz co c d) QL (k + 1) (n + 6) (lwz o co fo' a c b d S' g1' g2' th') 1306 [(0, .ref s0), (1, .ref (a 0)), (2, .ref (b 0)), (3, .ref o), (4, .int (iZ i))] []) : V RL cL_law 7 rt wsL_law room_1 (vXL s0 L xs) (tyz co c d) QL k n (lwz o co fo a c b d S g1 g2 th) 387 [(0, .ref s0), (1, .ref (a 0)), (2, .ref (b 0)), (3, .ref o), (4, .int (iZ i))] [] := by
  refine V_aload_n (q := 388) dL_law_387 1 rfl rfl ?_
  refine V_callIf (q := 391) (As := []) (rest := []) (w1 := [(o, .inl (co, 1, .inr (.inl fo)))]) (w2 := mkc b d S g2 th) (ws' := lwz o co fo a c b d S g1 g2 th) dL_law_388 (c_X0_things (a := a) (c := c) (S := S) (g := g1) ) yv_X0_things rfl gL_law_X0_things rfl 0 rfl rfl rfl rfl (by decide) (by decide) ⟨by show k ≤ 1067; omega, by show n ≤ 10898; omega⟩ rfl rfl rfl tyz_k ?_
  refine V_aload_n (q := 392) dL_law_391 2 rfl rfl ?_
  refine V_callIf (q := 395) (As := []) (rest := [.int (iZ (cnt (hasT S) 12 : Nat))]) (w1 := lwx o co fo a c S g1) (w2 := []) (ws' := lwz o co fo a c b d S g1 g2 0) dL_law_392 (c_X1_things (b := b) (d := d) (g := g2) (th := th) ho) yv_X1_things rfl gL_law_X1_things rfl 0 rfl rfl rfl rfl (Nat.le_of_ble_eq_true rfl) (by decide) ⟨by show k ≤ 1067; omega, by show n ≤ 10898; omega⟩ (by unfold lwz; rw [List.append_nil]) (by unfold lwz; rw [List.append_nil]) rfl tyz_m ?_
  refine V_widen (Nat.le_add_right k 1) (Nat.le_add_right n 6) ?_
  have hb := cnt_le (hasT S) 12
  exact V_icmp_eq (q := 398) (tgt := 1306) dL_law_395 (by omega) (by omega) (by decide) (fun _ => K _ _ _ _ _ ho hg1 hg2) (fun h => absurd rfl h)
set_option maxRecDepth 100000 in
set_option maxHeartbeats 4000000 in
theorem law_missingTop {rt : Option FieldType} {QL : VQ} {k n : Nat} {s0 L : Nat} {xs : Nat → Int32} {o : Nat} {co : ClassId} {fo : Nat → Int64} {a : Nat → Nat} {c : Nat → ClassId} {b : Nat → Nat} {d : Nat → ClassId} {S : St} {g1 g2 : Nat → Nat} {th : Nat} {i : Nat} (ho : Ok S) (hg1 : ∀ j, g1 j < 4096) (hg2 : ∀ j, g2 j < 4096) (hi : i + 6 ≤ L) (hL : L ≤ 3072) (hkn : k + 1 ≤ 1067 ∧ n + 6 ≤ 10898) (K : ∀ (S' : St) (g1' g2' : Nat → Nat) (th' : Nat) (fo' : Nat → Int64), Ok S' → (∀ j, g1' j < 4096) → (∀ j, g2' j < 4096) → V RL cL_law 7 rt wsL_law room_1 (vXL s0 L xs) (tyz co c d) QL (k + 1) (n + 6) (lwz o co fo' a c b d S' g1' g2' th') 1306 [(0, .ref s0), (1, .ref (a 0)), (2, .ref (b 0)), (3, .ref o), (4, .int (iZ i))] []) : V RL cL_law 7 rt wsL_law room_1 (vXL s0 L xs) (tyz co c d) QL k n (lwz o co fo a c b d S g1 g2 th) 846 [(0, .ref s0), (1, .ref (a 0)), (2, .ref (b 0)), (3, .ref o), (4, .int (iZ i))] [] := by
  refine V_aload_n (q := 847) dL_law_846 1 rfl rfl ?_
  refine V_callIf (q := 850) (As := []) (rest := []) (w1 := [(o, .inl (co, 1, .inr (.inl fo)))]) (w2 := mkc b d S g2 th) (ws' := lwz o co fo a c b d S g1 g2 th) dL_law_847 (c_X0_missingTop (a := a) (c := c) (S := S) (g := g1) ho) yv_X0_missingTop rfl gL_law_X0_missingTop rfl 0 rfl rfl rfl rfl (by decide) (by decide) ⟨by show k ≤ 1067; omega, by show n ≤ 10898; omega⟩ rfl rfl rfl tyz_k ?_
  refine V_aload_n (q := 851) dL_law_850 2 rfl rfl ?_
  refine V_callIf (q := 854) (As := []) (rest := [.int (iZ (mtS S 8).1)]) (w1 := lwx o co fo a c S g1) (w2 := []) (ws' := lwz o co fo a c b d S g1 g2 0) dL_law_851 (c_X1_missingTop (b := b) (d := d) (g := g2) (th := th) ho) yv_X1_missingTop rfl gL_law_X1_missingTop rfl 0 rfl rfl rfl rfl (Nat.le_of_ble_eq_true rfl) (by decide) ⟨by show k ≤ 1067; omega, by show n ≤ 10898; omega⟩ (by unfold lwz; rw [List.append_nil]) (by unfold lwz; rw [List.append_nil]) rfl tyz_m ?_
  refine V_widen (Nat.le_add_right k 1) (Nat.le_add_right n 6) ?_
  have hb := mtS_in S 8
  exact V_icmp_eq (q := 857) (tgt := 1306) dL_law_854 (by omega) (by omega) (by decide) (fun _ => K _ _ _ _ _ ho hg1 hg2) (fun h => absurd rfl h)
