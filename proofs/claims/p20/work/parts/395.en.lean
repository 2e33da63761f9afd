/-! the law's entry: its rows are made, both first checks are run -/
theorem pig : ∀ (t : Nat) (l : List Nat), l.Nodup → (∀ x ∈ l, x < t) → l.length ≤ t
  | 0, l, _, h => by
    cases l with
    | nil => exact Nat.le_refl 0
    | cons x r => exact absurd (h x List.mem_cons_self) (Nat.not_lt_zero x)
  | t + 1, l, hn, h => by
    by_cases hm : t ∈ l
    · have h1 := pig t (l.erase t) (hn.erase t) (fun x hx => by
        have h2 := h x (List.mem_of_mem_erase hx)
        have h3 : x ≠ t := fun e => by
          subst e
          exact hn.not_mem_erase hx
        omega)
      have h2 := List.length_erase_of_mem hm
      have h3 := List.length_pos_of_mem hm
      omega
    · exact Nat.le_succ_of_le (pig t l hn (fun x hx => by
        have h2 := h x hx
        have h3 : x ≠ t := fun e => hm (e ▸ hx)
        omega))
/-- so many cells of the world as have been made since are in the heap -/
theorem wd_size {D : va_G} {cl : List vw_C} {A : Nat → Prop} {ws : va_W} {H : Heap} {sz : Nat} (hP : va_P D cl ws H) (hD : va_D A ws) (hA : ∀ q, A q → sz ≤ q) : ws.length ≤ H.size - sz := by
  have h1 := pig (H.size - sz) (ws.map (fun q => q.1 - sz)) ?_ ?_
  · rw [List.length_map] at h1
    exact h1
  · refine List.pairwise_iff_getElem.mpr fun i j hi hj hij e => ?_
    rw [List.length_map] at hi hj
    rw [List.getElem_map, List.getElem_map] at e
    have g1 := List.getElem?_eq_getElem hi
    have g2 := List.getElem?_eq_getElem hj
    have a1 := hA _ (hD.2 i _ g1)
    have a2 := hA _ (hD.2 j _ g2)
    have g3 := hD.1 i j _ _ g1 g2 (by omega)
    omega
  · intro x hx
    obtain ⟨q, hq, rfl⟩ := List.mem_map.mp hx
    obtain ⟨i, hi⟩ := List.getElem?_of_mem hq
    have a1 := hA _ (hD.2 i q hi)
    have a2 := (hP i q hi).lt
    omega
theorem V_ofVB {lo : Nat} {own : String} {cc : ByteArray} {nL : Nat} {ret : Option FieldType} {Ts : List Cond} {R : Room} {X : VX} {tys : List (ClassId × FieldType)} {Q : VQ} {k n : Nat} {ws : va_W} {pc : Nat} {lv : List (Nat × Value)} {st : List Value} (hXA : ∀ l meth c A args s, X l meth c A args s → ∀ q, A q → s.heap.size ≤ q) (h0 : 0 < lo) (hlen : lo ≤ ws.length) (h : VB lo own cc nL ret Ts R X tys Q k n ws pc lv st) : V own cc nL ret Ts R X tys Q k n ws pc lv st := by
  intro p l e s m args below meth c D A H locs ls hx hb hr hm ho ht hk hX hK hA hP hD hS hl
  have h1 := wd_size hP hD (hXA _ _ _ _ _ _ hX)
  exact h p l e s m args below meth c D A H locs ls hx hb hr hm ho ht hk hX hK hA hP hD hS hl (by omega)
set_option maxRecDepth 100000 in
set_option maxHeartbeats 8000000 in
theorem en34 {s0 L : Nat} {xs : Nat → Int32} {a : Nat → Nat} {c : Nat → ClassId} {b : Nat → Nat} {d : Nat → ClassId} (hL : L ≤ 260) (h16 : 80 ≤ L) (hx : ∀ j, j < 80 → xs j = 31) : ∀ (S : St) (F : Nat → Nat → Int32) (g : Nat → Nat), Iv S F 0 → (∀ j, g j < 4096) → VB 14 RL cL_law 17 (some .boolean) wsL_law roomB (vXL s0 L xs) (tyl c d) (qF 123) (14) (84 + 1250) (wal a c S b d F g) 34 [(0, .ref (s0)), (1, .ref (a 0)), (2, .ref (b 0)), (3, .ref (b 1)), (4, .ref (b 2)), (5, .ref (b 3)), (6, .ref (b 4))] [] := by
  intro S F g hI hg
  refine VB_aload_n (q := 35) dL_law_34 1 rfl rfl ?_
  refine VB_aload (q := 37) dL_law_35 6 rfl rfl ?_
  refine VB_iconst (q := 38) dL_law_37 rfl ?_
  refine VB_callU (q := 41) dL_law_38 (u_isRefused0 (a := a) (c := c) (S := S) (b := b) (d := d) (F := F) hI hg) yv_L_isRefused rfl gL_law_L_isRefused xU_L rfl (Nat.le_of_ble_eq_true rfl) (by decide) ⟨by show _ ≤ 20000; omega, by show _ ≤ 130000; omega⟩ (fun x38 g38 hP38 hg38 => ?_)
  refine VB_em (x := x38) (fun e38 => VB_lo (lo' := 14) (Nat.le_add_right _ _) (VB_top (y := iZ 0) e38 ?_)) (fun e38 => VB_lo (lo' := 40) (by show 40 ≤ 14 + (if x38 = 0 then 0 else 26); rw [if_neg e38]; omega) ?_)
  · skip
    have J58 : ∀ (gj58 : Nat → Nat), (∀ j, gj58 j < 4096) → VB 14 RL cL_law 17 (some .boolean) wsL_law roomB (vXL s0 L xs) (tyl c d) (qF 123) (142) (852 + 1250) (wal a c S b d F gj58) 58 [(0, .ref (s0)), (1, .ref (a 0)), (2, .ref (b 0)), (3, .ref (b 1)), (4, .ref (b 2)), (5, .ref (b 3)), (6, .ref (b 4))] [] := by
      intro gj58 hgj58
      refine VB_iconst (q := 59) dL_law_58 rfl ?_
      refine VB_istore (q := 61) (lv' := [(0, _), (1, _), (2, _), (3, _), (4, _), (5, _), (6, _), (7, _)]) dL_law_59 (by decide) rfl rfl ?_
      refine VB_iconst (q := 62) dL_law_61 rfl ?_
      refine VB_istore (q := 64) (lv' := [(0, _), (1, _), (2, _), (3, _), (4, _), (5, _), (6, _), (7, _), (8, _)]) dL_law_62 (by decide) rfl rfl ?_
      refine VB_iload (q := 66) dL_law_64 8 rfl rfl ?_
      refine VB_bipush (q := 68) dL_law_66 (by decide) rfl ?_
      refine VB_icmp_ge (q := 71) (tgt := 977) dL_law_68 (by decide) (by decide) (by decide) (fun hc => absurd hc (by decide)) (fun _ => ?_)
      refine VB_iload (q := 73) dL_law_71 7 rfl rfl ?_
      refine VB_if_eq (q := 76) (tgt := 977) dL_law_73 (by decide) (by decide) (fun _ => ?_) (fun hc => absurd hc (by decide))
      refine VB_iload (q := 979) dL_law_977 7 rfl rfl ?_
      exact VB_ret0 dL_law_979 rfl
    refine VB_if_eq (q := 44) (tgt := 58) dL_law_41 (by decide) (by decide) (fun _ => ?_) (fun hc => absurd hc (by decide))
    exact VB_widen (by omega) (by omega) (J58 g38 hg38)
  · skip
    have J58 : ∀ (gj58 : Nat → Nat), (∀ j, gj58 j < 4096) → VB 14 RL cL_law 17 (some .boolean) wsL_law roomB (vXL s0 L xs) (tyl c d) (qF 123) (142) (852 + 1250) (wal a c S b d F gj58) 58 [(0, .ref (s0)), (1, .ref (a 0)), (2, .ref (b 0)), (3, .ref (b 1)), (4, .ref (b 2)), (5, .ref (b 3)), (6, .ref (b 4))] [] := by
      intro gj58 hgj58
      refine VB_iconst (q := 59) dL_law_58 rfl ?_
      refine VB_istore (q := 61) (lv' := [(0, _), (1, _), (2, _), (3, _), (4, _), (5, _), (6, _), (7, _)]) dL_law_59 (by decide) rfl rfl ?_
      refine VB_iconst (q := 62) dL_law_61 rfl ?_
      refine VB_istore (q := 64) (lv' := [(0, _), (1, _), (2, _), (3, _), (4, _), (5, _), (6, _), (7, _), (8, _)]) dL_law_62 (by decide) rfl rfl ?_
      refine VB_iload (q := 66) dL_law_64 8 rfl rfl ?_
      refine VB_bipush (q := 68) dL_law_66 (by decide) rfl ?_
      refine VB_icmp_ge (q := 71) (tgt := 977) dL_law_68 (by decide) (by decide) (by decide) (fun hc => absurd hc (by decide)) (fun _ => ?_)
      refine VB_iload (q := 73) dL_law_71 7 rfl rfl ?_
      refine VB_if_eq (q := 76) (tgt := 977) dL_law_73 (by decide) (by decide) (fun _ => ?_) (fun hc => absurd hc (by decide))
      refine VB_iload (q := 979) dL_law_977 7 rfl rfl ?_
      exact VB_ret0 dL_law_979 rfl
    refine VB_uif_eq (q := 44) (tgt := 58) dL_law_41 (by decide) ?_ ?_
    · skip
      refine VB_lo (lo' := 14) (by omega) ?_
      exact VB_widen (by omega) (by omega) (J58 g38 hg38)
    · skip
      refine VB_aload_n (q := 45) dL_law_44 1 rfl rfl ?_
      refine VB_aload (q := 47) dL_law_45 6 rfl rfl ?_
      refine VB_iconst (q := 48) dL_law_47 rfl ?_
      refine VB_callU (q := 51) dL_law_48 (u_isRefused1 (a := a) (c := c) (S := S) (b := b) (d := d) (F := F) hI hg38) yv_L_isRefused rfl gL_law_L_isRefused xU_L rfl (Nat.le_of_ble_eq_true rfl) (by decide) ⟨by show _ ≤ 20000; omega, by show _ ≤ 130000; omega⟩ (fun x48 g48 hP48 hg48 => ?_)
      refine VB_em (x := x48) (fun e48 => VB_lo (lo' := 40) (Nat.le_add_right _ _) (VB_top (y := iZ 0) e48 ?_)) (fun e48 => VB_lo (lo' := 66) (by show 66 ≤ 40 + (if x48 = 0 then 0 else 26); rw [if_neg e48]; omega) ?_)
      · skip
        refine VB_if_eq (q := 54) (tgt := 58) dL_law_51 (by decide) (by decide) (fun _ => ?_) (fun hc => absurd hc (by decide))
        refine VB_lo (lo' := 14) (by omega) ?_
        exact VB_widen (by omega) (by omega) (J58 g48 hg48)
      · skip
        refine VB_uif_eq (q := 54) (tgt := 58) dL_law_51 (by decide) ?_ ?_
        · skip
          refine VB_lo (lo' := 14) (by omega) ?_
          exact VB_widen (by omega) (by omega) (J58 g48 hg48)
        · skip
          refine VB_iconst (q := 55) dL_law_54 rfl ?_
          refine VB_goto (tgt := 59) dL_law_55 (by decide) ?_
          refine VB_istore (q := 61) (lv' := [(0, _), (1, _), (2, _), (3, _), (4, _), (5, _), (6, _), (7, _)]) dL_law_59 (by decide) rfl rfl ?_
          refine VB_iconst (q := 62) dL_law_61 rfl ?_
          refine VB_istore (q := 64) (lv' := [(0, _), (1, _), (2, _), (3, _), (4, _), (5, _), (6, _), (7, _), (8, _)]) dL_law_62 (by decide) rfl rfl ?_
          refine VB_lo (lo' := 66) (by omega) ?_
          exact VB_widen (by omega) (by omega) (rd0 hL h16 hx S F g48 hI (fun q => absurd q (by decide)) hg48)
theorem yn_X0 : ∃ (bytes : ByteArray) (maxL : Nat) (wy' : List Cond), wsX0_init = Cond.code yX0_init bytes maxL none :: wy' ∧ (yX0_init.cls ≠ "java/lang/invoke/MethodHandle" ∧ yX0_init.cls ≠ "java/lang/invoke/VarHandle" ∧ (parseMethodDescriptor yX0_init.desc).map (fun d => d.parameters.length) = some 0) ∧ maxL ≤ 21 := ⟨_, _, _, rfl, by decide +kernel, by decide⟩
theorem in_r1 : ∀ w ∈ wsL_law0_r1, w ∈ wsL_law := fun w h => by
  unfold wsL_law wsL_law0
  simp only [List.mem_append]
  exact Or.inl (Or.inl (Or.inl (Or.inl (Or.inl (Or.inl h)))))
theorem Iv0 : Iv S0 (fun _ _ => iZ 0) 0 := ⟨S0_ok, rfl, by decide, rfl, fun k hk => absurd hk (Nat.not_lt_zero k), fun k hk => absurd hk (Nat.not_lt_zero k)⟩
set_option maxRecDepth 100000 in
set_option maxHeartbeats 8000000 in
theorem en0 {s0 L : Nat} {xs : Nat → Int32} (hL : L ≤ 260) (h16 : 80 ≤ L) (hx : ∀ j, j < 80 → xs j = 31) : V RL cL_law 17 (some .boolean) wsL_law roomB (vXL s0 L xs) [] (qF 123) 0 0 [] 0 [(0, .ref s0)] [] := by
  refine V_new (q := 3) (ci := 0) (fs := blX0) dL_law_0 inlX0 tyX0 tyX0_ok (in_r1 _ (by decide +kernel)) (in_r1 _ (by decide +kernel)) (in_r1 _ (by decide +kernel)) rfl (fun j hj => by rcases (show j = 0 ∨ j = 1 ∨ j = 2 ∨ j = 3 ∨ j = 4 ∨ j = 5 ∨ j = 6 ∨ j = 7 ∨ j = 8 ∨ j = 9 ∨ j = 10 ∨ j = 11 by omega) with rfl | rfl | rfl | rfl | rfl | rfl | rfl | rfl | rfl | rfl | rfl | rfl <;> rfl) (by decide) (by decide) rfl (fun q1 => ?_)
  refine V_dup (q := 4) dL_law_3 rfl rfl ?_
  refine V_callN (q := 7) (wr := []) (wc := [(q1, .inr (0, blX0))]) (B := B0) dL_law_4 (c_X0_init q1) yn_X0 rfl gL_law_X0_init (in_r1 _ (by decide +kernel)) (in_r1 _ (by decide +kernel)) (in_r1 _ (by decide +kernel)) [0] [] rfl rfl rfl rfl rfl (by decide) (Nat.le_of_ble_eq_true rfl) (by decide) (by decide) rfl (fun z1 hz1 => ?_)
  refine V_astore_n (q := 8) (lv' := [(0, _), (1, _)]) dL_law_7 (by decide) rfl rfl ?_
  refine V_bipush (q := 10) dL_law_8 (by decide) rfl ?_
  refine V_newa (q := 12) (ty := .int) (N' := 60) (a0 := (60, .inl (fun _ => iZ 0))) dL_law_10 (in_r1 _ (by decide +kernel)) rfl (fun _ => rfl) rfl (by decide) (by decide) (by decide) (by decide) rfl (fun o0 c0 => ?_)
  refine V_astore_n (q := 13) (lv' := [(0, _), (1, _), (2, _)]) dL_law_12 (by decide) rfl rfl ?_
  refine V_bipush (q := 15) dL_law_13 (by decide) rfl ?_
  refine V_newa (q := 17) (ty := .int) (N' := 12) (a0 := (12, .inl (fun _ => iZ 0))) dL_law_15 (in_r1 _ (by decide +kernel)) rfl (fun _ => rfl) rfl (by decide) (by decide) (by decide) (by decide) rfl (fun o1 c1 => ?_)
  refine V_astore_n (q := 18) (lv' := [(0, _), (1, _), (2, _), (3, _)]) dL_law_17 (by decide) rfl rfl ?_
  refine V_bipush (q := 20) dL_law_18 (by decide) rfl ?_
  refine V_newa (q := 22) (ty := .int) (N' := 8) (a0 := (8, .inl (fun _ => iZ 0))) dL_law_20 (in_r1 _ (by decide +kernel)) rfl (fun _ => rfl) rfl (by decide) (by decide) (by decide) (by decide) rfl (fun o2 c2 => ?_)
  refine V_astore (q := 24) (lv' := [(0, _), (1, _), (2, _), (3, _), (4, _)]) dL_law_22 (by decide) rfl rfl ?_
  refine V_iconst (q := 25) dL_law_24 rfl ?_
  refine V_newa (q := 27) (ty := .int) (N' := 4) (a0 := (4, .inl (fun _ => iZ 0))) dL_law_25 (in_r1 _ (by decide +kernel)) rfl (fun _ => rfl) rfl (by decide) (by decide) (by decide) (by decide) rfl (fun o3 c3 => ?_)
  refine V_astore (q := 29) (lv' := [(0, _), (1, _), (2, _), (3, _), (4, _), (5, _)]) dL_law_27 (by decide) rfl rfl ?_
  refine V_iconst (q := 30) dL_law_29 rfl ?_
  refine V_newa (q := 32) (ty := .int) (N' := 2) (a0 := (2, .inl (fun _ => iZ 0))) dL_law_30 (in_r1 _ (by decide +kernel)) rfl (fun _ => rfl) rfl (by decide) (by decide) (by decide) (by decide) rfl (fun o4 c4 => ?_)
  refine V_astore (q := 34) (lv' := [(0, _), (1, _), (2, _), (3, _), (4, _), (5, _), (6, _)]) dL_law_32 (by decide) rfl rfl ?_
  subst hz1
  refine V_ofVB (lo := 14) (fun _ _ _ _ _ _ h => h.2.2.2.2.2.2.2) (by decide) (Nat.le_of_ble_eq_true rfl) ?_
  exact en34 (a := z1.1) (c := z1.2) (b := fun i => [o0, o1, o2, o3, o4].getD i 0) (d := fun i => [c0, c1, c2, c3, c4].getD i 0) hL h16 hx S0 (fun _ _ => iZ 0) (fun _ => 0) Iv0 (fun _ => by decide)
