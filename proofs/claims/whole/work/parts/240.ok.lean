/-! what is kept by every step; the law's world -/
theorem ok_add {S : St} (ho : Ok S) {k c w m r : Int} (h : cAdd S k c w m r = 0) : Ok (uA S k.toNat c.toNat w.toNat m.toNat r.toNat) := by
  obtain ⟨h1, h2, h3, h4, h5, h6, h7, h8, h9, h10, h11⟩ := ho
  unfold cAdd at h
  split at h
  · next q =>
    split at h
    · cases h
    · next q2 =>
      simp only [inZ, Bool.and_eq_true, decide_eq_true_eq] at q
      refine ⟨by show sN S + 1 ≤ 12; omega, h2, fun j => ?_, fun j => ?_, fun j => ?_, fun j => ?_, fun j => ?_, fun j => ?_, h9, h10, fun j hj => h11 j (by have hj2 : sN S + 1 ≤ j := hj; omega)⟩
      · show fu (sK S) (sN S) k.toNat j ≤ 2
        have := h3 j
        unfold fu
        split <;> omega
      · show fu (sC S) (sN S) c.toNat j ≤ 7
        have := h4 j
        unfold fu
        split <;> omega
      · show fu (sW S) (sN S) w.toNat j ≤ 10
        have := h5 j
        unfold fu
        split <;> omega
      · show fu (sM S) (sN S) m.toNat j ≤ 9
        have := h6 j
        unfold fu
        split <;> omega
      · show fu (sR S) (sN S) r.toNat j ≤ 2
        have := h7 j
        unfold fu
        split <;> omega
      · show fu (sL S) (sN S) m.toNat j ≤ fu (sM S) (sN S) m.toNat j
        have := h8 j
        unfold fu
        split <;> omega
  · cases h
theorem ok_cls {S : St} (ho : Ok S) {x y : Int} {v : Bool} (h : cClash x y = 0) : Ok (clS S x y v) := by
  obtain ⟨h1, h2, h3, h4, h5, h6, h7, h8, h9, h10, h11⟩ := ho
  unfold cClash at h
  split at h
  · next q =>
    simp only [inZ, Bool.and_eq_true, decide_eq_true_eq] at q
    refine ⟨h1, h2, h3, h4, h5, h6, h7, h8, h9, fun a b ha hb => ?_, h11⟩
    show (if 8 * a + b = 8 * x.toNat + y.toNat ∨ 8 * a + b = 8 * y.toNat + x.toNat then v else sX S (8 * a + b)) = (if 8 * b + a = 8 * x.toNat + y.toNat ∨ 8 * b + a = 8 * y.toNat + x.toNat then v else sX S (8 * b + a))
    by_cases hc : 8 * a + b = 8 * x.toNat + y.toNat ∨ 8 * a + b = 8 * y.toNat + x.toNat
    · rw [if_pos hc, if_pos (by omega)]
    · rw [if_neg hc, if_neg (by omega)]
      exact h10 a b ha hb
  · cases h
theorem ok_pass {S : St} (ho : Ok S) {d : Int} (h : cPass S d = 0) : Ok (uT S (sT S + d.toNat)) := by
  obtain ⟨h1, h2, h3, h4, h5, h6, h7, h8, h9, h10, h11⟩ := ho
  unfold cPass at h
  split at h
  · next q =>
    split at h
    · next q2 =>
      simp only [inZ, Bool.and_eq_true, decide_eq_true_eq] at q
      refine ⟨h1, by show sT S + d.toNat ≤ 10000; omega, h3, h4, h5, h6, h7, h8, fun i => ?_, h10, h11⟩
      have := h9 i
      show sE S i ≤ sT S + d.toNat + 1
      omega
    · cases h
  · cases h
theorem ok_give {S : St} (ho : Ok S) {x : Int} (h : cHas S x = 0) : Ok (gvS S x) := by
  unfold cHas at h
  split at h
  · next q => exact gv_ok ho q
  · cases h
theorem ok_wear {S : St} (ho : Ok S) (t b d : Int) (p : Nat) : Ok (wrS S t b d p) := shw_ok (wo_ok (wo_ok (wo_ok ho t) b) d) t b p
theorem ok_ite {S S' : St} {C : Nat} (ho : Ok S) (h : C = 0 → Ok S') : Ok (if C = 0 then S' else S) := by
  split
  · next q => exact h q
  · exact ho
theorem g_ite {g g' : Nat → Nat} {C : Nat} (h : ∀ j, g j < 4096) (h' : ∀ j, g' j < 4096) (j : Nat) : (if C = 0 then g' else g) j < 4096 := by
  split
  · exact h' j
  · exact h j
def lwz (o : Nat) (co : ClassId) (fo : Nat → Int64) (a : Nat → Nat) (c : Nat → ClassId) (b : Nat → Nat) (d : Nat → ClassId) (S : St) (g1 g2 : Nat → Nat) (th : Nat) : va_W := lwx o co fo a c S g1 ++ mkc b d S g2 th
def tyz (co : ClassId) (c d : Nat → ClassId) : List (ClassId × FieldType) := tyx co c ++ tym d
theorem tyz_x {co : ClassId} {c d : Nat → ClassId} : ∀ z ∈ tyx co c, z ∈ tyz co c d := fun _ h => List.mem_append_left _ h
theorem tyz_k {co : ClassId} {c d : Nat → ClassId} : ∀ z ∈ tyk c, z ∈ tyz co c d := fun _ h => List.mem_append_left _ (List.mem_cons_of_mem _ h)
theorem tyz_m {co : ClassId} {c d : Nat → ClassId} : ∀ z ∈ tym d, z ∈ tyz co c d := fun _ h => List.mem_append_right _ h
theorem and31 (x : Int32) : ∃ v : Nat, v < 32 ∧ x &&& iZ 31 = iZ v := by
  refine ⟨x.toBitVec.toNat &&& 31, Nat.lt_of_le_of_lt Nat.and_le_right (by decide), ?_⟩
  have e : x = iZ ((x.toBitVec.toNat : Nat) : Int) := by
    rw [iZ_nI]
    apply Int32.toBitVec.inj
    show x.toBitVec = BitVec.ofNat 32 x.toBitVec.toNat
    exact BitVec.eq_of_toNat_eq (by simp)
  have h := z_and x.toBitVec.toNat 31
  rw [← e] at h
  exact h
section VZ
variable {own : String} {cc : ByteArray} {nL : Nat} {ret : Option FieldType} {Ts : List Cond} {R : Room} {X : VX} {tys : List (ClassId × FieldType)} {Q : VQ} {k n : Nat} {ws ws' : va_W} {pc : Nat} {lv : List (Nat × Value)} {st : List Value}
theorem V_wz (e0 : ws = ws') (h : V own cc nL ret Ts R X tys Q k n ws' pc lv st) : V own cc nL ret Ts R X tys Q k n ws pc lv st := e0 ▸ h
end VZ
theorem cmp_self (x : Int64) : lg_cmp x x = iZ 0 := (lg_cmp0 x x).mpr rfl
theorem adds_has {S : St} {x w : Int} (h : cAdds S x w = 0) : hasZ S x = true := by
  unfold cAdds at h
  split at h
  · assumption
  · cases h
theorem en_in {S : St} {x : Int32} {d w : Int} (h : cEn S x d w = 0) : x.toBitVec.toNat < 4096 := by
  unfold cEn at h
  split at h
  · next q => exact (ow_sub q.1).2
  · cases h
theorem bag_ge {d w : Int} (h : cBag d w = 0) : 1 ≤ d := by
  unfold cBag at h
  split at h
  · next q =>
    simp only [inZ, Bool.and_eq_true, decide_eq_true_eq] at q
    omega
  · cases h
