/-! a start with the script of eighty 31s: the witness's machine with another script; so the claim is false -/
def f31 : Array Value := #[.int 31, .int 31, .int 31, .int 31, .int 31, .int 31, .int 31, .int 31, .int 31, .int 31, .int 31, .int 31, .int 31, .int 31, .int 31, .int 31, .int 31, .int 31, .int 31, .int 31, .int 31, .int 31, .int 31, .int 31, .int 31, .int 31, .int 31, .int 31, .int 31, .int 31, .int 31, .int 31, .int 31, .int 31, .int 31, .int 31, .int 31, .int 31, .int 31, .int 31, .int 31, .int 31, .int 31, .int 31, .int 31, .int 31, .int 31, .int 31, .int 31, .int 31, .int 31, .int 31, .int 31, .int 31, .int 31, .int 31, .int 31, .int 31, .int 31, .int 31, .int 31, .int 31, .int 31, .int 31, .int 31, .int 31, .int 31, .int 31, .int 31, .int 31, .int 31, .int 31, .int 31, .int 31, .int 31, .int 31, .int 31, .int 31, .int 31, .int 31]
def s31 : State := start1.aboutOf f31
theorem code31 : ∀ c, su_isCode c = true → c.before start1.args0 start1.about = true → c.before start1.args0 s31 = true := by
  intro c h1 h2
  unfold su_isCode at h1
  split at h1
  · exact h2
  · cases h1
theorem codes31_1 : ∀ c ∈ tables_1_1.filter su_isCode, c.before start1.args0 s31 = true := fun c hc => code31 c (List.mem_filter.mp hc).2 (start1.codes_hold_1 c hc)
theorem codes31_2 : ∀ c ∈ tables_1_2.filter su_isCode, c.before start1.args0 s31 = true := fun c hc => code31 c (List.mem_filter.mp hc).2 (start1.codes_hold_2 c hc)
set_option maxRecDepth 16384 in
theorem oth31_1_0 : (tables_1_1.take 40).all (fun c => su_isCode c || c.before start1.args0 s31) = true := by decide +kernel
set_option maxRecDepth 16384 in
theorem oth31_1_1 : ((tables_1_1.drop 40).take 40).all (fun c => su_isCode c || c.before start1.args0 s31) = true := by decide +kernel
set_option maxRecDepth 16384 in
theorem oth31_1_2 : (((tables_1_1.drop 40).drop 40).take 40).all (fun c => su_isCode c || c.before start1.args0 s31) = true := by decide +kernel
set_option maxRecDepth 16384 in
theorem oth31_1_3 : ((((tables_1_1.drop 40).drop 40).drop 40).take 40).all (fun c => su_isCode c || c.before start1.args0 s31) = true := by decide +kernel
set_option maxRecDepth 16384 in
theorem oth31_1_4 : (((((tables_1_1.drop 40).drop 40).drop 40).drop 40).take 40).all (fun c => su_isCode c || c.before start1.args0 s31) = true := by decide +kernel
set_option maxRecDepth 16384 in
theorem oth31_1_5 : ((((((tables_1_1.drop 40).drop 40).drop 40).drop 40).drop 40)).all (fun c => su_isCode c || c.before start1.args0 s31) = true := by decide +kernel
theorem othh31_1 : tables_1_1.all (fun c => su_isCode c || c.before start1.args0 s31) = true := (start1.su_all_split _ 40 tables_1_1 oth31_1_0 (start1.su_all_split _ 40 (tables_1_1.drop 40) oth31_1_1 (start1.su_all_split _ 40 ((tables_1_1.drop 40).drop 40) oth31_1_2 (start1.su_all_split _ 40 (((tables_1_1.drop 40).drop 40).drop 40) oth31_1_3 (start1.su_all_split _ 40 ((((tables_1_1.drop 40).drop 40).drop 40).drop 40) oth31_1_4 oth31_1_5)))))
theorem words31_1 : ∀ c ∈ tables_1_1, c.before start1.args0 s31 = true := fun c h => su_words othh31_1 codes31_1 c h
set_option maxRecDepth 16384 in
theorem oth31_2_0 : (tables_1_2.take 40).all (fun c => su_isCode c || c.before start1.args0 s31) = true := by decide +kernel
set_option maxRecDepth 16384 in
theorem oth31_2_1 : ((tables_1_2.drop 40).take 40).all (fun c => su_isCode c || c.before start1.args0 s31) = true := by decide +kernel
set_option maxRecDepth 16384 in
theorem oth31_2_2 : (((tables_1_2.drop 40).drop 40).take 40).all (fun c => su_isCode c || c.before start1.args0 s31) = true := by decide +kernel
set_option maxRecDepth 16384 in
theorem oth31_2_3 : ((((tables_1_2.drop 40).drop 40).drop 40).take 40).all (fun c => su_isCode c || c.before start1.args0 s31) = true := by decide +kernel
set_option maxRecDepth 16384 in
theorem oth31_2_4 : (((((tables_1_2.drop 40).drop 40).drop 40).drop 40).take 40).all (fun c => su_isCode c || c.before start1.args0 s31) = true := by decide +kernel
set_option maxRecDepth 16384 in
theorem oth31_2_5 : ((((((tables_1_2.drop 40).drop 40).drop 40).drop 40).drop 40)).all (fun c => su_isCode c || c.before start1.args0 s31) = true := by decide +kernel
theorem othh31_2 : tables_1_2.all (fun c => su_isCode c || c.before start1.args0 s31) = true := (start1.su_all_split _ 40 tables_1_2 oth31_2_0 (start1.su_all_split _ 40 (tables_1_2.drop 40) oth31_2_1 (start1.su_all_split _ 40 ((tables_1_2.drop 40).drop 40) oth31_2_2 (start1.su_all_split _ 40 (((tables_1_2.drop 40).drop 40).drop 40) oth31_2_3 (start1.su_all_split _ 40 ((((tables_1_2.drop 40).drop 40).drop 40).drop 40) oth31_2_4 oth31_2_5)))))
theorem words31_2 : ∀ c ∈ tables_1_2, c.before start1.args0 s31 = true := fun c h => su_words othh31_2 codes31_2 c h
theorem words31 : ∀ c ∈ (Cond.code x code maxLocals ret :: tables_1), c.before start1.args0 s31 = true := by
  intro c hc
  rcases List.mem_cons.mp hc with h | h
  · rw [h]
    exact code31 _ rfl start1.word_code
  · have h1 : c ∈ tables_1_1 ++ tables_1_2 := h
    rcases List.mem_append.mp h1 with h2 | h2
    · exact words31_1 c h2
    · exact words31_2 c h2
theorem scr31 : ∀ (b : Addr) (xs : List Int32), lw_P b xs start1.args0 s31 → 80 ≤ xs.length ∧ ∀ j, j < 80 → xs.getD j 0 = 31 := by
  intro b xs h
  obtain ⟨h1, ⟨cell, h2, h3, -, -⟩, -, -⟩ := h
  obtain ⟨h4, -, -, -⟩ := State.arrayAt?_spec h2
  have hb : b = 0 := by
    have h5 : (#[Value.ref 0] : Array Value) = #[Value.ref b] := h1
    injection h5 with h5
    injection h5 with h5
    injection h5 with h5
    exact h5.symm
  subst hb
  have h6 : cell.slots = f31 := by
    have h7 : s31.heap[0]? = some { cls := 12, slots := f31, vm := .none } := rfl
    rw [h7] at h4
    cases h4
    rfl
  rw [h6] at h3
  have h8 : (List.replicate 80 (31 : Int32)).map Value.int = xs.map Value.int := h3
  have h9 := (List.map_inj_right (fun _ _ h => Value.int.inj h)).mp h8
  subst h9
  exact ⟨by decide, by decide⟩
set_option maxRecDepth 16384 in
theorem app31 (R : Room) (hR : s31.hasRoom start1.e0.platform R = true) : (headSpec (Jvm.Cond.code x code maxLocals ret :: tables_1) R).applies x start1.e0.platform s31 = true := (Spec.applies_iff rfl).mpr ⟨rfl, rfl, rfl, by decide +kernel, by decide +kernel, by decide +kernel, hR, atoms_intro words31⟩
set_option maxRecDepth 16384 in
theorem room31 : s31.hasRoom start1.e0.platform room_1 = true := launch0.hasRoom_least _ room_1 (by decide +kernel) (by decide +kernel) (by decide +kernel) (by decide +kernel) (by decide +kernel) (by decide +kernel)
set_option maxRecDepth 16384 in
theorem roomB31 : s31.hasRoom start1.e0.platform roomB = true := launch0.hasRoom_least _ roomB (by decide +kernel) (by decide +kernel) (by decide +kernel) (by decide +kernel) (by decide +kernel) (by decide +kernel)
/-! the start meets every premise of the claim -/
set_option maxRecDepth 16384 in
theorem atStart31 : AtStart classFile x code maxLocals ret World_1 tables_1 room_1 Calls_1 rest_1 Pre_1 launch0 start1.p0 start1.e0 s31 ⟨0, 0⟩ start1.args0 Lib.HandBits.below0 :=
  ⟨lists_1, trivial, launch0.admits_env _ _ _, launch0.least_env, fairChoices_fair.cas, fairChoices_fair.clock, rfl, by decide +kernel, by decide +kernel, app31 room_1 room31, trivial, (show rest_1_c.before start1.args0 s31 = true by decide +kernel), (show (Cond.and given_1 narrow_1).before start1.args0 s31 = true by decide +kernel)⟩
/-! THE CLAIM IS FALSE, in the Statement's own words for it: from this start the law's run ends, and its end is not what is claimed: it has answered 0, or made more new cells than the 122 of room_1 -/
theorem p20_refuted : RefutedClaimed_1_2 := by
  obtain ⟨h1, h2, h3, h4, h5, h6, h7, h8, h9, h10, h11, h12, h13⟩ := id atStart31
  obtain ⟨t, ⟨n, hn, hw⟩, hrun, o, hend, ho⟩ := fall_run (l := launch0) rfl h3 h5 h6 h7 h10 h12 h13 roomB31 scr31
  subst hn
  exact ⟨launch0, start1.p0, start1.e0, s31, ⟨0, 0⟩, start1.args0, Lib.HandBits.below0, rfl, atStart31, n, o, hw, hrun, hend, fall_post ho⟩
/-! and so what is owed is false -/
theorem p20_false : ¬ (Claimed_1_1 ∧ Claimed_1_2) := by
  intro hC
  obtain ⟨l, p, e, s, m, args, below, hfl, ⟨h1, h2, h3, h4, h5, h6, h7, h8, h9, h10, h11, h12, h13⟩, n, o, hw, hrun, hend, hno⟩ := p20_refuted
  obtain ⟨n', o', v1, v2, v3, v4⟩ := hC.2 l hfl h1 h2 p e h3 h5 h6 s m args below h7 h8 h9 h10 ⟨h11, h12, h13⟩
  obtain ⟨e1, e2⟩ := the_end_unique (f := fun k => stepsAlone p.tables e k s) hw hend v1 v3
  subst e1 e2
  exact hno v4
