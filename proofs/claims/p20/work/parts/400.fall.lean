/-! the claim falls: on a script of 31s the law makes more cells than its room has, or ends with false (the heads R_law .. lw_pre_spec: the skeleton's) -/
def R_law : String := "WardrobeKeeperLaw"
def lw_P (b : Addr) (xs : List Int32) (args : Array Value) (s : State) : Prop := args = #[.ref b] ∧ s.IntsAt b xs ∧ xs.length ≤ 260 ∧ (Jvm.Cond.and given_1 narrow_1).before args s = true
def lw_At (p : Program) (s : State) (m : MethodId) (meth : Method) (c : Code) (b L : Nat) (xs : Nat → Int32) : Prop :=
  p.tables.exec = Jvm.exec ∧ c.code = code ∧ meth.sig.returnType = ret ∧ c.maxLocals = 17 ∧ s.vm.findClass R_law = some m.cls ∧ (∀ w ∈ lw_tbl, w.before #[Value.ref b] s = true) ∧ va_X b L xs s s.heap ∧ b < s.heap.size ∧ meth.locks = false ∧ (Jvm.Cond.and given_1 narrow_1).before #[Value.ref b] s = true
theorem lw_pre_spec {args : Array Value} {s : State} (h : (Jvm.Cond.and given_1 narrow_1).before args s = true) (hr : rest_1_c.before args s = true) : ∃ (b : Addr) (xs : List Int32), lw_P b xs args s := by
  have hs := flat_of_before _ h
  have hq := flat_of_before _ hr
  have hc : (Cond.count 1).before args s = true := hs _ (by decide +kernel)
  have harr : (Cond.arrayOf (.arg 0) .int).before args s = true := hs _ (by decide +kernel)
  have hle : (Cond.le (.length (.arg 0)) (.int 260)).before args s = true := hs _ (by decide +kernel)
  have hlen : (Cond.isInt (.length (.arg 0))).before args s = true := hq _ (by decide +kernel)
  have hall : (Cond.all (.arg 0) (.isInt (.elem (.arg 0) (.index 0)))).before args s = true := hq _ (by decide +kernel)
  obtain ⟨b, xs, hb, hx⟩ := State.ints_of_pre rfl harr hlen hall
  have hsm : xs.length < 2 ^ 31 := hx.choose_spec.2.2.2
  have hev : (Term.length (.arg 0)).eval args s none [] s = some (.int xs.length.toInt32) := hx.length_eval hb
  have hv := Cond.le_ints hev (show (Term.int 260).eval args s none [] s = some (.int 260) from rfl)
  have hd : xs.length.toInt32 ≤ 260 := by
    simpa [Cond.before, Cond.holds, hv] using hle
  have hN : xs.length ≤ 260 := (Int32.ofNat_le_ofNat hsm (by decide)).mp (show Int32.ofNat xs.length ≤ Int32.ofNat 260 from hd)
  exact ⟨b, xs, Cond.one_arg hc (show args[0]? = some (.ref b) from hb), hx, hN, h⟩
theorem st_in : ∀ q ∈ xtexts, Cond.stringRef RX0 q.1 q.2 ∈ lw_tbl ∧ Cond.exactly (.string RX0 q.1) "java/lang/String" ∈ flatC (Jvm.Cond.and given_1 narrow_1) := by
  have h1 : ∀ q ∈ xtexts, Cond.stringRef RX0 q.1 q.2 ∈ lw_tbl := by decide +kernel
  have h2 : ∀ q ∈ xtexts, Cond.exactly (.string RX0 q.1) "java/lang/String" ∈ flatC (Jvm.Cond.and given_1 narrow_1) := by decide +kernel
  exact fun q hq => ⟨h1 q hq, h2 q hq⟩
theorem st_nw : ∀ w ∈ xnw, w ∈ lw_tbl := by decide +kernel
theorem st_nc : ∀ q ∈ xncs, Cond.not (.castable q.1 q.2) ∈ flatC (Jvm.Cond.and given_1 narrow_1) := by decide +kernel
set_option maxRecDepth 100000 in
set_option maxHeartbeats 4000000 in
theorem st_pT {s : State} {b : Addr} (hts : ∀ w ∈ lw_tbl, w.before #[Value.ref b] s = true) (hgv : (Jvm.Cond.and given_1 narrow_1).before #[Value.ref b] s = true) : pT (fun q : Nat => s.heap.size ≤ q) s := by
  have hs := flat_of_before _ hgv
  have hA : ∀ a : Nat, a < s.heap.size → ¬ (fun q : Nat => s.heap.size ≤ q) a := fun a h => Nat.not_le.mpr h
  refine ⟨?_, ?_, fun q hq => ?_, fun w hw => va_Nw.of (xnw_tab w hw) (hts w (st_nw w hw))⟩
  · exact vx_Zqof (hts _ (by decide +kernel)) (hts _ (by decide +kernel)) (hs _ (by decide +kernel)) hA
  · exact vx_Zqof (hts _ (by decide +kernel)) (hts _ (by decide +kernel)) (hs _ (by decide +kernel)) hA
  · obtain ⟨h1, h2⟩ := st_in q hq
    obtain ⟨a, c, cA, kA, q1, -⟩ := Cond.exactly_spec (args := #[Value.ref b]) (first := s) (o := none) (s := s) (idx := []) (t := .string RX0 q.1) (cls := "java/lang/String") (hs _ h2)
    exact ⟨a, vk_R.of (A := #[Value.ref b]) (hts _ h1) q1⟩
theorem st_pN {s : State} {b : Addr} (hgv : (Jvm.Cond.and given_1 narrow_1).before #[Value.ref b] s = true) : pN s := fun q hq => va_Nc.of (flat_of_before _ hgv _ (st_nc q hq))
set_option maxRecDepth 100000 in
set_option maxHeartbeats 8000000 in
theorem fall_W {p : Program} {e : Env} {s : State} {m : MethodId} {below : List Frame} {meth : Method} {c : Code} (l : Launch) (hflags : l.flags = flags0) {b L : Nat} {xs : Nat → Int32} (hL : L ≤ 260) (h16 : 80 ≤ L) (hxs : ∀ j, j < 80 → xs j = 31) (C0 : lw_At p s m meth c b L xs) : W p l e roomB s m #[Value.ref b] below meth c s.heap [] 0 0 (qF 123 (fun _ => 0, fun _ _ => 0) (fun _ => True) #[Value.ref b] s below) (entryFrame m ([Value.ref b] : List Value).toArray 17) := by
  obtain ⟨hx, hb, hr, hml, hown, hts, hX, hbl, hlocks, hgv⟩ := C0
  have hst : l.stackTraces = false := by
    unfold Launch.stackTraces
    rw [hflags]
    decide +kernel
  obtain ⟨c0, iS0, hKn0⟩ := u_known (C := RX0) (T := TX0) (N := 12) (n := 12) hts inX0 (hts (.instantiable RX0 12) (by decide +kernel))
  obtain ⟨dC, dI, hKc⟩ : ∃ (dC : Nat → ClassId) (dI : Nat → Nat → Nat), ∀ (k : Nat) (q : vw_C), vwCl[k]? = some q → u_Kn s q.1 q.2.1 q.2.2 (dC k) (dI k) := by
    refine ⟨fun _ => c0, fun _ => iS0, ?_⟩
    intro k q hq
    match k, hq with
    | 0, hq => cases hq; exact hKn0
    | k + 1, hq => simp [vwCl] at hq
  have hS : va_S (fun q : Nat => s.heap.size ≤ q) s.heap s.heap [] := va_S.rf
  have hK : va_K (dC, dI) vwCl [] s := ⟨hKc, fun k q h => by simp at h⟩
  have hP : va_P (dC, dI) vwCl [] s.heap := fun k q h => by simp at h
  have hD : va_D (fun q : Nat => s.heap.size ≤ q) [] := ⟨fun i j p q h => by simp at h, fun k q h => by simp at h⟩
  have hl := lv_entry ([.ref b]) (n := 17) (Nat.le_of_ble_eq_true rfl)
  rw [lg_entry_eq]
  exact en0 hL h16 hxs p l e s m #[Value.ref b] below meth c (dC, dI) (fun q : Nat => s.heap.size ≤ q) s.heap [] _ hx hb hr hml hown (fun w hw => hts w (wsL_law_in w hw)) hlocks ⟨hst, st_pT hts hgv, st_pN hgv, rfl, hX, hbl, Nat.not_le.mpr hbl, fun _ h => h⟩ hK (fun _ h => h) hP hD hS hl
/-! the run of the law from a start whose script has eighty 31s first, where there is room enough: it ends, with false, or with 123 new cells and more -/
set_option maxRecDepth 100000 in
set_option maxHeartbeats 8000000 in
theorem fall_run {l : Launch} (hflags : l.flags = flags0) {p : Program} {e : Env} (ha : l.admits e) (hc : FairCas e.choices) (hk : FairClock e.choices) {s : State} {m : MethodId} {args : Array Value} {below : List Frame}
    (hf : s.frames = Frame.invoking m args :: below) (happ : (headSpec (Jvm.Cond.code x code maxLocals ret :: tables_1) room_1).applies x e.platform s = true) (hrest : rest_1 p.tables e args s) (hpre : Pre_1 p.tables e args s) (hroom : s.hasRoom e.platform roomB = true)
    (hscr : ∀ (b : Addr) (xs : List Int32), lw_P b xs args s → 80 ≤ xs.length ∧ ∀ j, j < 80 → xs.getD j 0 = 31) :
    ∃ t, Steps p.tables e below s t ∧ t.status = .running ∧ ∃ o, Ended t below o ∧ (o = .returned (some (.int 0)) ∨ s.heap.size + 123 ≤ t.heap.size) := by
  obtain ⟨b, xs, hP⟩ := lw_pre_spec hpre hrest
  obtain ⟨h16, hxs⟩ := hscr b xs hP
  obtain ⟨rfl, hxa, hbd, hgv⟩ := hP
  obtain ⟨scr, harrAt, hlist, hof, hsmall⟩ := hxa
  obtain ⟨hcb, hkn, -, -⟩ := State.arrayAt?_spec harrAt
  obtain ⟨hrun, hable, halone, hname, hhears, hinit, -, hpre9⟩ := (Spec.appliesLoose_iff hf).mp ((Spec.applies_iff_loose hf).mp happ).1
  have hts0 : ∀ c ∈ (Jvm.Cond.code x code maxLocals ret :: tables_1), c.before #[Value.ref b] s = true := atoms_spec (ws := Jvm.Cond.code x code maxLocals ret :: tables_1) hpre9
  obtain ⟨meth, c, hmeth, hcode, hbytes, hlocals, hret, hlocks, -, -⟩ := Cond.code_spec hname (hts0 _ List.mem_cons_self)
  have hcur := State.cur_lt_of_frames hf
  have hf1 : (s.setFrames (.java (entryFrame m #[Value.ref b] maxLocals) :: below)).frames = .java (entryFrame m #[Value.ref b] maxLocals) :: below := State.frames_setFrames _ hcur
  have ht1 := State.topJava?_of_frames hf1
  have hplain := State.plainMethod.of_named (s := s) (plainFor_of_name (x := x) (by decide)) hname hmeth
  have hAt : At (s.setFrames (.java (entryFrame m #[Value.ref b] maxLocals) :: below)) m c below := ⟨by rw [ht1]; rfl, ⟨[], by rw [hf1]; rfl⟩, hrun, by simpa using hable, by simpa using halone, by rw [State.code?_eq]; simp [State.setFrames, hmeth, hcode], hplain⟩
  have hfull : e.platform.stackFull (s.setFrames below).me (s.setFrames below).frames c.maxLocals = false := by
    obtain ⟨-, h1, -, h2⟩ := State.hasRoom_stack hroom
    rw [hf, List.length_cons] at h1
    rw [State.localsInUse_invoking hf hmeth hcode] at h2
    have hw := stackUse_le_stackWeight below
    rw [State.frames_setFrames _ hcur]
    exact Platform.stackFull_eq_false (by rw [State.stackLimits_setFrames]; omega) (by rw [State.stackLimits_setFrames]; omega)
  have hstep : (stepThread p.tables e s).1 = (s.setFrames (.java (entryFrame m #[Value.ref b] maxLocals) :: below)).setTop (entryFrame m #[Value.ref b] maxLocals) := by
    rw [stepThread_invoking hf, (doInvoke_java (s := s.setFrames below) (e := e) (meth := meth) (code := c) hmeth hcode hlocks hfull).1, State.setTop_self ht1]
    simp only [State.pushFrame, State.frames_setFrames _ hcur, State.setFrames_setFrames, hlocals, entryFrame]
  have B : BodyLoose p l x (headSpec (Jvm.Cond.code x code maxLocals ret :: tables_1) roomB) code maxLocals ret e s m #[Value.ref b] below meth c _ := ⟨ha, hc, hk, by cases p <;> rfl, hf, hname, hhears, hinit, hroom, hpre9, hmeth, hret, hlocks, hbytes, rfl, hAt⟩
  have hown : s.vm.findClass R_law = some m.cls := findClass_of_methodNamed hname
  have hts : ∀ w ∈ lw_tbl, w.before #[Value.ref b] s = true := k2_hts_sels lw_privs (fun w hw => hts0 w (List.mem_cons_of_mem _ hw)) lw_privs_ok
  have hsz : scr.slots.size = xs.length := by rw [← Array.length_toList, hlist, List.length_map]
  have hval : ∀ j : Nat, j < xs.length → scr.slots[j]? = some (.int (xs.getD j 0)) := fun j hj => by
    rw [← Array.getElem?_toList, hlist]
    simp [hj]
  have hbl : b < s.heap.size := (Array.getElem?_eq_some_iff.mp hcb).1
  have hX : va_X b xs.length (fun j => xs.getD j 0) s s.heap := ⟨scr, hcb, hof, hkn, hsz, hval⟩
  have K := fall_W (below := below) l hflags (e := e) hbd h16 hxs ⟨B.exec, hbytes, hret, hlocals, hown, hts, hX, hbl, hlocks, hgv⟩
  obtain ⟨t, a1, a2⟩ := K (s.setFrames (.java (entryFrame m #[Value.ref b] maxLocals) :: below)) rfl (Stand.of_body B)
  refine ⟨t, Steps.head (tb := p.tables) (e := e) ⟨hrun, hable, halone⟩ ⟨[.invoking m #[Value.ref b]], hf, by simp, by simp⟩ ?_, a2⟩
  rw [hstep]
  exact a1
/-- no such end is one that the claim allows -/
theorem fall_post {tb : Tables} {e : Env} {args : Array Value} {s t : State} {o : Outcome} (h : o = .returned (some (.int 0)) ∨ s.heap.size + 123 ≤ t.heap.size) : ¬ Post_1_2 tb e args s o t := by
  intro hp
  rcases h with h | h
  · subst h
    have h3 : limb_1_2.after args s (.returned (some (.int 0))) t = true := hp.1
    rw [show limb_1_2 = Cond.eq .result (.int 1) from rfl] at h3
    rw [Cond.after_iff, Cond.eq_ints (x := 0) (y := 1) rfl rfl] at h3
    exact absurd h3 (by decide)
  · have g2 : t.heap.size ≤ s.heap.size + 122 := hp.2.2.2.2.2.1
    omega
