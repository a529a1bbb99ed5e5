section
/-! ===== NoSuchElementException: its constructor hands on by pool entry 13 (this JDK's), so the chain's words are told here one by one ===== -/
def NXN : String := "java/util/NoSuchElementException"
def RTN : String := "java/lang/RuntimeException"
def EXN : String := "java/lang/Exception"
def nx_rest (own : String) (ic : Nat) : List Cond := [.methodLink own ic (Bundle.initS NXN), .instantiable NXN 6, .selects NXN Bundle.tFill0 Bundle.tFill0, .selects NXN Bundle.tFill Bundle.tFill,
  .lays NXN Bundle.tN "cause" "Ljava/lang/Throwable;", .lays NXN Bundle.tN "stackTrace" Bundle.steD, .lays NXN Bundle.tN "suppressedExceptions" Bundle.listD, .lays NXN Bundle.tN "detailMessage" "Ljava/lang/String;",
  .isRef (.static Bundle.tN "UNASSIGNED_STACK" Bundle.steD), .isRef (.static Bundle.tN "SUPPRESSED_SENTINEL" Bundle.listD),
  .fieldLink Bundle.tN 198 Bundle.tN "backtrace" "Ljava/lang/Object;", .lays Bundle.tN Bundle.tN "backtrace" "Ljava/lang/Object;", .lays NXN Bundle.tN "backtrace" "Ljava/lang/Object;"]
def nx_atoms (own : String) (ic : Nat) : List Cond := Bundle.throwableAtoms ++ (Bundle.throwableSAtoms ++ (Bundle.passSAtoms NXN RTN 13 prog_34_method_4_code ++ (Bundle.passSAtoms RTN EXN 7 prog_24_method_2_code ++ (Bundle.passSAtoms EXN Bundle.tN 7 prog_20_method_2_code ++ nx_rest own ic))))
section NX
variable {p : Program} {l : Launch} {e : Env} {R : Room} {s : State} {m₀ : MethodId} {args : Array Value} {below : List Frame} {meth : Method} {c : Code} {W : State} {locs : List Loc} {cells slots : Nat}
theorem nx_chain {pl : Platform} (hpl : pl.magicAccessors = ({} : Platform).magicAccessors) {top : MethodId} (htop : s.methodNamed? (Bundle.initS Bundle.tN) = some top) (h1 : ∀ w ∈ Bundle.passSAtoms NXN RTN 13 prog_34_method_4_code, w.before args s = true) (h2 : ∀ w ∈ Bundle.passSAtoms RTN EXN 7 prog_24_method_2_code, w.before args s = true) (h3 : ∀ w ∈ Bundle.passSAtoms EXN Bundle.tN 7 prog_20_method_2_code, w.before args s = true) :
    ∃ P1 P2 P3 : PassC, (P1.LinksS pl s ∧ P2.LinksS pl s ∧ P3.LinksS pl s) ∧ s.methodNamed? (Bundle.initS NXN) = some P1.m ∧ P1.sup = P2.m ∧ P2.sup = P3.m ∧ P3.sup = top := by
  obtain ⟨P1, L1, a1, b1⟩ := PassC.ofS_atoms (args := args) (s := s) hpl (X := NXN) (Y := RTN) (by decide) (by decide) (by decide +kernel) (by decide +kernel) (by decide +kernel) (by decide +kernel) h1
  obtain ⟨P2, L2, a2, b2⟩ := PassC.ofS_atoms (args := args) (s := s) hpl (X := RTN) (Y := EXN) (by decide) (by decide) (by decide +kernel) (by decide +kernel) (by decide +kernel) (by decide +kernel) h2
  obtain ⟨P3, L3, a3, b3⟩ := PassC.ofS_atoms (args := args) (s := s) hpl (X := EXN) (Y := Bundle.tN) (by decide) (by decide) (by decide +kernel) (by decide +kernel) (by decide +kernel) (by decide +kernel) h3
  exact ⟨P1, P2, P3, ⟨L1, L2, L3⟩, a1, Option.some.inj (b1.symm.trans a2), Option.some.inj (b2.symm.trans a3), Option.some.inj (b3.symm.trans htop)⟩
set_option maxHeartbeats 2000000 in
theorem nx_ctor (X : Stand p l e R s m₀ args below meth c W locs cells slots) (hexec : p.tables.exec = Jvm.exec) (htr : e.platform.stackTraces = false) {own : String} {ic : Nat}
    (hown : s.vm.findClass own = some m₀.cls) (h : ∀ w ∈ nx_atoms own ic, w.before args s = true) (hlocs : ∀ x ∈ locs, ∀ cell, s.heap[x.base]? = some cell → cell.vm.isStatics = false)
    {a : Addr} {cX : ClassId} {kX : Class} (hfX : s.vm.findClass NXN = some cX) (hkX : s.vm.classes[cX]? = some kX) (hcell : W.heap[a]? = some (freshCell cX kX)) (hnew : s.heap.size ≤ a) {msg : Value} (hmsg : msg.isRef = true)
    {g : JFrame} (hg : g.method = m₀) (hsize : g.locals.size = c.maxLocals) (hlocked : g.locked = none) (hentered : g.entered = []) {rest : List Value} (hstack : g.stack = msg :: .ref a :: .ref a :: rest)
    (hd6 : decode c.code g.pc = .ok (.invokespecial ic, 3)) (hd9 : decode c.code (g.pc + 3) = .ok (.athrow, 1)) (hout : ∀ x ∈ c.exceptionTable.toList, covers x (g.pc + 3) = false)
    (hRf : 5 < R.frames) (hRl : 2 * g.monitorRoom + ((Value.ref a :: rest).map fun v => v.category).sum + 81 ≤ R.locals) (hlocks : meth.locks = false) :
    ∃ U : State, Steps p.tables e below (W.setTop g) U ∧ U.status = .running ∧ Ended U below (.threw a) ∧ s.WarmedH U.vm ∧ s.sameButNew ({ U with vm := s.vm } : State) locs cells slots ∧ ∃ ce : Cell, U.heap[a]? = some ce ∧ ce.vm = .none ∧ s.vm.findClass NXN = some ce.cls := by
  have w1 : ∀ w ∈ Bundle.throwableAtoms, w.before args s = true := fun w q => h w (List.mem_append_left _ q)
  have w2 : ∀ w ∈ Bundle.throwableSAtoms, w.before args s = true := fun w q => h w (List.mem_append_right _ (List.mem_append_left _ q))
  have w3 : ∀ w ∈ Bundle.passSAtoms NXN RTN 13 prog_34_method_4_code, w.before args s = true := fun w q => h w (List.mem_append_right _ (List.mem_append_right _ (List.mem_append_left _ q)))
  have w4 : ∀ w ∈ Bundle.passSAtoms RTN EXN 7 prog_24_method_2_code, w.before args s = true := fun w q => h w (List.mem_append_right _ (List.mem_append_right _ (List.mem_append_right _ (List.mem_append_left _ q))))
  have w5 : ∀ w ∈ Bundle.passSAtoms EXN Bundle.tN 7 prog_20_method_2_code, w.before args s = true := fun w q => h w (List.mem_append_right _ (List.mem_append_right _ (List.mem_append_right _ (List.mem_append_right _ (List.mem_append_left _ q)))))
  have w6 : ∀ w ∈ nx_rest own ic, w.before args s = true := fun w q => h w (List.mem_append_right _ (List.mem_append_right _ (List.mem_append_right _ (List.mem_append_right _ (List.mem_append_right _ q)))))
  have r : ∀ i (w : Cond), (nx_rest own ic)[i]? = some w → w.holds args s none s [] = true := fun i w q => w6 w (List.mem_of_getElem? q)
  have hpl : e.platform.magicAccessors = ({} : Platform).magicAccessors := by rw [X.admits.platform]
  obtain ⟨T, Z0, L, -, Y⟩ := ThrowableC.of_atoms (args := args) (by rw [X.admits.platform] : e.platform.frameOwnsMonitors = true) (by rw [X.admits.platform] : e.platform.finalization = false) hpl w1
  obtain ⟨Z, M, LZ, LM, hnZ⟩ := Init0T.ofS_atoms (args := args) hpl L Y w2
  obtain ⟨P1, P2, P3, ⟨L1, L2, L3⟩, hP1, k1, k2, k3⟩ := nx_chain (args := args) hpl hnZ w3 w4 w5
  have hfound : s.vm.findClass NXN = some P1.m.cls := findClass_of_methodNamed hP1
  cases Option.some.inj (hfX.symm.trans hfound)
  obtain ⟨c1, kX', hc1, hk, hord, -, -, hn6⟩ := Cond.instantiable_spec (r 1 _ rfl)
  cases Option.some.inj (hc1.symm.trans hfound)
  cases Option.some.inj (hkX.symm.trans hk)
  have hsel0 : selectMethod e.platform s.vm P1.m.cls T.fill0 = .method T.fill0 := by
    obtain ⟨c2, r2, m2, q1, q2, q3, q4, -⟩ := Cond.selects_spec (r 2 _ rfl)
    cases Option.some.inj (q1.symm.trans hfound)
    cases Option.some.inj (q2.symm.trans (State.methodFound?_of_named Y.fill0 (by decide)))
    cases Option.some.inj (q3.symm.trans Y.fill0)
    rw [Launch.admits_selectMethod X.admits]; exact q4
  have hselF : selectMethod e.platform s.vm P1.m.cls T.fill = .method T.fill := by
    obtain ⟨c2, r2, m2, q1, q2, q3, q4, -⟩ := Cond.selects_spec (r 3 _ rfl)
    cases Option.some.inj (q1.symm.trans hfound)
    cases Option.some.inj (q2.symm.trans (State.methodFound?_of_named Y.fill (by decide)))
    cases Option.some.inj (q3.symm.trans Y.fill)
    rw [Launch.admits_selectMethod X.admits]; exact q4
  obtain ⟨cS0, hcS0, hiss⟩ := Y.statics
  obtain ⟨u0, hu0⟩ := Cond.staticRefV Y.unassigned L.unassignedStatic L.statics hcS0 hiss (r 8 _ rfl)
  obtain ⟨sen, hsen⟩ := Cond.staticRefV Y.sentinel L.sentinelStatic L.statics hcS0 hiss (r 9 _ rfl)
  obtain ⟨ci8, i8, fB, hk8, hg8, ha8, hsB, -, hnB, htB, hffB⟩ := Cond.ownField (t := .object "java/lang/Object") Y.found L.cls (by decide +kernel) (r 10 _ rfl) (r 11 _ rfl) e.platform hpl
  obtain ⟨cS, hcS', heS, -, hkeep⟩ := X.same.2.2.2.2.2 T.aS cS0 hcS0
  have hcS : W.heap[T.aS]? = some cS := hcS'
  have hout' : ∀ i, (⟨T.aS, i⟩ : Loc) ∉ locs := fun i q => by
    have := hlocs _ q cS0 hcS0
    rw [hiss] at this; cases this
  have hkn : cS.vm ≠ .unknown := by
    rw [heS]; intro q
    rw [show cS0.vm = .unknown from q] at hiss
    cases hiss
  have hne : T.aS ≠ a := Nat.ne_of_lt (Nat.lt_of_lt_of_le (Array.getElem?_eq_some_iff.mp hcS0).1 hnew)
  obtain ⟨iM, hffM⟩ := Y.msg
  obtain ⟨tyC, dC, hdC, hdnC⟩ := Cond.laysAt hfound hk Y.cause (r 4 _ rfl)
  obtain ⟨tyS, dS, hdS, hdnS⟩ := Cond.laysAt hfound hk Y.stack (r 5 _ rfl)
  obtain ⟨tyP, dP, hdP, hdnP⟩ := Cond.laysAt hfound hk Y.supp (r 6 _ rfl)
  obtain ⟨tyM, dM, hdM, hdnM⟩ := Cond.laysAt hfound hk hffM (r 7 _ rfl)
  obtain ⟨tyB, dB, hdB, hdnB⟩ := Cond.laysAt hfound hk hffB (r 12 _ rfl)
  have bC := Cond.laysApart hdB hdC hdnB hdnC (by rw [hnB, Y.causeName]; decide)
  have bS := Cond.laysApart hdB hdS hdnB hdnS (by rw [hnB, Y.stackName]; decide)
  have bP := Cond.laysApart hdB hdP hdnB hdnP (by rw [hnB, Y.suppName]; decide)
  have hskip : SkipFacts T e.platform s (fun u => u) u0 ((preparedCellV T.toThrowableT (freshCell P1.m.cls kX) a u0 sen).withEntry W.cur) :=
    ⟨{ ci198 := ci8, i198 := i8, fBack := fB }, ⟨hk8, hg8, ha8, hsB⟩, by
      have q := fresh_default (c := P1.m.cls) tyB
      rw [htB] at q
      simpa [preparedCellV, Cell.setSlot, Cell.withEntry, Array.getElem?_setIfInBounds, bC, bS, bP, bC.symm, bS.symm, bP.symm, defaultValue] using q, fun _ _ => rfl⟩
  obtain ⟨tm, mC, cdC, kC, vm₁, hnC, -, -, -, -, -, -, -, hW₁, st1⟩ := Steps.initColdS (tb := p.tables) (e := e) (below := below) (s := s) (U := W) X.here hexec X.warmed hpl hown (t := Bundle.initS NXN) rfl rfl (by decide)
    (r 0 _ rfl) (w3 _ (List.mem_of_getElem? (i := 0) rfl)) (bytes := prog_34_method_4_code) (maxL := 2) (w3 _ (List.mem_of_getElem? (i := 1) rfl)) (f := g) hg (a := a) (msg := msg) (rest := .ref a :: rest) hstack hd6
  cases Option.some.inj (hnC.symm.trans hP1)
  have X₁ := X.noted hW₁
  obtain ⟨vm₂, X₂, st2⟩ := X₁.ctorMessageOffV hexec (g := { g with stack := .ref a :: rest }) hg hsize T L Z LZ M LM [P1, P2, P3]
    (fun P hP => by
      rcases List.mem_cons.mp hP with rfl | hP
      · exact L1
      · rcases List.mem_cons.mp hP with rfl | hP
        · exact L2
        · rcases List.mem_cons.mp hP with rfl | hP
          · exact L3
          · cases hP) ⟨k1, k2, k3, trivial⟩ (u0 := u0) (sen := sen) (self := a) hmsg (cell := freshCell P1.m.cls kX) (cellS := cS)
    hcell (fun _ => by simp) (by simp) rfl rfl hsel0 hselF hcS hne hkn (by rw [hkeep _ (hout' _)]; exact hu0) (by rw [hkeep _ (hout' _)]; exact hsen)
    (Takes.of_laid hk hord tyC (by rw [Y.causeType]; rfl)) (Takes.of_laid hk hord tyS (by rw [Y.stackType]; exact fits_refV_array _ u0)) (Takes.of_laid hk hord tyP (by rw [Y.suppType]; exact fits_refV_object _ sen))
    (Takes.of_laid hk hord tyM (by rw [Y.msgType]; exact fits_refV_object _ ⟨msg, hmsg⟩)) Y.objLocals hskip htr [] hd6
    (by simp only [List.length_cons, List.length_nil]; omega) (by simp only [List.length_cons, List.length_nil]; omega)
  obtain ⟨hwalk, hrun, hended, hWU, hsame⟩ := X₂.athrowLeaves hexec (g := { g with stack := .ref a :: rest, pc := g.pc + 3 }) hg hlocked hentered hout (a := a) (rest := rest) rfl hd9
  have hlt : a < ((W.setVm vm₁).setVm vm₂).heap.size := (Array.getElem?_eq_some_iff.mp hcell).1
  have hU := heapAt_setCell_self (s := (W.setVm vm₁).setVm vm₂) (plainBareV T.toThrowableT (freshCell P1.m.cls kX) a u0 sen msg) hlt
  refine ⟨_, st1 _ (fun acts => ?_), hrun, hended, hWU, hsame.weaken (fun y hy hlt' => ?_) (Nat.le_refl _) (Nat.le_refl _), _, hU, rfl, hfound⟩
  · rw [doInvoke_state]
    exact st2 _ hwalk
  · rcases List.mem_append.mp hy with q | q
    · exact q
    · exfalso
      have hb : y.base = a := by
        simp only [List.mem_cons, List.not_mem_nil, or_false] at q
        rcases q with rfl | rfl | rfl | rfl | rfl <;> rfl
      rw [hb] at hlt'
      exact Nat.not_lt.mpr hnew hlt'
end NX
end
section
def nx_in (w : Cond) : Prop := w ∈ GT ∨ w = .isRef (.static Bundle.tN "UNASSIGNED_STACK" Bundle.steD) ∨ w = .isRef (.static Bundle.tN "SUPPRESSED_SENTINEL" Bundle.listD) ∨ w = .laysStatic Bundle.tN "UNASSIGNED_STACK" Bundle.steD ∨ w = .laysStatic Bundle.tN "SUPPRESSED_SENTINEL" Bundle.listD ∨ w = .declares (Bundle.initS RTN) ∨ w = .declares (Bundle.initS EXN) ∨ w = .declares (Bundle.initS Bundle.tN)
/-- words that a warmed machine keeps by rows of their own -/
def XD (U : State) : Prop := va_Nw (.declares (Bundle.initS RTN)) U ∧ va_Nw (.declares (Bundle.initS EXN)) U ∧ va_Nw (.declares (Bundle.initS Bundle.tN)) U ∧ va_Nw (.castable NXN NXN) U
theorem XD.warm {s U : State} (hW : s.WarmedH U.vm) (h : XD s) : XD U := ⟨va_Nw.warmD hW h.1, va_Nw.warmD hW h.2.1, va_Nw.warmD hW h.2.2.1, va_Nw.warmC hW h.2.2.2⟩
theorem XD.same {s U : State} (hv : s.vm = U.vm) (h : XD s) : XD U := ⟨va_Nw.same rfl hv h.1, va_Nw.same rfl hv h.2.1, va_Nw.same rfl hv h.2.2.1, va_Nw.same rfl hv h.2.2.2⟩
def XPn (E : XE) (K : Nat → Nat) (F : Nat → Nat → Nat) (G : XG) (U : State) : Prop := XP E K F G U ∧ XD U
theorem XPn.blind {E : XE} {K : Nat → Nat} {F : Nat → Nat → Nat} {G : XG} {av : List Value} : FrameBlind (va_Pc av (XPn E K F G)) := fun a U g mk h => ⟨h.1, ⟨h.2.1.1, h.2.1.2.1.same (u := U) rfl rfl, h.2.1.2.2⟩, XD.same (s := U) rfl h.2.2⟩
set_option maxRecDepth 100000 in
theorem nx_ta : ∀ w ∈ Bundle.throwableAtoms, nx_in w := List.forall_mem_cons.mpr ⟨Or.inl (GT_mem 115 (by first | rfl | decide +kernel) rfl), List.forall_mem_cons.mpr ⟨Or.inl (GT_mem 1343 (by first | rfl | decide +kernel) rfl), List.forall_mem_cons.mpr ⟨Or.inl (GT_mem 1352 (by first | rfl | decide +kernel) rfl), List.forall_mem_cons.mpr ⟨Or.inl (GT_mem 1354 (by first | rfl | decide +kernel) rfl), List.forall_mem_cons.mpr ⟨Or.inl (GT_mem 1357 (by first | rfl | decide +kernel) rfl), List.forall_mem_cons.mpr ⟨Or.inl (GT_mem 1359 (by first | rfl | decide +kernel) rfl), List.forall_mem_cons.mpr ⟨Or.inl (GT_mem 1344 (by first | rfl | decide +kernel) rfl), List.forall_mem_cons.mpr ⟨Or.inl (GT_mem 1345 (by first | rfl | decide +kernel) rfl), List.forall_mem_cons.mpr ⟨Or.inl (GT_mem 125 (by first | rfl | decide +kernel) rfl), List.forall_mem_cons.mpr ⟨Or.inl (GT_mem 126 (by first | rfl | decide +kernel) rfl), List.forall_mem_cons.mpr ⟨Or.inl (GT_mem 1346 (by first | rfl | decide +kernel) rfl), List.forall_mem_cons.mpr ⟨Or.inl (GT_mem 1351 (by first | rfl | decide +kernel) rfl), List.forall_mem_cons.mpr ⟨Or.inl (GT_mem 1355 (by first | rfl | decide +kernel) rfl), List.forall_mem_cons.mpr ⟨Or.inl (GT_mem 1375 (by first | rfl | decide +kernel) rfl), List.forall_mem_cons.mpr ⟨Or.inl (GT_mem 1333 (by first | rfl | decide +kernel) rfl), List.forall_mem_cons.mpr ⟨Or.inl (GT_mem 1376 (by first | rfl | decide +kernel) rfl), List.forall_mem_cons.mpr ⟨Or.inl (GT_mem 1335 (by first | rfl | decide +kernel) rfl), List.forall_mem_cons.mpr ⟨Or.inl (GT_mem 1377 (by first | rfl | decide +kernel) rfl), List.forall_mem_cons.mpr ⟨Or.inl (GT_mem 1337 (by first | rfl | decide +kernel) rfl), List.forall_mem_cons.mpr ⟨Or.inl (GT_mem 1347 (by first | rfl | decide +kernel) rfl), List.forall_mem_cons.mpr ⟨Or.inr (Or.inr (Or.inr (Or.inl rfl))), List.forall_mem_cons.mpr ⟨Or.inl (GT_mem 1349 (by first | rfl | decide +kernel) rfl), List.forall_mem_cons.mpr ⟨Or.inr (Or.inr (Or.inr (Or.inr (Or.inl rfl)))), List.forall_mem_cons.mpr ⟨Or.inl (GT_mem 1339 (by first | rfl | decide +kernel) rfl), (fun _ h => absurd h List.not_mem_nil)⟩⟩⟩⟩⟩⟩⟩⟩⟩⟩⟩⟩⟩⟩⟩⟩⟩⟩⟩⟩⟩⟩⟩⟩
set_option maxRecDepth 100000 in
theorem nx_ts : ∀ w ∈ Bundle.throwableSAtoms, nx_in w := List.forall_mem_cons.mpr ⟨Or.inl (GT_mem 1371 (by first | rfl | decide +kernel) rfl), List.forall_mem_cons.mpr ⟨Or.inl (GT_mem 1372 (by first | rfl | decide +kernel) rfl), List.forall_mem_cons.mpr ⟨Or.inl (GT_mem 1374 (by first | rfl | decide +kernel) rfl), List.forall_mem_cons.mpr ⟨Or.inl (GT_mem 1339 (by first | rfl | decide +kernel) rfl), (fun _ h => absurd h List.not_mem_nil)⟩⟩⟩⟩
set_option maxRecDepth 100000 in
theorem nx_p1 : ∀ w ∈ Bundle.passSAtoms NXN RTN 13 prog_34_method_4_code, nx_in w := List.forall_mem_cons.mpr ⟨Or.inl (GT_mem 1362 (by first | rfl | decide +kernel) rfl), List.forall_mem_cons.mpr ⟨Or.inl (GT_mem 1363 (by first | rfl | decide +kernel) rfl), List.forall_mem_cons.mpr ⟨Or.inl (GT_mem 1364 (by first | rfl | decide +kernel) rfl), List.forall_mem_cons.mpr ⟨Or.inl (GT_mem 1365 (by first | rfl | decide +kernel) rfl), List.forall_mem_cons.mpr ⟨Or.inr (Or.inr (Or.inr (Or.inr (Or.inr (Or.inl rfl))))), (fun _ h => absurd h List.not_mem_nil)⟩⟩⟩⟩⟩
set_option maxRecDepth 100000 in
theorem nx_p2 : ∀ w ∈ Bundle.passSAtoms RTN EXN 7 prog_24_method_2_code, nx_in w := List.forall_mem_cons.mpr ⟨Or.inl (GT_mem 1365 (by first | rfl | decide +kernel) rfl), List.forall_mem_cons.mpr ⟨Or.inl (GT_mem 1366 (by first | rfl | decide +kernel) rfl), List.forall_mem_cons.mpr ⟨Or.inl (GT_mem 1367 (by first | rfl | decide +kernel) rfl), List.forall_mem_cons.mpr ⟨Or.inl (GT_mem 1368 (by first | rfl | decide +kernel) rfl), List.forall_mem_cons.mpr ⟨Or.inr (Or.inr (Or.inr (Or.inr (Or.inr (Or.inr (Or.inl rfl)))))), (fun _ h => absurd h List.not_mem_nil)⟩⟩⟩⟩⟩
set_option maxRecDepth 100000 in
theorem nx_p3 : ∀ w ∈ Bundle.passSAtoms EXN Bundle.tN 7 prog_20_method_2_code, nx_in w := List.forall_mem_cons.mpr ⟨Or.inl (GT_mem 1368 (by first | rfl | decide +kernel) rfl), List.forall_mem_cons.mpr ⟨Or.inl (GT_mem 1369 (by first | rfl | decide +kernel) rfl), List.forall_mem_cons.mpr ⟨Or.inl (GT_mem 1370 (by first | rfl | decide +kernel) rfl), List.forall_mem_cons.mpr ⟨Or.inl (GT_mem 1371 (by first | rfl | decide +kernel) rfl), List.forall_mem_cons.mpr ⟨Or.inr (Or.inr (Or.inr (Or.inr (Or.inr (Or.inr (Or.inr rfl)))))), (fun _ h => absurd h List.not_mem_nil)⟩⟩⟩⟩⟩
set_option maxRecDepth 100000 in
theorem nx_re : ∀ w ∈ nx_rest RX10 262, nx_in w := List.forall_mem_cons.mpr ⟨Or.inl (GT_mem 1361 (by first | rfl | decide +kernel) rfl), List.forall_mem_cons.mpr ⟨Or.inl (GT_mem 1322 (by first | rfl | decide +kernel) rfl), List.forall_mem_cons.mpr ⟨Or.inl (GT_mem 1330 (by first | rfl | decide +kernel) rfl), List.forall_mem_cons.mpr ⟨Or.inl (GT_mem 1331 (by first | rfl | decide +kernel) rfl), List.forall_mem_cons.mpr ⟨Or.inl (GT_mem 1332 (by first | rfl | decide +kernel) rfl), List.forall_mem_cons.mpr ⟨Or.inl (GT_mem 1334 (by first | rfl | decide +kernel) rfl), List.forall_mem_cons.mpr ⟨Or.inl (GT_mem 1336 (by first | rfl | decide +kernel) rfl), List.forall_mem_cons.mpr ⟨Or.inl (GT_mem 1338 (by first | rfl | decide +kernel) rfl), List.forall_mem_cons.mpr ⟨Or.inr (Or.inl rfl), List.forall_mem_cons.mpr ⟨Or.inr (Or.inr (Or.inl rfl)), List.forall_mem_cons.mpr ⟨Or.inl (GT_mem 1342 (by first | rfl | decide +kernel) rfl), List.forall_mem_cons.mpr ⟨Or.inl (GT_mem 1341 (by first | rfl | decide +kernel) rfl), List.forall_mem_cons.mpr ⟨Or.inl (GT_mem 1340 (by first | rfl | decide +kernel) rfl), (fun _ h => absurd h List.not_mem_nil)⟩⟩⟩⟩⟩⟩⟩⟩⟩⟩⟩⟩⟩
theorem nx_all : ∀ w ∈ nx_atoms RX10 262, nx_in w := List.forall_mem_append.mpr ⟨nx_ta, List.forall_mem_append.mpr ⟨nx_ts, List.forall_mem_append.mpr ⟨nx_p1, List.forall_mem_append.mpr ⟨nx_p2, List.forall_mem_append.mpr ⟨nx_p3, nx_re⟩⟩⟩⟩⟩
theorem k_nx : Cond.classLink RX10 258 NXN ∈ GT ∧ Cond.initialized NXN ∈ GT ∧ Cond.classLink RL 13 NXN ∈ GT := ⟨GT_mem 1321 (by decide +kernel) rfl, GT_mem 118 (by decide +kernel) rfl, GT_mem 1316 (by decide +kernel) rfl⟩
theorem TW.kept {E : XE} {K : Nat → Nat} {F : Nat → Nat → Nat} {G : XG} {H H1 : Heap} (h : TW E K F G H) (hq : ∀ q : Nat, q < H.size → H1[q]? = H[q]?) : TW E K F G H1 := by
  obtain ⟨ws, h1, h2, h3⟩ := h
  exact ⟨ws, h1, h2.kept (fun k q hk => hq q.1 (h2 k q hk).lt), h3⟩
/-- kinds that stay, but for rows of longs -/
def KE (K K1 : Nat → Nat) : Prop := ∀ (x n : Nat), K x = n → n ≠ 0 → n ≠ 14 → K1 x = n
theorem KE.rf {K : Nat → Nat} : KE K K := fun _ _ h _ _ => h
theorem SHP.mono14 {E : XE} {K K1 : Nat → Nat} {F : Nat → Nat → Nat} {d c : Nat → Int32} {r : Nat → Option Nat} {l : Nat → Int64} {a k : Nat} {e : va_E} (m : KE K K1) (h : SHP E K F d c r l a k e) : SHP E K1 F d c r l a k e := by
  unfold SHP at h ⊢
  split at h
  · obtain ⟨h0, h1, h2, h3, h4⟩ := h
    exact ⟨h0, m _ _ h1 (by decide) (by decide), h2, m _ _ h3 (by decide) (by decide), h4⟩
  · obtain ⟨h0, h1, h2, h3, h4, h5, h6⟩ := h
    exact ⟨h0, m _ _ h1 (by decide) (by decide), h2, m _ _ h3 (by decide) (by decide), h4, m _ _ h5 (by decide) (by decide), h6⟩
  · obtain ⟨h0, h1, h2, h3, h4, h5, h6, h7, h8⟩ := h
    exact ⟨h0, m _ _ h1 (by decide) (by decide), h2, m _ _ h3 (by decide) (by decide), h4, m _ _ h5 (by decide) (by decide), h6, m _ _ h7 (by decide) (by decide), h8⟩
  · obtain ⟨h0, h1, h2, h3, h4, h5, h6⟩ := h
    exact ⟨h0, m _ _ h1 (by decide) (by decide), h2, m _ _ h3 (by decide) (by decide), h4, m _ _ h5 (by decide) (by decide), h6⟩
  · obtain ⟨h0, h1, h2, h3, h4, h5, h6, h7, h8, h9, h10, h11, h12⟩ := h
    exact ⟨h0, m _ _ h1 (by decide) (by decide), h2, m _ _ h3 (by decide) (by decide), h4, m _ _ h5 (by decide) (by decide), h6, m _ _ h7 (by decide) (by decide), h8, m _ _ h9 (by decide) (by decide), h10, m _ _ h11 (by decide) (by decide), h12⟩
  · obtain ⟨h0, h1, h2, h3⟩ := h
    exact ⟨h0, m _ _ h1 (by decide) (by decide), h2, h3⟩
  · obtain ⟨h0, h1, h2, h3, h4⟩ := h
    exact ⟨h0, m _ _ h1 (by decide) (by decide), h2, m _ _ h3 (by decide) (by decide), h4⟩
  · exact h
  · obtain ⟨h0, h1, h2⟩ := h
    exact ⟨h0, m _ _ h1 (by decide) (by decide), h2⟩
  · exact h
  · obtain ⟨h0, h1, h2, h3, h4, h5, h6, h7, h8, h9, h10, h11, h12, h13, h14, h15, h16, h17, h18, h19, h20, h21, h22, h23, h24, h25, h26, h27, h28, h29, h30, h31, h32, h33, h34, h35⟩ := h
    exact ⟨h0, m _ _ h1 (by decide) (by decide), h2, m _ _ h3 (by decide) (by decide), h4, m _ _ h5 (by decide) (by decide), h6, m _ _ h7 (by decide) (by decide), h8, m _ _ h9 (by decide) (by decide), h10, m _ _ h11 (by decide) (by decide), h12, m _ _ h13 (by decide) (by decide), h14, m _ _ h15 (by decide) (by decide), h16, m _ _ h17 (by decide) (by decide), h18, m _ _ h19 (by decide) (by decide), h20, m _ _ h21 (by decide) (by decide), h22, m _ _ h23 (by decide) (by decide), h24, m _ _ h25 (by decide) (by decide), h26, m _ _ h27 (by decide) (by decide), h28, m _ _ h29 (by decide) (by decide), h30, m _ _ h31 (by decide) (by decide), h32, m _ _ h33 (by decide) (by decide), h34, h35⟩
  · obtain ⟨h0, h1, h2, h3, h4, h5, h6, h7, h8, h9, h10, h11, h12, h13, h14, h15, h16, h17, h18, h19, h20, h21, h22, h23, h24, h25, h26, h27, h28, h29, h30, h31, h32, h33, h34, h35, h36, h37, h38, h39, h40, h41, h42, h43, h44, h45, h46, h47, h48, h49, h50, h51, h52, h53, h54, h55, h56, h57, h58, h59, h60, h61, h62, h63, h64, h65, h66, h67, h68, h69, h70, h71, h72, h73, h74⟩ := h
    exact ⟨h0, m _ _ h1 (by decide) (by decide), h2, m _ _ h3 (by decide) (by decide), h4, m _ _ h5 (by decide) (by decide), h6, m _ _ h7 (by decide) (by decide), h8, m _ _ h9 (by decide) (by decide), h10, h11, m _ _ h12 (by decide) (by decide), h13, m _ _ h14 (by decide) (by decide), h15, m _ _ h16 (by decide) (by decide), h17, m _ _ h18 (by decide) (by decide), h19, m _ _ h20 (by decide) (by decide), h21, m _ _ h22 (by decide) (by decide), h23, m _ _ h24 (by decide) (by decide), h25, m _ _ h26 (by decide) (by decide), h27, m _ _ h28 (by decide) (by decide), h29, m _ _ h30 (by decide) (by decide), h31, m _ _ h32 (by decide) (by decide), h33, m _ _ h34 (by decide) (by decide), h35, m _ _ h36 (by decide) (by decide), h37, m _ _ h38 (by decide) (by decide), h39, m _ _ h40 (by decide) (by decide), h41, m _ _ h42 (by decide) (by decide), h43, m _ _ h44 (by decide) (by decide), h45, m _ _ h46 (by decide) (by decide), h47, m _ _ h48 (by decide) (by decide), h49, m _ _ h50 (by decide) (by decide), h51, m _ _ h52 (by decide) (by decide), h53, m _ _ h54 (by decide) (by decide), h55, m _ _ h56 (by decide) (by decide), h57, h58, m _ _ h59 (by decide) (by decide), h60, m _ _ h61 (by decide) (by decide), h62, m _ _ h63 (by decide) (by decide), h64, m _ _ h65 (by decide) (by decide), h66, m _ _ h67 (by decide) (by decide), h68, m _ _ h69 (by decide) (by decide), h70, m _ _ h71 (by decide) (by decide), h72, m _ _ h73 (by decide) (by decide), h74⟩
  · exact h
  · exact ⟨h.1, fun i q hq => m _ _ (h.2 i q hq) (by decide) (by decide)⟩
  · refine ⟨h.1, fun i hi => ?_⟩
    obtain ⟨q, h3, h4, h5⟩ := h.2 i hi
    exact ⟨q, h3, m _ _ h4 (by decide) (by decide), h5⟩
  · first | exact h | (split <;> first | exact h | (exfalso; simp_all; done))
/-- but one row of longs is forgotten -/
theorem TW.n14 {E : XE} {K : Nat → Nat} {F : Nat → Nat → Nat} {G : XG} {H : Heap} {a : Nat} (h : TW E K F G H) (ha : K a = 14) : ∃ K1 : Nat → Nat, KE K K1 ∧ K1 a = 14 ∧ (∀ b, K1 b = 14 → b = a) ∧ TW E K1 F G H := by
  obtain ⟨ws, ⟨hw, hX⟩, hP, hD⟩ := h
  have hm : KE K (fun x => if x ≠ a ∧ K x = 14 then 0 else K x) := by
    intro x n h0 h1 h2
    show (if x ≠ a ∧ K x = 14 then 0 else K x) = n
    rw [if_neg (fun q => h2 (h0.symm.trans q.2))]
    exact h0
  refine ⟨_, hm, ?_, ?_, ws, ⟨?_, ?_⟩, hP, hD⟩
  · show (if a ≠ a ∧ K a = 14 then 0 else K a) = 14
    rw [if_neg (fun q => q.1 rfl)]
    exact ha
  · intro b hb
    have hb : (if b ≠ a ∧ K b = 14 then 0 else K b) = 14 := hb
    apply Classical.byContradiction
    intro q
    by_cases g : K b = 14
    · rw [if_pos ⟨q, g⟩] at hb; cases hb
    · rw [if_neg (fun z => g z.2)] at hb; exact g hb
  · intro b hb
    have hb : (if b ≠ a ∧ K b = 14 then 0 else K b) ≠ 0 := hb
    show ∃ (i : Nat) (e : va_E), ws[i]? = some (b, e) ∧ SHP E _ F (G.1 b) (G.2.1 b) (G.2.2.1 b) G.2.2.2 b (if b ≠ a ∧ K b = 14 then 0 else K b) e
    by_cases g : b ≠ a ∧ K b = 14
    · rw [if_pos g] at hb; exact absurd rfl hb
    · rw [if_neg g] at hb ⊢
      obtain ⟨i, e, h1, h2⟩ := hw b hb
      exact ⟨i, e, h1, h2.mono14 hm⟩
  · obtain ⟨i1, j1, v, n, f, ml, cnt, h1, h2, h3, h4, h5⟩ := hX
    refine ⟨i1, j1, v, n, f, ml, cnt, h1, h2, ?_, ?_, h5⟩
    · show (if E.2.2.2.1 ≠ a ∧ K E.2.2.2.1 = 14 then 0 else K E.2.2.2.1) = 0
      split <;> first | rfl | exact h3
    · show (if v ≠ a ∧ K v = 14 then 0 else K v) = 0
      split <;> first | rfl | exact h4
/-- NoSuchElementException was thrown; the world is as it was -/
def XCn (PX : Prop) (E : XE) (K : Nat → Nat) (F : Nat → Nat → Nat) (G : XG) : String → State → State → Prop := fun N st t => (N = NXN ∧ PX) ∧ TW E K F G t.heap ∧ va_F (xA E) st t
section NXT
variable {p : Program} {l : Launch} {e : Env} {R : Room} {s : State} {m : MethodId} {args : Array Value} {below : List Frame} {meth : Method} {c : Code} {H : Heap} {locs : List Loc} {cells slots : Nat}
variable {pc : Nat} {ls : Array Slot} {rest : List Value} {E : XE} {cc : ByteArray} {nL : Nat} {w0 : Cond} {K : Nat → Nat} {F : Nat → Nat → Nat} {G : XG} {Q : State → Prop} {Qc : Array Value → State → Outcome → State → Prop}
theorem nx_throw {PX : Prop} (S : CallFix p m c cc nL s args (w0 :: GT) RX10) (hPX : PX) (hst : l.stackTraces = false) (hD9 : XD s) (hK : XK E s) (hT : TW E K F G H) (hS : va_S (xA E) s.heap H locs) {is sa mc ms : Nat} {text : String} (hstr : vk_R RX10 is text sa s) (hsize : ls.size = nL)
    (d0 : decode cc pc = .ok (.new 258, 3)) (d3 : decode cc (pc + 3) = .ok (.dup, 1)) (d4 : decode cc (pc + 4) = .ok (.ldc_w is, 3)) (d7 : decode cc (pc + 7) = .ok (.invokespecial 262, 3)) (d10 : decode cc (pc + 10) = .ok (.athrow, 1))
    (hout : ∀ x ∈ c.exceptionTable.toList, False) (hRf : 5 < R.frames) (hRl : (rest.map fun v => v.category).sum + 82 ≤ R.locals) (hRc : cells + 1 ≤ R.cells) (hRs : slots + 6 ≤ R.slots) (hlocks : meth.locks = false) (hc : cells + 1 ≤ mc) (hs : slots + 6 ≤ ms) :
    W p l e R s m args below meth c H locs cells slots (vx_MQ below Qc (XCn PX E K F G) args s mc ms (xA E)) (F0 m pc ls rest) := by
  obtain ⟨hexec, hb, hml, hown, hts⟩ := S
  intro T hT9 X
  have htr : e.platform.stackTraces = false := (show e.platform.stackTraces = l.stackTraces by rw [X.admits.platform]).trans hst
  have Y := vx_rebase X (R' := { frames := R.frames, locals := R.locals, cells := 1, slots := 6 }) (Nat.le_refl _) (Nat.le_refl _) hRc hRs
  obtain ⟨s', hA⟩ : ∃ z, z = (T.setVm s.vm).setFrames (.invoking m args :: below) := ⟨_, rfl⟩
  rw [← hA] at Y
  have hvm : s'.vm = s.vm := by rw [hA]; rfl
  have hhp : s'.heap = H := by rw [hA]; exact hT9
  have hW0 : s.WarmedH s'.vm := by rw [hvm]; exact State.WarmedH.refl s
  have hw : ∀ w ∈ GT, w.before args s' = true := fun w q => vx_ot_at hW0 hvm.symm (by unfold vx_ot; rw [(List.mem_filter.mp q).2]; exact Bool.or_true _) (hts w (List.mem_cons_of_mem _ q))
  have hU' : vx_Zq Bundle.tN "UNASSIGNED_STACK" Bundle.steD (xA E) s' s'.heap := by rw [hhp]; exact vx_Zq.moved hW0.alike (hK.2.2.2.2.2.2.1.kept hS.2.1)
  have hN' : vx_Zq Bundle.tN "SUPPRESSED_SENTINEL" Bundle.listD (xA E) s' s'.heap := by rw [hhp]; exact vx_Zq.moved hW0.alike (hK.2.2.2.2.2.2.2.1.kept hS.2.1)
  have h : ∀ w ∈ nx_atoms RX10 262, w.before args s' = true := fun w q => by
    have hd : XD s' := XD.same hvm.symm hD9
    rcases nx_all w q with q | q | q | q | q | q | q | q
    · exact hw w q
    · rw [q]; exact vx_isRefq hU'.1
    · rw [q]; exact vx_isRefq hN'.1
    · rw [q]; exact hU'.2.word
    · rw [q]; exact hN'.2.word
    · rw [q]; exact va_Nw.use rfl hd.1
    · rw [q]; exact va_Nw.use rfl hd.2.1
    · rw [q]; exact va_Nw.use rfl hd.2.2.1
  have hown' : s'.vm.findClass RX10 = some m.cls := by rw [hvm]; exact hown
  have hins : (Cond.instantiable NXN 6).before args s' = true := hw _ (GT_mem 1322 (by decide +kernel) rfl)
  obtain ⟨vm₁, cX, kX, hfX, hkX, -, -, X₁, st1⟩ := Y.newCold hexec (own := RX10) (C := NXN) (index := 258) (n := 6) hown' (hw _ k_nx.1) hins (hw _ k_nx.2.1)
    (g := F0 m pc ls rest) rfl (by rw [hb]; exact d0) (Nat.le_refl _) (Nat.le_refl _)
  generalize hT1 : (T.setVm vm₁).pushCell { cls := cX, slots := kX.instanceTypes.map defaultValue, vm := .none } = T1 at X₁ st1
  have hcat : (Value.ref T.heap.size).category = 1 := rfl
  have hcellA : T1.heap[T.heap.size]? = some (freshCell cX kX) := by rw [← hT1]; exact State.heap_pushCell_size _ _
  have d3' : decode c.code (pc + 3) = .ok (.dup, 1) := by rw [hb]; exact d3
  have d4' : decode c.code (pc + 4) = .ok (.ldc_w is, 3) := by rw [hb]; exact d4
  have hstr' : vk_R RX10 is text sa s' := vk_R.warm hW0 hstr
  obtain ⟨U, hsteps, hrun, hend, hW, hsame, ce, hce, hO, hO2⟩ := nx_ctor X₁ hexec htr (own := RX10) (ic := 262) hown' h (fun x hx => nomatch hx) hfX hkX hcellA (by rw [hhp, hT9]; exact Nat.le_refl _) (msg := .ref sa) rfl
    (g := { method := m, pc := pc + 7, locals := ls, stack := .ref sa :: .ref T.heap.size :: .ref T.heap.size :: rest, locked := none }) rfl (hsize.trans hml.symm) rfl rfl (rest := rest) rfl
    (by rw [hb]; exact d7) (by rw [hb]; exact d10) (fun x hx => (hout x hx).elim) hRf (by simp only [List.map_cons, List.sum_cons, hcat]; omega) hlocks
  obtain ⟨f1, f2⟩ := vx_frame hsame
  rw [hhp] at f1 f2
  have hWs : s.WarmedH U.vm := State.WarmedH.trans hW0 hW
  have hcl : s.vm.findClass NXN = some ce.cls := by
    rw [hvm] at hO2
    exact hO2
  have hall : s.sameButNew ({ U with vm := s.vm } : State) locs mc ms := by
    subst hA
    obtain ⟨e1, e2⟩ := hsame
    rw [State.setFrames_setFrames] at e1
    have h2 : (T.setVm s.vm).sameButNew ({ U with vm := s.vm } : State) [] (0 + 1) (0 + 6) := ⟨e1, e2⟩
    have h3 := X.same.trans h2
    rw [List.append_nil] at h3
    exact h3.mono hc hs
  have f3 : ∀ q : Nat, q < H.size → U.heap[q]? = H[q]? := fun q hq => f2 q hq (fun z hz => nomatch hz)
  refine ⟨U, ?_, .threw T.heap.size, hrun, hend, Or.inr ⟨T.heap.size, rfl, NXN, ce, locs, ⟨⟨rfl, hPX⟩, hT.kept f3, Nat.le_trans hS.1 f1, fun q h1 h2 => (f3 q (Nat.lt_of_lt_of_le h1 hS.1)).trans (hS.2.1 q h1 h2)⟩, hce, hO, hcl, hWs, hall, hS.2.2⟩⟩
  refine st1 _ ?_
  show Steps p.tables e below (T1.setTop { method := m, pc := pc + 3, locals := ls, stack := .ref T.heap.size :: rest, locked := none }) _
  jvm_step X₁.here [X₁.here.top, hexec, d3', Value.category]
  exact X₁.ldcStringW hexec (own := RX10) (text := text) (index := is) (a := sa) hown' hstr'.1 hstr'.2
    (g := { method := m, pc := pc + 4, locals := ls, stack := .ref T.heap.size :: .ref T.heap.size :: rest, locked := none }) rfl d4' _ hsteps
theorem x_enterX {y : MethodName} {bytes : ByteArray} {maxL : Nat} {ret : Option FieldType} {rm : Room} {mc ms : Nat} {av : List Value} {P : State → Prop} {XC : String → State → State → Prop} {free : Addr → Prop} (hy : plainName y.cls = true) (hlen : (lg_sl av).length ≤ maxL)
    (body : ∀ (p : Program) (e : Env) (s : State) (m : MethodId) (args : Array Value) (below : List Frame) (meth : Method) (c : Code) (Q : State → Prop), CallFix p m c bytes maxL s args (xw y bytes maxL ret) y.cls → meth.sig.returnType = ret → meth.locks = false → (∀ x ∈ c.exceptionTable.toList, False) → Q = vx_MQ below Qc XC args s mc ms free → P s → ∀ ls : Array Slot, lv_has ls maxL (lv_args 0 av) → W p l e rm s m args below meth c s.heap [] 0 0 Q (F0 m 0 ls [])) : vx_Met l y (xw y bytes maxL ret) rm (va_Pc av P) Qc XC mc ms free := by
  refine vx_ofW (cc := bytes) (maxL := maxL) (ret := ret) hy rfl ?_
  intro p e s m args below meth c s₁ B hml hex hv
  obtain ⟨rfl, hP⟩ := hv
  have hl := lv_entry av (n := maxL) hlen
  rw [lg_entry_eq]
  exact body p e s m _ below meth c _ ⟨B.exec, B.bytes, hml, findClass_of_methodNamed B.named, atoms_spec (ws := xw y bytes maxL ret) B.pre⟩ B.returns B.notSynchronized hex rfl hP _ hl
theorem x_riX {S : Type} {post : Value → S → Prop} {B : S → Heap → Prop} {XC : String → State → State → Prop} {mc ms : Nat} {v : Int32} (hx : p.tables.exec = Jvm.exec) (hb : c.code = cc) (hr : meth.sig.returnType = some .int) (hlk : meth.locks = false) (hQ : Q = vx_MQ below (XQ E post B) XC args s mc ms (xA E)) (hc : cells ≤ mc) (hs : slots ≤ ms) (hS : va_S (xA E) s.heap H locs) (hdg : decode cc pc = .ok (.ireturn, 1)) (u : S) (hp : post (.int v) u) (hB : B u H) : W p l e R s m args below meth c H locs cells slots Q (F0 m pc ls [.int v]) := by
  subst hQ
  exact vx_ret (x_ri hx hb hr hlk rfl hc hs hS hdg u hp hB)
theorem x_cX {PX : Prop} {S : Type} {post : Value → S → Prop} {B : S → Heap → Prop} {mc ms : Nat} {st0 : List Value} {a : Array Value} {H0 : Heap} (hr : vx_Run p l e R s m args below meth c H locs cells slots mc ms (F0 m pc ls st0) rest (XQ E post B a) (XCn PX E K F G) (xA E)) (hS : va_S (xA E) H0 H locs)
    (kx : PX → ∀ (q : Addr) (ce : Cell) (H1 : Heap) (locs1 : List Loc), TW E K F G H1 → va_S (xA E) H0 H1 locs1 → H1[q]? = some ce → ce.vm = .none → s.vm.findClass NXN = some ce.cls → vx_W p l e R s m args below meth c H1 locs1 (cells + mc) (slots + ms) Q (F0 m pc ls rest) q)
    (kk : ∀ (v : Value) (u : S) (H1 : Heap) (locs1 : List Loc), post v u → B u H1 → va_S (xA E) H0 H1 locs1 → W p l e R s m args below meth c H1 locs1 (cells + mc) (slots + ms) Q (F0 m (pc + 3) ls (v :: rest))) : W p l e R s m args below meth c H locs cells slots Q (F0 m pc ls st0) := by
  intro T hT X
  have key : ∀ (st₀ t T' : State) (L : List Loc), st₀.heap = H → T'.heap = t.heap → (∀ q ∈ L, xA E q.base) → va_F (xA E) st₀ t → va_S (xA E) H0 T'.heap (locs ++ L) := by
    intro st₀ t T' L h0 e1 hL hF
    obtain ⟨hz, hk⟩ := hF
    rw [h0] at hz hk
    refine ⟨Nat.le_trans hS.1 (by rw [e1]; exact hz), fun q h1 h2 => by rw [e1, hk q (Nat.lt_of_lt_of_le h1 hS.1) h2]; exact hS.2.1 q h1 h2, fun q hq => ?_⟩
    rcases List.mem_append.mp hq with h | h
    · exact hS.2.2 q h
    · exact hL q h
  rcases hr T hT X with ⟨v, st₀, t, T', L, h0, X', hL, e1, e2, ⟨⟨r, u, hv, hp, hb⟩, hF⟩, st⟩ | ⟨q, st₀, t, T', L, N, ce, h0, X', hL, e1, e2, ⟨⟨hN, hPX⟩, hTW, hF⟩, hce, hcv, hcl, st⟩
  · cases hv
    obtain ⟨t2, a1, b1⟩ := kk r u T'.heap (locs ++ L) hp (by rw [e1]; exact hb) (key st₀ t T' L h0 e1 hL hF) T' rfl X'
    exact ⟨t2, st t2 a1, b1⟩
  · subst hN
    obtain ⟨t2, a1, b1⟩ := kx hPX q ce T'.heap (locs ++ L) (by rw [e1]; exact hTW) (key st₀ t T' L h0 e1 hL hF) (by rw [e1]; exact hce) hcv hcl T' rfl X'
    exact ⟨t2, st.trans a1, b1⟩
variable {y : MethodName} {bytes : ByteArray} {maxL n index mc ms : Nat} {ret : Option FieldType} {rm : Room} {XC : String → State → State → Prop} {own C : String} {b : Addr} {As : List Value} {P9 : State → Prop} {hh : List (Nat × Nat × Nat × Nat)}
theorem x_runVX (S : CallFix p m c cc nL s args (w0 :: GT) own) (hM : vx_Met l y (xw y bytes maxL ret) rm (va_Pc (.ref b :: As) P9) Qc XC mc ms (xA E)) (hc : xcV y C bytes maxL ret n) (hl : Cond.methodLink own index y ∈ GT) (hrc : rm.cells = mc) (hrs : rm.slots = ms) (hR : rm.frames + 1 ≤ R.frames ∧ 8 + (maxL + 11) + rm.locals ≤ R.locals)
    (hb : ∃ cell : Cell, H[b]? = some cell ∧ cell.vm.isStatics = false ∧ s.vm.findClass C = some cell.cls) (hbl : ∀ av : List Value, FrameBlind (va_Pc av P9)) (hp9 : ∀ U : State, U.heap = H → s.WarmedH U.vm → P9 U)
    (hn : As.length = n) (hsize : ls.size = nL) (hW : (rest.map fun v => v.category).sum ≤ 8) (hdg : decode cc pc = .ok (.invokevirtual index, 3)) (hf : cells + mc ≤ R.cells ∧ slots + ms ≤ R.slots) :
    vx_Run p l e R s m args below meth c H locs cells slots mc ms (F0 m pc ls (As.reverse ++ .ref b :: rest)) rest (Qc (Value.ref b :: As).toArray) XC (xA E) :=
  vx_runV S hM ⟨x_callB S n hc.1.1 hc.1.2.2.2 hl hrc hrs hc.2 hR, S.2.2.2.2 _ (List.mem_cons_of_mem _ hc.1.2.1), S.2.2.2.2 _ (List.mem_cons_of_mem _ hc.1.2.2.1)⟩ ⟨hbl _, hb, fun U hU hW => ⟨rfl, hp9 U hU hW⟩⟩ rfl hn hsize rfl (lv_room hW) hdg hf
abbrev xwH (y : MethodName) (b : ByteArray) (n : Nat) (r : Option FieldType) (hh : List (Nat × Nat × Nat × Nat)) : List Cond := Cond.codeWith y b n r hh :: GT
def xcH (y : MethodName) (bytes : ByteArray) (maxL : Nat) (ret : Option FieldType) (hh : List (Nat × Nat × Nat × Nat)) (n : Nat) : Prop := (Cond.codeWith y bytes maxL ret hh ∈ GT ∧ Cond.static y ∈ GT ∧ Cond.initialized y.cls ∈ GT) ∧ y.cls ≠ "java/lang/invoke/MethodHandle" ∧ y.cls ≠ "java/lang/invoke/VarHandle" ∧ (parseMethodDescriptor y.desc).map (fun d => d.parameters.length) = some n
theorem x_runL (S : CallFix p m c cc nL s args (w0 :: GT) own) (hM : Met l y (xwH y bytes maxL ret hh) rm (va_Pc As P9) Qc mc ms (xA E)) (hc : xcH y bytes maxL ret hh n) (hl : Cond.methodLink own index y ∈ GT) (hrc : rm.cells = mc) (hrs : rm.slots = ms) (hR : rm.frames + 1 ≤ R.frames ∧ 8 + (maxL + 11) + rm.locals ≤ R.locals)
    (hbl : ∀ av : List Value, FrameBlind (va_Pc av P9)) (hp9 : ∀ U : State, U.heap = H → s.WarmedH U.vm → P9 U)
    (hn : As.length = n) (hsize : ls.size = nL) (hW : (rest.map fun v => v.category).sum ≤ 8) (hdg : decode cc pc = .ok (.invokestatic index, 3)) (hf : cells + mc ≤ R.cells ∧ slots + ms ≤ R.slots) :
    va_Run p l e R s m args below meth c H locs cells slots mc ms (F0 m pc ls (As.reverse ++ rest)) rest (Qc As.toArray) (xA E) := by
  have hG : GoodIn (w0 :: GT) (xwH y bytes maxL ret hh) := fun w hw => by
    rcases List.mem_cons.mp hw with e9 | e9
    · subst e9; exact ⟨List.mem_cons_of_mem _ hc.1.1, GT_good hc.1.1⟩
    · exact ⟨List.mem_cons_of_mem _ e9, GT_good e9⟩
  refine vx_runSW (hh := hh) (bytes := bytes) (maxL := maxL) (ret := ret) (n := n) S hM ⟨⟨hrc, hrs, hR.1, hR.2, pay_in S.2.2.2.2 hG, List.mem_cons_self⟩, S.2.2.2.2 _ (List.mem_cons_of_mem _ hc.1.1), S.2.2.2.2 _ (List.mem_cons_of_mem _ hc.1.2.2), ⟨hc.2.1, hc.2.2.1⟩, fun sig h => ?_, S.2.2.2.2 _ (List.mem_cons_of_mem _ hl), S.2.2.2.2 _ (List.mem_cons_of_mem _ hc.1.2.1)⟩ ⟨hbl _, fun U hU hW => ⟨rfl, hp9 U hU hW⟩⟩ rfl hn hsize rfl (lv_room hW) hdg hf
  have h2 := hc.2.2.2
  rw [h] at h2
  exact (Option.some.inj h2).symm
theorem x_enterH {av : List Value} {P : State → Prop} {free : Addr → Prop} (hy : plainName y.cls = true) (hlen : (lg_sl av).length ≤ maxL)
    (body : ∀ (p : Program) (e : Env) (s : State) (m : MethodId) (args : Array Value) (below : List Frame) (meth : Method) (c : Code) (Q : State → Prop), CallFix p m c bytes maxL s args (xwH y bytes maxL ret hh) y.cls → meth.sig.returnType = ret → meth.locks = false → c.exceptionTable.toList = tableOf hh → Q = MQ below Qc args s mc ms free → P s → ∀ ls : Array Slot, lv_has ls maxL (lv_args 0 av) → W p l e rm s m args below meth c s.heap [] 0 0 Q (F0 m 0 ls [])) : Met l y (xwH y bytes maxL ret hh) rm (va_Pc av P) Qc mc ms free := by
  refine va_MetW (cc := bytes) (maxL := maxL) (ret := ret) (hh := hh) hy rfl ?_
  intro p e s m args below meth c s₁ B hml hv
  obtain ⟨rfl, hP⟩ := hv
  have hl := lv_entry av (n := maxL) hlen
  rw [lg_entry_eq]
  have hw := atoms_spec (ws := xwH y bytes maxL ret hh) B.pre
  exact body p e s m _ below meth c _ ⟨B.exec, B.bytes, hml, findClass_of_methodNamed B.named, hw⟩ B.returns B.notSynchronized (vx_table (x := y) B (hw _ List.mem_cons_self)) rfl hP _ hl
theorem updL0 (f : Nat → Int64) (x : Int64) : vp_updL f (Int32.toNatClampNeg 0) x 0 = x := by
  unfold vp_updL
  rw [if_pos (by decide)]
theorem as_14 {a : Nat} {H0 : Heap} (S : CallFix p m c cc nL s args (w0 :: GT) own) (hK : XK E s) (hT : TW E K F G H) (hS : va_S (xA E) H0 H locs) (ha : K a = 14) {x : Int64} (hdg : decode cc pc = .ok (.lastore, 1)) (kk : ∀ (K1 : Nat → Nat) (G1 : XG) (H1 : Heap) (locs1 : List Loc), KE K K1 → K1 a = 14 → XFr [] [] [] G G1 → G1.2.2.2 0 = x → TW E K1 F G1 H1 → va_S (xA E) H0 H1 locs1 → W p l e R s m args below meth c H1 locs1 cells slots Q (F0 m (pc + 1) ls rest)) : W p l e R s m args below meth c H locs cells slots Q (F0 m pc ls (.long x :: .int 0 :: .ref a :: rest)) := by
  obtain ⟨K1, h1, h2, h3, hT⟩ := hT.n14 ha
  obtain ⟨ws, i9, e9, hw, hP, hD, he, hs⟩ := hT.at h2 (by decide)
  have hs : e9 = .inl (E.2.1 6, 1, .inr (.inl G.2.2.2)) := hs
  subst hs
  exact va_last S.1 S.2.1 hK.1 hP hD hS i9 6 he rfl (vp_in_iff.mpr ⟨by decide, by decide⟩) hdg (fun H1 locs1 hP1 hD1 hS1 => kk K1 (G.1, G.2.1, G.2.2.1, vp_updL G.2.2.2 (Int32.toNatClampNeg 0) x) H1 locs1 h1 h2 ⟨fun _ _ _ => rfl, fun _ _ => rfl, fun _ _ => rfl⟩ (updL0 G.2.2.2 x) ⟨_, hw.set he (by rw [h2]; decide) (fun b hb => ⟨rfl, rfl, rfl, fun h => absurd (h3 b h) hb⟩) (by rw [h2]; exact rfl), hP1, hD1⟩ hS1)
theorem al_14 {a : Nat} {H0 : Heap} {x : Int64} (S : CallFix p m c cc nL s args (w0 :: GT) own) (hK : XK E s) (hT : TW E K F G H) (hS : va_S (xA E) H0 H locs) (ha : K a = 14) (hv : G.2.2.2 0 = x) (hdg : decode cc pc = .ok (.laload, 1)) (kk : W p l e R s m args below meth c H locs cells slots Q (F0 m (pc + 1) ls (.long x :: rest))) : W p l e R s m args below meth c H locs cells slots Q (F0 m pc ls (.int 0 :: .ref a :: rest)) := by
  obtain ⟨ws, i9, e9, hw, hP, hD, he, hs⟩ := hT.at ha (by decide)
  have hs : e9 = .inl (E.2.1 6, 1, .inr (.inl G.2.2.2)) := hs
  subst hs
  subst hv
  exact va_lald S.1 S.2.1 hK.1 hP i9 6 he rfl (vp_in_iff.mpr ⟨by decide, by decide⟩) hdg kk
theorem lv_lcmp_eq (hexec : p.tables.exec = Jvm.exec) (hb : c.code = cc) {x : Int64} (hdg : decode cc pc = .ok (.lcmp, 1)) (k : W p l e R s m args below meth c H locs cells slots Q (F0 m (pc + 1) ls (.int 0 :: rest))) : W p l e R s m args below meth c H locs cells slots Q (F0 m pc ls (.long x :: .long x :: rest)) := by
  intro T hT X
  obtain ⟨t, a, b⟩ := k T hT X
  refine ⟨t, ?_, b⟩
  have h1 : ¬ (x > x) := Int64.lt_irrefl
  jvm_step X.here [X.here.top, hexec, hb, hdg, h1]
  exact a
end NXT
end
theorem v_X10_value_6_1 {F : Nat → Nat → Nat} (a : Nat) (G : XG)
    (ron : RO (vw (G.2.1 (F (F a 3) 0))) (aI (G.2.1 (F (F a 3) 1)))) :
    RO (vw (G.2.1 (F (F a 3) 0))) (aI (G.2.1 (F (F a 3) 1))) := by exact ron
theorem z_X10_value_1 (a0 : Int) (a1 : Int) (a2 : Int) (h0 : (a1 = 1 ∧ a2 ≠ -2000) ∨ (a1 = 0 ∧ a2 = -2000)) (h1 : a1 = 0) : a2 = -2000 ∨ a0 < 0 ∨ 3 ≤ a0 := by omega
theorem z_X10_value_2 (a0 : Int) (a1 : Int) (a2 : Int) (a3 : Int) (a4 : Int) (h0 : (a2 = 1 ∧ a4 ≠ -2000) ∨ (a2 = 0 ∧ a4 = -2000)) (h1 : ¬ (a2 = 0)) (h2 : (a1 = 1 ∧ 0 ≤ a0 ∧ a0 < 3) ∨ (a1 = 0 ∧ (a0 < 0 ∨ 3 ≤ a0))) (h3 : a1 ≠ 0) : a3 = a3 ∧ a4 ≠ -2000 ∧ 0 ≤ a0 ∧ a0 < 3 := by omega
theorem z_X10_value_3 (a0 : Int) (a1 : Int) (a2 : Int) (h0 : (a1 = 1 ∧ 0 ≤ a0 ∧ a0 < 3) ∨ (a1 = 0 ∧ (a0 < 0 ∨ 3 ≤ a0))) (h1 : ¬ (a1 ≠ 0)) : a2 = -2000 ∨ a0 < 0 ∨ 3 ≤ a0 := by omega
abbrev rm_X10_value : Room := { frames := 6, cells := 1, slots := 6, locals := 100 }
set_option maxHeartbeats 4000000 in
set_option maxRecDepth 100000 in
theorem c_X10_value (l : Launch) (E : XE) (K : Nat → Nat) (F : Nat → Nat → Nat) (hst : l.stackTraces = false) (G : XG) (a : Nat) (p0 : Int32) (p1 : Int32) (p2 : Int32) (ha : K a = 12) (ron : RO (vw (G.2.1 (F (F a 3) 0))) (aI (G.2.1 (F (F a 3) 1)))) : vx_Met l yX10_value (xw yX10_value cX10_value 4 (some .int)) rm_X10_value (va_Pc [.ref a, .int p0, .int p1, .int p2] (XPn E K F G)) (XQ E (fun v (u : XG) => ∃ r : Int32, v = .int r ∧ XFr [] [] [] G u ∧ (r.toInt = (cel (vw (G.2.1 (F (F a 3) 0))) (p0.toInt) (p1.toInt) (p2.toInt)) ∧ (cel (vw (G.2.1 (F (F a 3) 0))) (p0.toInt) (p1.toInt) 0) ≠ -2000 ∧ 0 ≤ p2.toInt ∧ p2.toInt < 3)) (fun u H => TW E K F u H)) (XCn ((cel (vw (G.2.1 (F (F a 3) 0))) (p0.toInt) (p1.toInt) 0) = -2000 ∨ p2.toInt < 0 ∨ 3 ≤ p2.toInt) E K F G) 1 6 (xA E) := by
  refine x_enterX (by decide) (Nat.le_of_ble_eq_true rfl) ?_
  intro p e s m args below meth c Q S hr hlk hex hQ hP ls hl
  obtain ⟨⟨hz, hK, hT⟩, hD9⟩ := hP
  obtain ⟨hx, hb, -, -, -⟩ := id S
  obtain ⟨H, hT, hS, hgo⟩ : ∃ H : Heap, TW E K F G H ∧ va_S (xA E) s.heap H [] ∧ H = s.heap := ⟨_, hT, va_S.rf, rfl⟩
  rw [← hgo]
  have hl : lv_has ls 4 [(0, .ref a), (1, .int p0), (2, .int p1), (3, .int p2)] := hl
  obtain ⟨hk9999, hj9999⟩ := fkX10_3 hT ha
  obtain ⟨hk9999a, hj9999a⟩ := fkX6_0 hT hk9999
  have hj9999b : F (F (F a 3) 0) 99 = 0 := by rw [hj9999a, hj9999]
  obtain ⟨hk9999b, hj9999c⟩ := fkX6_1 hT hk9999
  have hj9999d : F (F (F a 3) 1) 99 = 0 := by rw [hj9999c, hj9999]
  refine lv_aload_n hx hb dX10_value_0 rfl (lv_at hl 0 rfl) ?_
  refine gX10_3 S hK hT ha kf_X10_37 dX10_value_1 (fun _ _ => ?_)
  refine lv_iload_n hx hb dX10_value_4 rfl (lv_at hl 1 rfl) ?_
  refine lv_iload_n hx hb dX10_value_5 rfl (lv_at hl 2 rfl) ?_
  refine x_clp (x_runV (b := (F a 3)) (As := [.int p0, .int p1]) (rest := []) S (c_X6_has l E K F G H (F a 3) p0 p1 hk9999 (v_X10_value_6_1 (F := F) a G ron)) mv_X6_has km_X10_191 rfl rfl ⟨Nat.le_of_ble_eq_true rfl, Nat.le_of_ble_eq_true rfl⟩ (rc_8 hK hT hk9999) hK (fun _ => XPh.blind) (fun U hU hW => XPh.at hK hz hS hT hU hW) rfl hl.1 (Nat.le_of_ble_eq_true rfl) dX10_value_6 ⟨Nat.le_of_ble_eq_true rfl, Nat.le_of_ble_eq_true rfl⟩) hS ?_
  rintro _ _ locs ⟨x6, rfl, b6, t6⟩ hS
  have t6 : (x6.toInt = 1 ∧ (cel (vw (G.2.1 (F (F a 3) 0))) (p0.toInt) (p1.toInt) 0) ≠ -2000) ∨ (x6.toInt = 0 ∧ (cel (vw (G.2.1 (F (F a 3) 0))) (p0.toInt) (p1.toInt) 0) = -2000) := t6
  refine xi_zeq (tgt := 19) hx hb (rfl : Int32.toInt x6 = x6.toInt) dX10_value_9 (by decide) (fun c9 => ?_) (fun c9 => ?_)
  · rw [hQ]
    exact nx_throw S (z_X10_value_1 p2.toInt x6.toInt (cel (vw (G.2.1 (F (F a 3) 0))) (p0.toInt) (p1.toInt) 0) t6 c9) hst hD9 hK hT hS (hK.2.2.1 11 ("LateRules", 260, "no such row or column") rfl) hl.1 dX10_value_19 dX10_value_22 dX10_value_23 dX10_value_26 dX10_value_29 hex (Nat.le_of_ble_eq_true rfl) (Nat.le_of_ble_eq_true rfl) (Nat.le_of_ble_eq_true rfl) (Nat.le_of_ble_eq_true rfl) hlk (Nat.le_of_ble_eq_true rfl) (Nat.le_of_ble_eq_true rfl)
  · refine lv_iload_n hx hb dX10_value_12 rfl (lv_at hl 3 rfl) ?_
    refine x_clp (x_runS (As := [.int p2]) (rest := []) S (c_X10_isColumn l E K F G H p2) ms_X10_isColumn km_X10_255 rfl rfl ⟨Nat.le_of_ble_eq_true rfl, Nat.le_of_ble_eq_true rfl⟩ hK (fun _ => XPh.blind) (fun U hU hW => XPh.at hK hz hS hT hU hW) rfl hl.1 (Nat.le_of_ble_eq_true rfl) dX10_value_13 ⟨Nat.le_of_ble_eq_true rfl, Nat.le_of_ble_eq_true rfl⟩) hS ?_
    rintro _ _ locs ⟨x13, rfl, b13, t13⟩ hS
    have t13 : (x13.toInt = 1 ∧ 0 ≤ p2.toInt ∧ p2.toInt < 3) ∨ (x13.toInt = 0 ∧ (p2.toInt < 0 ∨ 3 ≤ p2.toInt)) := t13
    refine xi_zne (tgt := 30) hx hb (rfl : Int32.toInt x13 = x13.toInt) dX10_value_16 (by decide) (fun c16 => ?_) (fun c16 => ?_)
    · refine lv_aload_n hx hb dX10_value_30 rfl (lv_at hl 0 rfl) ?_
      refine gX10_3 S hK hT ha kf_X10_37 dX10_value_31 (fun _ _ => ?_)
      refine lv_iload_n hx hb dX10_value_34 rfl (lv_at hl 1 rfl) ?_
      refine lv_iload_n hx hb dX10_value_35 rfl (lv_at hl 2 rfl) ?_
      refine lv_iload_n hx hb dX10_value_36 rfl (lv_at hl 3 rfl) ?_
      refine x_clp (x_runV (b := (F a 3)) (As := [.int p0, .int p1, .int p2]) (rest := []) S (c_X6_cell l E K F G H (F a 3) p0 p1 p2 hk9999) mv_X6_cell km_X10_265 rfl rfl ⟨Nat.le_of_ble_eq_true rfl, Nat.le_of_ble_eq_true rfl⟩ (rc_8 hK hT hk9999) hK (fun _ => XPh.blind) (fun U hU hW => XPh.at hK hz hS hT hU hW) rfl hl.1 (Nat.le_of_ble_eq_true rfl) dX10_value_37 ⟨Nat.le_of_ble_eq_true rfl, Nat.le_of_ble_eq_true rfl⟩) hS ?_
      rintro _ _ locs ⟨x37, rfl, t37⟩ hS
      have t37 : x37.toInt = (cel (vw (G.2.1 (F (F a 3) 0))) (p0.toInt) (p1.toInt) (p2.toInt)) := t37
      exact x_riX hx hb hr hlk hQ (Nat.le_of_ble_eq_true rfl) (Nat.le_of_ble_eq_true rfl) hS dX10_value_40 G ⟨_, rfl, XFr.rf, (by rw [(t37 : Int32.toInt x37 = (cel (vw (G.2.1 (F (F a 3) 0))) (p0.toInt) (p1.toInt) (p2.toInt)))] <;> exact (z_X10_value_2 p2.toInt x13.toInt x6.toInt (cel (vw (G.2.1 (F (F a 3) 0))) (p0.toInt) (p1.toInt) (p2.toInt)) (cel (vw (G.2.1 (F (F a 3) 0))) (p0.toInt) (p1.toInt) 0) t6 c9 t13 c16))⟩ hT
    · rw [hQ]
      exact nx_throw S (z_X10_value_3 p2.toInt x13.toInt (cel (vw (G.2.1 (F (F a 3) 0))) (p0.toInt) (p1.toInt) 0) t13 c16) hst hD9 hK hT hS (hK.2.2.1 11 ("LateRules", 260, "no such row or column") rfl) hl.1 dX10_value_19 dX10_value_22 dX10_value_23 dX10_value_26 dX10_value_29 hex (Nat.le_of_ble_eq_true rfl) (Nat.le_of_ble_eq_true rfl) (Nat.le_of_ble_eq_true rfl) (Nat.le_of_ble_eq_true rfl) hlk (Nat.le_of_ble_eq_true rfl) (Nat.le_of_ble_eq_true rfl)

theorem z_X10_queue_1 (a0 : Int) (a1 : Int) (h0 : a0 < 0) : a0 < 0 ∨ a1 ≤ a0 := by omega
theorem z_X10_queue_2 (a0 : Int) : (a0 < 0 ∨ 4 < a0) ∨ (a0 = 0) ∨ (a0 = 1) ∨ (a0 = 2) ∨ (a0 = 3) ∨ (a0 = 4) := by omega
theorem z_X10_queue_3 (a0 : Int) (a1 : Int) (a2 : Int) (a3 : Int) (a4 : Int) (a5 : Int) (a6 : Int) (a7 : Int) (h0 : ¬ (a0 < 0)) (h1 : a0 < a2) (h2 : a1 < 0 ∨ 4 < a1) : (0 ≤ a0 ∧ a0 < a2) ∧ ((a1 = 0 ∧ (-2147483648 : Int) = a3) ∨ (a1 = 1 ∧ (-2147483648 : Int) = a4) ∨ (a1 = 2 ∧ (-2147483648 : Int) = a5) ∨ (a1 = 3 ∧ (-2147483648 : Int) = a6) ∨ (a1 = 4 ∧ (-2147483648 : Int) = a7) ∨ ((a1 < 0 ∨ 4 < a1) ∧ (-2147483648 : Int) = -2147483648)) := by omega
theorem z_X10_queue_4 (a0 : Int) (a1 : Int) (a2 : Int) (a3 : Int) (a4 : Int) (a5 : Int) (a6 : Int) (a7 : Int) (a8 : Int) (h0 : 0 ≤ a3 ∧ a3 ≤ 1080) (h1 : ¬ (a0 < 0)) (h2 : a0 < a3) (h3 : a1 = 0) (h4 : ((0 ≤ a0 ∧ a0 < a3 ∧ a0 < 1080) ∧ a2 = a4) ∨ (¬ (0 ≤ a0 ∧ a0 < a3 ∧ a0 < 1080) ∧ a2 = -1)) : (0 ≤ a0 ∧ a0 < a3) ∧ ((a1 = 0 ∧ a2 = a4) ∨ (a1 = 1 ∧ a2 = a5) ∨ (a1 = 2 ∧ a2 = a6) ∨ (a1 = 3 ∧ a2 = a7) ∨ (a1 = 4 ∧ a2 = a8) ∨ ((a1 < 0 ∨ 4 < a1) ∧ a2 = -2147483648)) := by omega
theorem z_X10_queue_5 (a0 : Int) (a1 : Int) (a2 : Int) (a3 : Int) (a4 : Int) (a5 : Int) (a6 : Int) (a7 : Int) (a8 : Int) (h0 : 0 ≤ a3 ∧ a3 ≤ 1080) (h1 : ¬ (a0 < 0)) (h2 : a0 < a3) (h3 : a1 = 1) (h4 : ((0 ≤ a0 ∧ a0 < a3 ∧ a0 < 1080) ∧ a2 = a5) ∨ (¬ (0 ≤ a0 ∧ a0 < a3 ∧ a0 < 1080) ∧ a2 = -1)) : (0 ≤ a0 ∧ a0 < a3) ∧ ((a1 = 0 ∧ a2 = a4) ∨ (a1 = 1 ∧ a2 = a5) ∨ (a1 = 2 ∧ a2 = a6) ∨ (a1 = 3 ∧ a2 = a7) ∨ (a1 = 4 ∧ a2 = a8) ∨ ((a1 < 0 ∨ 4 < a1) ∧ a2 = -2147483648)) := by omega
theorem z_X10_queue_6 (a0 : Int) (a1 : Int) (a2 : Int) (a3 : Int) (a4 : Int) (a5 : Int) (a6 : Int) (a7 : Int) (a8 : Int) (h0 : 0 ≤ a3 ∧ a3 ≤ 1080) (h1 : ¬ (a0 < 0)) (h2 : a0 < a3) (h3 : a1 = 2) (h4 : ((0 ≤ a0 ∧ a0 < a3 ∧ a0 < 1080) ∧ a2 = a6) ∨ (¬ (0 ≤ a0 ∧ a0 < a3 ∧ a0 < 1080) ∧ a2 = -2000)) : (0 ≤ a0 ∧ a0 < a3) ∧ ((a1 = 0 ∧ a2 = a4) ∨ (a1 = 1 ∧ a2 = a5) ∨ (a1 = 2 ∧ a2 = a6) ∨ (a1 = 3 ∧ a2 = a7) ∨ (a1 = 4 ∧ a2 = a8) ∨ ((a1 < 0 ∨ 4 < a1) ∧ a2 = -2147483648)) := by omega
theorem z_X10_queue_7 (a0 : Int) (a1 : Int) (a2 : Int) (a3 : Int) (a4 : Int) (a5 : Int) (a6 : Int) (a7 : Int) (a8 : Int) (h0 : 0 ≤ a3 ∧ a3 ≤ 1080) (h1 : ¬ (a0 < 0)) (h2 : a0 < a3) (h3 : a1 = 3) (h4 : ((0 ≤ a0 ∧ a0 < a3 ∧ a0 < 1080) ∧ a2 = a7) ∨ (¬ (0 ≤ a0 ∧ a0 < a3 ∧ a0 < 1080) ∧ a2 = -2000)) : (0 ≤ a0 ∧ a0 < a3) ∧ ((a1 = 0 ∧ a2 = a4) ∨ (a1 = 1 ∧ a2 = a5) ∨ (a1 = 2 ∧ a2 = a6) ∨ (a1 = 3 ∧ a2 = a7) ∨ (a1 = 4 ∧ a2 = a8) ∨ ((a1 < 0 ∨ 4 < a1) ∧ a2 = -2147483648)) := by omega
theorem z_X10_queue_8 (a0 : Int) (a1 : Int) (a2 : Int) (a3 : Int) (a4 : Int) (a5 : Int) (a6 : Int) (a7 : Int) (a8 : Int) (h0 : 0 ≤ a3 ∧ a3 ≤ 1080) (h1 : ¬ (a0 < 0)) (h2 : a0 < a3) (h3 : a1 = 4) (h4 : ((0 ≤ a0 ∧ a0 < a3 ∧ a0 < 1080) ∧ a2 = a8) ∨ (¬ (0 ≤ a0 ∧ a0 < a3 ∧ a0 < 1080) ∧ a2 = 0)) (h5 : a2 = 0) : (0 ≤ a0 ∧ a0 < a3) ∧ ((a1 = 0 ∧ (0 : Int) = a4) ∨ (a1 = 1 ∧ (0 : Int) = a5) ∨ (a1 = 2 ∧ (0 : Int) = a6) ∨ (a1 = 3 ∧ (0 : Int) = a7) ∨ (a1 = 4 ∧ (0 : Int) = a8) ∨ ((a1 < 0 ∨ 4 < a1) ∧ (0 : Int) = -2147483648)) := by omega
theorem z_X10_queue_9 (a0 : Int) (a1 : Int) (a2 : Int) (a3 : Int) (a4 : Int) (a5 : Int) (a6 : Int) (a7 : Int) (a8 : Int) (h0 : a1 = 4) (h1 : ((0 ≤ a0 ∧ a0 < a3 ∧ a0 < 1080) ∧ a2 = a8) ∨ (¬ (0 ≤ a0 ∧ a0 < a3 ∧ a0 < 1080) ∧ a2 = 0)) (h2 : a2 = 0 ∨ a2 = 1) (h3 : ¬ (a2 = 0)) : (0 ≤ a0 ∧ a0 < a3) ∧ ((a1 = 0 ∧ (1 : Int) = a4) ∨ (a1 = 1 ∧ (1 : Int) = a5) ∨ (a1 = 2 ∧ (1 : Int) = a6) ∨ (a1 = 3 ∧ (1 : Int) = a7) ∨ (a1 = 4 ∧ (1 : Int) = a8) ∨ ((a1 < 0 ∨ 4 < a1) ∧ (1 : Int) = -2147483648)) := by omega
theorem z_X10_queue_10 (a0 : Int) (a1 : Int) (h0 : ¬ (a0 < a1)) : a0 < 0 ∨ a1 ≤ a0 := by omega
abbrev rm_X10_queue : Room := { frames := 6, cells := 1, slots := 6, locals := 100 }
set_option maxHeartbeats 4000000 in
set_option maxRecDepth 100000 in
theorem c_X10_queue (l : Launch) (E : XE) (K : Nat → Nat) (F : Nat → Nat → Nat) (hst : l.stackTraces = false) (G : XG) (a : Nat) (p0 : Int32) (p1 : Int32) (ha : K a = 12) (sw : 0 ≤ ((G.1 (F a 8) 6).toInt) ∧ ((G.1 (F a 8) 6).toInt) ≤ 1080) : vx_Met l yX10_queue (xw yX10_queue cX10_queue 3 (some .int)) rm_X10_queue (va_Pc [.ref a, .int p0, .int p1] (XPn E K F G)) (XQ E (fun v (u : XG) => ∃ r : Int32, v = .int r ∧ XFr [] [] [] G u ∧ ((0 ≤ p0.toInt ∧ p0.toInt < ((G.1 (F a 8) 6).toInt)) ∧ ((p1.toInt = 0 ∧ r.toInt = (aI (G.2.1 (F (F a 8) 0)) (p0.toInt))) ∨ (p1.toInt = 1 ∧ r.toInt = (aI (G.2.1 (F (F a 8) 1)) (p0.toInt))) ∨ (p1.toInt = 2 ∧ r.toInt = (aI (G.2.1 (F (F a 8) 2)) (p0.toInt))) ∨ (p1.toInt = 3 ∧ r.toInt = (aI (G.2.1 (F (F a 8) 3)) (p0.toInt))) ∨ (p1.toInt = 4 ∧ r.toInt = (aI (G.2.1 (F (F a 8) 5)) (p0.toInt))) ∨ ((p1.toInt < 0 ∨ 4 < p1.toInt) ∧ r.toInt = -2147483648)))) (fun u H => TW E K F u H)) (XCn (p0.toInt < 0 ∨ ((G.1 (F a 8) 6).toInt) ≤ p0.toInt) E K F G) 1 6 (xA E) := by
  refine x_enterX (by decide) (Nat.le_of_ble_eq_true rfl) ?_
  intro p e s m args below meth c Q S hr hlk hex hQ hP ls hl
  obtain ⟨⟨hz, hK, hT⟩, hD9⟩ := hP
  obtain ⟨hx, hb, -, -, -⟩ := id S
  obtain ⟨H, hT, hS, hgo⟩ : ∃ H : Heap, TW E K F G H ∧ va_S (xA E) s.heap H [] ∧ H = s.heap := ⟨_, hT, va_S.rf, rfl⟩
  rw [← hgo]
  have hl : lv_has ls 3 [(0, .ref a), (1, .int p0), (2, .int p1)] := hl
  obtain ⟨hk9999, hj9999⟩ := fkX10_8 hT ha
  obtain ⟨hk9999a, hj9999a⟩ := fkX4_0 hT hk9999
  have hj9999b : F (F (F a 8) 0) 99 = 10 * 0 + 0 := by rw [hj9999a, hj9999]
  obtain ⟨hk9999b, hj9999c⟩ := fkX4_1 hT hk9999
  have hj9999d : F (F (F a 8) 1) 99 = 10 * 0 + 1 := by rw [hj9999c, hj9999]
  obtain ⟨hk9999c, hj9999e⟩ := fkX4_2 hT hk9999
  have hj9999f : F (F (F a 8) 2) 99 = 10 * 0 + 2 := by rw [hj9999e, hj9999]
  obtain ⟨hk9999d, hj9999g⟩ := fkX4_3 hT hk9999
  have hj9999h : F (F (F a 8) 3) 99 = 10 * 0 + 3 := by rw [hj9999g, hj9999]
  obtain ⟨hk9999e, hj9999i⟩ := fkX4_5 hT hk9999
  have hj9999j : F (F (F a 8) 5) 99 = 10 * 0 + 5 := by rw [hj9999i, hj9999]
  refine lv_iload_n hx hb dX10_queue_0 rfl (lv_at hl 1 rfl) ?_
  refine xi_zlt (tgt := 15) hx hb (rfl : Int32.toInt p0 = p0.toInt) dX10_queue_1 (by decide) (fun c1 => ?_) (fun c1 => ?_)
  · rw [hQ]
    exact nx_throw S (z_X10_queue_1 p0.toInt ((G.1 (F a 8) 6).toInt) c1) hst hD9 hK hT hS (hK.2.2.1 12 ("LateRules", 299, "no such question in the queue") rfl) hl.1 dX10_queue_15 dX10_queue_18 dX10_queue_19 dX10_queue_22 dX10_queue_25 hex (Nat.le_of_ble_eq_true rfl) (Nat.le_of_ble_eq_true rfl) (Nat.le_of_ble_eq_true rfl) (Nat.le_of_ble_eq_true rfl) hlk (Nat.le_of_ble_eq_true rfl) (Nat.le_of_ble_eq_true rfl)
  · refine lv_iload_n hx hb dX10_queue_4 rfl (lv_at hl 1 rfl) ?_
    refine lv_aload_n hx hb dX10_queue_5 rfl (lv_at hl 0 rfl) ?_
    refine gX10_8 S hK hT ha kf_X10_57 dX10_queue_6 (fun _ _ => ?_)
    refine x_clp (x_runV (b := (F a 8)) (As := []) (rest := [.int p0]) S (c_X4_size l E K F G H (F a 8) hk9999) mv_X4_size km_X10_232 rfl rfl ⟨Nat.le_of_ble_eq_true rfl, Nat.le_of_ble_eq_true rfl⟩ (rc_6 hK hT hk9999) hK (fun _ => XPh.blind) (fun U hU hW => XPh.at hK hz hS hT hU hW) rfl hl.1 (Nat.le_of_ble_eq_true rfl) dX10_queue_9 ⟨Nat.le_of_ble_eq_true rfl, Nat.le_of_ble_eq_true rfl⟩) hS ?_
    rintro _ _ locs ⟨x9, rfl, t9⟩ hS
    have t9 : x9.toInt = ((G.1 (F a 8) 6).toInt) := t9
    refine xi_clt (tgt := 26) hx hb (rfl : Int32.toInt p0 = p0.toInt) (t9 : Int32.toInt x9 = ((G.1 (F a 8) 6).toInt)) dX10_queue_12 (by decide) (fun c12 => ?_) (fun c12 => ?_)
    · refine lv_iload_n hx hb dX10_queue_26 rfl (lv_at hl 2 rfl) ?_
      rcases ((z_X10_queue_2 p1.toInt) : (p1.toInt < 0 ∨ 4 < p1.toInt) ∨ (p1.toInt = 0) ∨ (p1.toInt = 1) ∨ (p1.toInt = 2) ∨ (p1.toInt = 3) ∨ (p1.toInt = 4)) with c27 | c27 | c27 | c27 | c27 | c27
      · refine lv_tableOut (tgt := 113) hx hb dX10_queue_27 c27 (by decide) ?_
        refine lv_ldcw (v := (-2147483648)) hx hb S.2.2.2.1 (S.2.2.2.2 _ (List.mem_cons_of_mem _ kc_X10_274)) dX10_queue_113 ?_
        exact x_riX hx hb hr hlk hQ (Nat.le_of_ble_eq_true rfl) (Nat.le_of_ble_eq_true rfl) hS dX10_queue_116 G ⟨_, rfl, XFr.rf, (by rw [((by decide) : Int32.toInt (-2147483648) = (-2147483648 : Int))] <;> exact (z_X10_queue_3 p0.toInt p1.toInt ((G.1 (F a 8) 6).toInt) (aI (G.2.1 (F (F a 8) 0)) (p0.toInt)) (aI (G.2.1 (F (F a 8) 1)) (p0.toInt)) (aI (G.2.1 (F (F a 8) 2)) (p0.toInt)) (aI (G.2.1 (F (F a 8) 3)) (p0.toInt)) (aI (G.2.1 (F (F a 8) 5)) (p0.toInt)) c1 c12 c27))⟩ hT
      · refine lv_tableIn (off := 33) (tgt := 60) hx hb dX10_queue_27 (by rw [c27]; decide) (by rw [c27]; decide) (by rw [c27]; rfl) (by decide) ?_
        refine lv_aload_n hx hb dX10_queue_60 rfl (lv_at hl 0 rfl) ?_
        refine gX10_8 S hK hT ha kf_X10_57 dX10_queue_61 (fun _ _ => ?_)
        refine lv_iload_n hx hb dX10_queue_64 rfl (lv_at hl 1 rfl) ?_
        refine x_clp (x_runV (b := (F a 8)) (As := [.int p0]) (rest := []) S (c_X4_number l E K F G H (F a 8) p0 hk9999) mv_X4_number km_X10_301 rfl rfl ⟨Nat.le_of_ble_eq_true rfl, Nat.le_of_ble_eq_true rfl⟩ (rc_6 hK hT hk9999) hK (fun _ => XPh.blind) (fun U hU hW => XPh.at hK hz hS hT hU hW) rfl hl.1 (Nat.le_of_ble_eq_true rfl) dX10_queue_65 ⟨Nat.le_of_ble_eq_true rfl, Nat.le_of_ble_eq_true rfl⟩) hS ?_
        rintro _ _ locs ⟨x65, rfl, t65⟩ hS
        have t65 : ((0 ≤ p0.toInt ∧ p0.toInt < ((G.1 (F a 8) 6).toInt) ∧ p0.toInt < 1080) ∧ x65.toInt = (aI (G.2.1 (F (F a 8) 0)) (p0.toInt))) ∨ (¬ (0 ≤ p0.toInt ∧ p0.toInt < ((G.1 (F a 8) 6).toInt) ∧ p0.toInt < 1080) ∧ x65.toInt = -1) := t65
        exact x_riX hx hb hr hlk hQ (Nat.le_of_ble_eq_true rfl) (Nat.le_of_ble_eq_true rfl) hS dX10_queue_68 G ⟨_, rfl, XFr.rf, (z_X10_queue_4 p0.toInt p1.toInt x65.toInt ((G.1 (F a 8) 6).toInt) (aI (G.2.1 (F (F a 8) 0)) (p0.toInt)) (aI (G.2.1 (F (F a 8) 1)) (p0.toInt)) (aI (G.2.1 (F (F a 8) 2)) (p0.toInt)) (aI (G.2.1 (F (F a 8) 3)) (p0.toInt)) (aI (G.2.1 (F (F a 8) 5)) (p0.toInt)) sw c1 c12 c27 t65)⟩ hT
      · refine lv_tableIn (off := 42) (tgt := 69) hx hb dX10_queue_27 (by rw [c27]; decide) (by rw [c27]; decide) (by rw [c27]; rfl) (by decide) ?_
        refine lv_aload_n hx hb dX10_queue_69 rfl (lv_at hl 0 rfl) ?_
        refine gX10_8 S hK hT ha kf_X10_57 dX10_queue_70 (fun _ _ => ?_)
        refine lv_iload_n hx hb dX10_queue_73 rfl (lv_at hl 1 rfl) ?_
        refine x_clp (x_runV (b := (F a 8)) (As := [.int p0]) (rest := []) S (c_X4_subject l E K F G H (F a 8) p0 hk9999) mv_X4_subject km_X10_147 rfl rfl ⟨Nat.le_of_ble_eq_true rfl, Nat.le_of_ble_eq_true rfl⟩ (rc_6 hK hT hk9999) hK (fun _ => XPh.blind) (fun U hU hW => XPh.at hK hz hS hT hU hW) rfl hl.1 (Nat.le_of_ble_eq_true rfl) dX10_queue_74 ⟨Nat.le_of_ble_eq_true rfl, Nat.le_of_ble_eq_true rfl⟩) hS ?_
        rintro _ _ locs ⟨x74, rfl, t74⟩ hS
        have t74 : ((0 ≤ p0.toInt ∧ p0.toInt < ((G.1 (F a 8) 6).toInt) ∧ p0.toInt < 1080) ∧ x74.toInt = (aI (G.2.1 (F (F a 8) 1)) (p0.toInt))) ∨ (¬ (0 ≤ p0.toInt ∧ p0.toInt < ((G.1 (F a 8) 6).toInt) ∧ p0.toInt < 1080) ∧ x74.toInt = -1) := t74
        exact x_riX hx hb hr hlk hQ (Nat.le_of_ble_eq_true rfl) (Nat.le_of_ble_eq_true rfl) hS dX10_queue_77 G ⟨_, rfl, XFr.rf, (z_X10_queue_5 p0.toInt p1.toInt x74.toInt ((G.1 (F a 8) 6).toInt) (aI (G.2.1 (F (F a 8) 0)) (p0.toInt)) (aI (G.2.1 (F (F a 8) 1)) (p0.toInt)) (aI (G.2.1 (F (F a 8) 2)) (p0.toInt)) (aI (G.2.1 (F (F a 8) 3)) (p0.toInt)) (aI (G.2.1 (F (F a 8) 5)) (p0.toInt)) sw c1 c12 c27 t74)⟩ hT
      · refine lv_tableIn (off := 51) (tgt := 78) hx hb dX10_queue_27 (by rw [c27]; decide) (by rw [c27]; decide) (by rw [c27]; rfl) (by decide) ?_
        refine lv_aload_n hx hb dX10_queue_78 rfl (lv_at hl 0 rfl) ?_
        refine gX10_8 S hK hT ha kf_X10_57 dX10_queue_79 (fun _ _ => ?_)
        refine lv_iload_n hx hb dX10_queue_82 rfl (lv_at hl 1 rfl) ?_
        refine x_clp (x_runV (b := (F a 8)) (As := [.int p0]) (rest := []) S (c_X4_before l E K F G H (F a 8) p0 hk9999) mv_X4_before km_X10_303 rfl rfl ⟨Nat.le_of_ble_eq_true rfl, Nat.le_of_ble_eq_true rfl⟩ (rc_6 hK hT hk9999) hK (fun _ => XPh.blind) (fun U hU hW => XPh.at hK hz hS hT hU hW) rfl hl.1 (Nat.le_of_ble_eq_true rfl) dX10_queue_83 ⟨Nat.le_of_ble_eq_true rfl, Nat.le_of_ble_eq_true rfl⟩) hS ?_
        rintro _ _ locs ⟨x83, rfl, t83⟩ hS
        have t83 : ((0 ≤ p0.toInt ∧ p0.toInt < ((G.1 (F a 8) 6).toInt) ∧ p0.toInt < 1080) ∧ x83.toInt = (aI (G.2.1 (F (F a 8) 2)) (p0.toInt))) ∨ (¬ (0 ≤ p0.toInt ∧ p0.toInt < ((G.1 (F a 8) 6).toInt) ∧ p0.toInt < 1080) ∧ x83.toInt = -2000) := t83
        exact x_riX hx hb hr hlk hQ (Nat.le_of_ble_eq_true rfl) (Nat.le_of_ble_eq_true rfl) hS dX10_queue_86 G ⟨_, rfl, XFr.rf, (z_X10_queue_6 p0.toInt p1.toInt x83.toInt ((G.1 (F a 8) 6).toInt) (aI (G.2.1 (F (F a 8) 0)) (p0.toInt)) (aI (G.2.1 (F (F a 8) 1)) (p0.toInt)) (aI (G.2.1 (F (F a 8) 2)) (p0.toInt)) (aI (G.2.1 (F (F a 8) 3)) (p0.toInt)) (aI (G.2.1 (F (F a 8) 5)) (p0.toInt)) sw c1 c12 c27 t83)⟩ hT
      · refine lv_tableIn (off := 60) (tgt := 87) hx hb dX10_queue_27 (by rw [c27]; decide) (by rw [c27]; decide) (by rw [c27]; rfl) (by decide) ?_
        refine lv_aload_n hx hb dX10_queue_87 rfl (lv_at hl 0 rfl) ?_
        refine gX10_8 S hK hT ha kf_X10_57 dX10_queue_88 (fun _ _ => ?_)
        refine lv_iload_n hx hb dX10_queue_91 rfl (lv_at hl 1 rfl) ?_
        refine x_clp (x_runV (b := (F a 8)) (As := [.int p0]) (rest := []) S (c_X4_after l E K F G H (F a 8) p0 hk9999) mv_X4_after km_X10_306 rfl rfl ⟨Nat.le_of_ble_eq_true rfl, Nat.le_of_ble_eq_true rfl⟩ (rc_6 hK hT hk9999) hK (fun _ => XPh.blind) (fun U hU hW => XPh.at hK hz hS hT hU hW) rfl hl.1 (Nat.le_of_ble_eq_true rfl) dX10_queue_92 ⟨Nat.le_of_ble_eq_true rfl, Nat.le_of_ble_eq_true rfl⟩) hS ?_
        rintro _ _ locs ⟨x92, rfl, t92⟩ hS
        have t92 : ((0 ≤ p0.toInt ∧ p0.toInt < ((G.1 (F a 8) 6).toInt) ∧ p0.toInt < 1080) ∧ x92.toInt = (aI (G.2.1 (F (F a 8) 3)) (p0.toInt))) ∨ (¬ (0 ≤ p0.toInt ∧ p0.toInt < ((G.1 (F a 8) 6).toInt) ∧ p0.toInt < 1080) ∧ x92.toInt = -2000) := t92
        exact x_riX hx hb hr hlk hQ (Nat.le_of_ble_eq_true rfl) (Nat.le_of_ble_eq_true rfl) hS dX10_queue_95 G ⟨_, rfl, XFr.rf, (z_X10_queue_7 p0.toInt p1.toInt x92.toInt ((G.1 (F a 8) 6).toInt) (aI (G.2.1 (F (F a 8) 0)) (p0.toInt)) (aI (G.2.1 (F (F a 8) 1)) (p0.toInt)) (aI (G.2.1 (F (F a 8) 2)) (p0.toInt)) (aI (G.2.1 (F (F a 8) 3)) (p0.toInt)) (aI (G.2.1 (F (F a 8) 5)) (p0.toInt)) sw c1 c12 c27 t92)⟩ hT
      · refine lv_tableIn (off := 69) (tgt := 96) hx hb dX10_queue_27 (by rw [c27]; decide) (by rw [c27]; decide) (by rw [c27]; rfl) (by decide) ?_
        refine lv_aload_n hx hb dX10_queue_96 rfl (lv_at hl 0 rfl) ?_
        refine gX10_8 S hK hT ha kf_X10_57 dX10_queue_97 (fun _ _ => ?_)
        refine lv_iload_n hx hb dX10_queue_100 rfl (lv_at hl 1 rfl) ?_
        refine x_clp (x_runV (b := (F a 8)) (As := [.int p0]) (rest := []) S (c_X4_fails l E K F G H (F a 8) p0 hk9999) mv_X4_fails km_X10_309 rfl rfl ⟨Nat.le_of_ble_eq_true rfl, Nat.le_of_ble_eq_true rfl⟩ (rc_6 hK hT hk9999) hK (fun _ => XPh.blind) (fun U hU hW => XPh.at hK hz hS hT hU hW) rfl hl.1 (Nat.le_of_ble_eq_true rfl) dX10_queue_101 ⟨Nat.le_of_ble_eq_true rfl, Nat.le_of_ble_eq_true rfl⟩) hS ?_
        rintro _ _ locs ⟨x101, rfl, b101, t101⟩ hS
        have t101 : ((0 ≤ p0.toInt ∧ p0.toInt < ((G.1 (F a 8) 6).toInt) ∧ p0.toInt < 1080) ∧ x101.toInt = (aI (G.2.1 (F (F a 8) 5)) (p0.toInt))) ∨ (¬ (0 ≤ p0.toInt ∧ p0.toInt < ((G.1 (F a 8) 6).toInt) ∧ p0.toInt < 1080) ∧ x101.toInt = 0) := t101
        refine xi_zeq (tgt := 111) hx hb (rfl : Int32.toInt x101 = x101.toInt) dX10_queue_104 (by decide) (fun c104 => ?_) (fun c104 => ?_)
        · refine lv_iconst (v := 0) hx hb dX10_queue_111 (by decide) ?_
          exact x_riX hx hb hr hlk hQ (Nat.le_of_ble_eq_true rfl) (Nat.le_of_ble_eq_true rfl) hS dX10_queue_112 G ⟨_, rfl, XFr.rf, (z_X10_queue_8 p0.toInt p1.toInt x101.toInt ((G.1 (F a 8) 6).toInt) (aI (G.2.1 (F (F a 8) 0)) (p0.toInt)) (aI (G.2.1 (F (F a 8) 1)) (p0.toInt)) (aI (G.2.1 (F (F a 8) 2)) (p0.toInt)) (aI (G.2.1 (F (F a 8) 3)) (p0.toInt)) (aI (G.2.1 (F (F a 8) 5)) (p0.toInt)) sw c1 c12 c27 t101 c104)⟩ hT
        · refine lv_iconst (v := 1) hx hb dX10_queue_107 (by decide) ?_
          refine lv_goto (tgt := 112) hx hb dX10_queue_108 (by decide) ?_
          exact x_riX hx hb hr hlk hQ (Nat.le_of_ble_eq_true rfl) (Nat.le_of_ble_eq_true rfl) hS dX10_queue_112 G ⟨_, rfl, XFr.rf, (z_X10_queue_9 p0.toInt p1.toInt x101.toInt ((G.1 (F a 8) 6).toInt) (aI (G.2.1 (F (F a 8) 0)) (p0.toInt)) (aI (G.2.1 (F (F a 8) 1)) (p0.toInt)) (aI (G.2.1 (F (F a 8) 2)) (p0.toInt)) (aI (G.2.1 (F (F a 8) 3)) (p0.toInt)) (aI (G.2.1 (F (F a 8) 5)) (p0.toInt)) c27 t101 (xzi b101) c104)⟩ hT
    · rw [hQ]
      exact nx_throw S (z_X10_queue_10 p0.toInt ((G.1 (F a 8) 6).toInt) c12) hst hD9 hK hT hS (hK.2.2.1 12 ("LateRules", 299, "no such question in the queue") rfl) hl.1 dX10_queue_15 dX10_queue_18 dX10_queue_19 dX10_queue_22 dX10_queue_25 hex (Nat.le_of_ble_eq_true rfl) (Nat.le_of_ble_eq_true rfl) (Nat.le_of_ble_eq_true rfl) (Nat.le_of_ble_eq_true rfl) hlk (Nat.le_of_ble_eq_true rfl) (Nat.le_of_ble_eq_true rfl)

abbrev rm_L_value : Room := { frames := 7, cells := 1, slots := 6, locals := 123 }
set_option maxRecDepth 100000 in
theorem mh_value : xcH yL_value cL_value 6 (some .int) [(0, 12, 15, 13)] 5 := ⟨⟨GT_mem 1315 rfl rfl, GT_mem 1314 (by decide +kernel) rfl, GT_mem 90 (by decide +kernel) rfl⟩, by decide +kernel⟩
set_option maxHeartbeats 4000000 in
set_option maxRecDepth 100000 in
theorem c_L_value (l : Launch) (hst : l.stackTraces = false) (E : XE) (K : Nat → Nat) (F : Nat → Nat → Nat) (G : XG) (qx : Nat) (p1 p2 p3 : Int32) (qo : Nat) (kx : K qx = 12) (ko : K qo = 14) (ron : RO (vw (G.2.1 (F (F qx 3) 0))) (aI (G.2.1 (F (F qx 3) 1)))) : Met l yL_value (xwH yL_value cL_value 6 (some .int) [(0, 12, 15, 13)]) rm_L_value (va_Pc [.ref qx, .int p1, .int p2, .int p3, .ref qo] (XPn E K F G)) (XQ E (fun v (u : (Nat → Nat) × XG) => (∃ r : Int32, v = .int r ∧ ((r.toInt = 1 ∧ ((cel (vw (G.2.1 (F (F qx 3) 0))) (p1.toInt) (p2.toInt) 0) = -2000 ∨ p3.toInt < 0 ∨ 3 ≤ p3.toInt)) ∨ (r.toInt = 0 ∧ ∃ y : Int32, u.2.2.2.2 0 = y.toInt64 ∧ y.toInt = (cel (vw (G.2.1 (F (F qx 3) 0))) (p1.toInt) (p2.toInt) (p3.toInt)) ∧ (cel (vw (G.2.1 (F (F qx 3) 0))) (p1.toInt) (p2.toInt) 0) ≠ -2000 ∧ 0 ≤ p3.toInt ∧ p3.toInt < 3))) ∧ KE K u.1 ∧ u.1 qo = 14 ∧ XFr [] [] [] G u.2) (fun u H => TW E u.1 F u.2 H)) 1 6 (xA E) := by
  refine x_enterH (by decide) (Nat.le_of_ble_eq_true rfl) ?_
  intro p e s m args below meth c Q S hr hlk htab hQ hP ls hl
  obtain ⟨⟨hz, hK, hT⟩, hD9⟩ := hP
  obtain ⟨hx, hb, -, -, -⟩ := id S
  obtain ⟨H, hT, hS, hgo⟩ : ∃ H : Heap, TW E K F G H ∧ va_S (xA E) s.heap H [] ∧ H = s.heap := ⟨_, hT, va_S.rf, rfl⟩
  rw [← hgo]
  have hl : lv_has ls 6 [(0, .ref qx), (1, .int p1), (2, .int p2), (3, .int p3), (4, .ref qo)] := hl
  refine lv_aload hx hb dL_value_0 (lv_at hl 4 rfl) ?_
  refine lv_iconst (v := 0) hx hb dL_value_2 (by decide) ?_
  refine lv_aload_n hx hb dL_value_3 rfl (lv_at hl 0 rfl) ?_
  refine lv_iload_n hx hb dL_value_4 rfl (lv_at hl 1 rfl) ?_
  refine lv_iload_n hx hb dL_value_5 rfl (lv_at hl 2 rfl) ?_
  refine lv_iload_n hx hb dL_value_6 rfl (lv_at hl 3 rfl) ?_
  refine x_cX (x_runVX (b := qx) (As := [.int p1, .int p2, .int p3]) (rest := [.int 0, .ref qo]) S (c_X10_value l E K F hst G qx p1 p2 p3 kx ron) mv_X10_value km_L_7 rfl rfl ⟨(Nat.le_of_ble_eq_true rfl), (Nat.le_of_ble_eq_true rfl)⟩ (rc_12 hK hT kx) (fun _ => XPn.blind) (fun U hU hW => ⟨XP.at hK hz hS hT hU hW, XD.warm hW hD9⟩) rfl hl.1 (Nat.le_of_ble_eq_true rfl) dL_value_7 ⟨(Nat.le_of_ble_eq_true rfl), (Nat.le_of_ble_eq_true rfl)⟩) hS ?_ ?_
  · intro hPX q ce H locs hT hS hq hv hc
    refine vx_catch (own := RL) (name := NXN) (E := NXN) S.2.2.2.1 [] ⟨0, 12, 15, 13⟩ [] (by rw [htab]; rfl) (fun z hz => by cases hz) (by decide) (by decide) (S.2.2.2.2 _ (List.mem_cons_of_mem _ k_nx.2.2)) (va_Nw.use rfl hD9.2.2.2) hq hv hc ?_
    refine lv_astore (lv' := (5, .ref q) :: [(0, .ref qx), (1, .int p1), (2, .int p2), (3, .int p3), (4, .ref qo)]) hx hb dL_value_15 hl (by decide) rfl (fun ls hl => ?_)
    refine lv_iconst (v := 1) hx hb dL_value_17 (by decide) ?_
    exact x_ri hx hb hr hlk hQ (Nat.le_of_ble_eq_true rfl) (Nat.le_of_ble_eq_true rfl) hS dL_value_18 (K, G) ⟨⟨_, rfl, Or.inl ⟨by decide, hPX⟩⟩, KE.rf, ko, XFr.rf⟩ hT
  · rintro _ u9 H locs ⟨r, rfl, hf9, tp9⟩ hT hS
    refine lv_i2l (v := r.toInt64) hx hb dL_value_10 rfl ?_
    refine as_14 S hK hT hS ko dL_value_11 (fun K1 G1 H locs hk1 hk2 hf1 hl1 hT hS => ?_)
    refine lv_goto (tgt := 19) hx hb dL_value_12 (by decide) ?_
    refine lv_iconst (v := 0) hx hb dL_value_19 (by decide) ?_
    exact x_ri hx hb hr hlk hQ (Nat.le_of_ble_eq_true rfl) (Nat.le_of_ble_eq_true rfl) hS dL_value_20 (K1, G1) ⟨⟨_, rfl, Or.inr ⟨by decide, r, hl1, tp9⟩⟩, hk1, hk2, XFr.call hf9 hf1 xm0 xm0 xm0⟩ hT
abbrev rm_L_queue : Room := { frames := 7, cells := 1, slots := 6, locals := 122 }
set_option maxRecDepth 100000 in
theorem mh_queue : xcH yL_queue cL_queue 5 (some .int) [(0, 10, 13, 13)] 4 := ⟨⟨GT_mem 1388 rfl rfl, GT_mem 1387 (by decide +kernel) rfl, GT_mem 90 (by decide +kernel) rfl⟩, by decide +kernel⟩
set_option maxHeartbeats 4000000 in
set_option maxRecDepth 100000 in
theorem c_L_queue (l : Launch) (hst : l.stackTraces = false) (E : XE) (K : Nat → Nat) (F : Nat → Nat → Nat) (G : XG) (qx : Nat) (p1 p2 : Int32) (qo : Nat) (kx : K qx = 12) (ko : K qo = 14) (sw : 0 ≤ (G.1 (F qx 8) 6).toInt ∧ (G.1 (F qx 8) 6).toInt ≤ 1080) : Met l yL_queue (xwH yL_queue cL_queue 5 (some .int) [(0, 10, 13, 13)]) rm_L_queue (va_Pc [.ref qx, .int p1, .int p2, .ref qo] (XPn E K F G)) (XQ E (fun v (u : (Nat → Nat) × XG) => (∃ r : Int32, v = .int r ∧ ((r.toInt = 1 ∧ (p1.toInt < 0 ∨ ((G.1 (F qx 8) 6).toInt) ≤ p1.toInt)) ∨ (r.toInt = 0 ∧ ∃ y : Int32, u.2.2.2.2 0 = y.toInt64 ∧ (0 ≤ p1.toInt ∧ p1.toInt < (G.1 (F qx 8) 6).toInt) ∧ ((p2.toInt = 0 ∧ y.toInt = aI (G.2.1 (F (F qx 8) 0)) (p1.toInt)) ∨ (p2.toInt = 1 ∧ y.toInt = aI (G.2.1 (F (F qx 8) 1)) (p1.toInt)) ∨ (p2.toInt = 2 ∧ y.toInt = aI (G.2.1 (F (F qx 8) 2)) (p1.toInt)) ∨ (p2.toInt = 3 ∧ y.toInt = aI (G.2.1 (F (F qx 8) 3)) (p1.toInt)) ∨ (p2.toInt = 4 ∧ y.toInt = aI (G.2.1 (F (F qx 8) 5)) (p1.toInt)) ∨ ((p2.toInt < 0 ∨ 4 < p2.toInt) ∧ y.toInt = -2147483648))))) ∧ KE K u.1 ∧ u.1 qo = 14 ∧ XFr [] [] [] G u.2) (fun u H => TW E u.1 F u.2 H)) 1 6 (xA E) := by
  refine x_enterH (by decide) (Nat.le_of_ble_eq_true rfl) ?_
  intro p e s m args below meth c Q S hr hlk htab hQ hP ls hl
  obtain ⟨⟨hz, hK, hT⟩, hD9⟩ := hP
  obtain ⟨hx, hb, -, -, -⟩ := id S
  obtain ⟨H, hT, hS, hgo⟩ : ∃ H : Heap, TW E K F G H ∧ va_S (xA E) s.heap H [] ∧ H = s.heap := ⟨_, hT, va_S.rf, rfl⟩
  rw [← hgo]
  have hl : lv_has ls 5 [(0, .ref qx), (1, .int p1), (2, .int p2), (3, .ref qo)] := hl
  refine lv_aload_n hx hb dL_queue_0 rfl (lv_at hl 3 rfl) ?_
  refine lv_iconst (v := 0) hx hb dL_queue_1 (by decide) ?_
  refine lv_aload_n hx hb dL_queue_2 rfl (lv_at hl 0 rfl) ?_
  refine lv_iload_n hx hb dL_queue_3 rfl (lv_at hl 1 rfl) ?_
  refine lv_iload_n hx hb dL_queue_4 rfl (lv_at hl 2 rfl) ?_
  refine x_cX (x_runVX (b := qx) (As := [.int p1, .int p2]) (rest := [.int 0, .ref qo]) S (c_X10_queue l E K F hst G qx p1 p2 kx sw) mv_X10_queue km_L_15 rfl rfl ⟨(Nat.le_of_ble_eq_true rfl), (Nat.le_of_ble_eq_true rfl)⟩ (rc_12 hK hT kx) (fun _ => XPn.blind) (fun U hU hW => ⟨XP.at hK hz hS hT hU hW, XD.warm hW hD9⟩) rfl hl.1 (Nat.le_of_ble_eq_true rfl) dL_queue_5 ⟨(Nat.le_of_ble_eq_true rfl), (Nat.le_of_ble_eq_true rfl)⟩) hS ?_ ?_
  · intro hPX q ce H locs hT hS hq hv hc
    refine vx_catch (own := RL) (name := NXN) (E := NXN) S.2.2.2.1 [] ⟨0, 10, 13, 13⟩ [] (by rw [htab]; rfl) (fun z hz => by cases hz) (by decide) (by decide) (S.2.2.2.2 _ (List.mem_cons_of_mem _ k_nx.2.2)) (va_Nw.use rfl hD9.2.2.2) hq hv hc ?_
    refine lv_astore (lv' := (4, .ref q) :: [(0, .ref qx), (1, .int p1), (2, .int p2), (3, .ref qo)]) hx hb dL_queue_13 hl (by decide) rfl (fun ls hl => ?_)
    refine lv_iconst (v := 1) hx hb dL_queue_15 (by decide) ?_
    exact x_ri hx hb hr hlk hQ (Nat.le_of_ble_eq_true rfl) (Nat.le_of_ble_eq_true rfl) hS dL_queue_16 (K, G) ⟨⟨_, rfl, Or.inl ⟨by decide, hPX⟩⟩, KE.rf, ko, XFr.rf⟩ hT
  · rintro _ u9 H locs ⟨r, rfl, hf9, tp9⟩ hT hS
    refine lv_i2l (v := r.toInt64) hx hb dL_queue_8 rfl ?_
    refine as_14 S hK hT hS ko dL_queue_9 (fun K1 G1 H locs hk1 hk2 hf1 hl1 hT hS => ?_)
    refine lv_goto (tgt := 17) hx hb dL_queue_10 (by decide) ?_
    refine lv_iconst (v := 0) hx hb dL_queue_17 (by decide) ?_
    exact x_ri hx hb hr hlk hQ (Nat.le_of_ble_eq_true rfl) (Nat.le_of_ble_eq_true rfl) hS dL_queue_18 (K1, G1) ⟨⟨_, rfl, Or.inr ⟨by decide, r, hl1, tp9⟩⟩, hk1, hk2, XFr.call hf9 hf1 xm0 xm0 xm0⟩ hT
/-! ===== class and reference: rules alike, questions alike ===== -/
def RQ (f : Nat → Int32) (i : Int) (q : Nat → Int32) : Prop := (q 0).toInt = aI f (10 * i + 0) ∧ (q 1).toInt = i ∧ (q 2).toInt = aI f (10 * i + 1) ∧ (q 3).toInt = aI f (10 * i + 2) ∧ (q 4).toInt = aI f (10 * i + 3) ∧ (q 5).toInt = aI f (10 * i + 4) ∧ (q 6).toInt = aI f (10 * i + 5) ∧ (q 7).toInt = aI f (10 * i + 8) ∧ (q 8).toInt = aI f (10 * i + 7) ∧ (q 9).toInt = aI f (10 * i + 6) ∧ ((q 9).toInt = 0 ∨ (q 9).toInt = 1)
def LK (G : XG) (b : Nat → Option Nat) (f : Nat → Int32) : Prop := ∀ i : Nat, i < 12 → (b i = none ∧ aI f (10 * (i : Int) + 0) = -1) ∨ (∃ q : Nat, b i = some q ∧ aI f (10 * (i : Int) + 0) ≠ -1 ∧ RQ f (i : Int) (G.1 q))
noncomputable def tqq (f : Nat → Int32) (r1 r2 : Int → Int) (x : Int × Int) : Qt := (x.1, x.2, stt r1 (aI f (10 * x.1 + 0)) (aI f (10 * x.1 + 1)) (aI f (10 * x.1 + 2)) (aI f (10 * x.1 + 3)) x.2, stt r2 (aI f (10 * x.1 + 0)) (aI f (10 * x.1 + 1)) (aI f (10 * x.1 + 2)) (aI f (10 * x.1 + 3)) x.2, aI f (10 * x.1 + 6), fzq f r2 x.1 x.2)
theorem uq1_fu1 {f : Nat → Int32} {r1 r2 : Int → Int} {i : Int} {q : Nat → Int32} (h : RQ f i q) (s : Int) : uq1 r1 r2 q s = (fu1 f r1 r2 i s).map (tqq f r1 r2) := by
  obtain ⟨h0, h1, h2, h3, h4, h5, h6, -, -, h9, -⟩ := h
  unfold uq1 fu1
  rw [h0, h1, h2, h3, h4, h5, h6, h9]
  by_cases g : stt r1 (aI f (10 * i + 0)) (aI f (10 * i + 1)) (aI f (10 * i + 2)) (aI f (10 * i + 3)) s ≠ stt r2 (aI f (10 * i + 0)) (aI f (10 * i + 1)) (aI f (10 * i + 2)) (aI f (10 * i + 3)) s
  · rw [if_pos g, if_pos g]; rfl
  · rw [if_neg g, if_neg g]; rfl
theorem uqs_fu {f : Nat → Int32} {r1 r2 : Int → Int} {i : Int} {q : Nat → Int32} (h : RQ f i q) : uqs r1 r2 q = ((subs (aI f (10 * i + 0))).filterMap (fu1 f r1 r2 i)).map (tqq f r1 r2) := by
  unfold uqs
  rw [h.1, List.map_filterMap]
  exact congrArg (fun g => List.filterMap g (subs (aI f (10 * i + 0)))) (funext (fun s => uq1_fu1 h s))
theorem ordN_cong {pr pr2 : Nat → Bool} {rk rk2 : Nat → Int} : ∀ n : Nat, (∀ i, i < n → pr i = pr2 i) → (∀ i, i < n → pr i = true → rk i = rk2 i) → ordN pr rk n = ordN pr2 rk2 n
  | 0, _, _ => rfl
  | n + 1, h1, h2 => by
    have ih := ordN_cong n (fun i hi => h1 i (by omega)) (fun i hi => h2 i (by omega))
    have hn := h1 n (by omega)
    cases hp : pr n with
    | false => rw [ordN_f hp, ordN_f (by rw [← hn]; exact hp), ih]
    | true =>
      have e : posR (fun i => rk ((ordN pr rk n).2 i)) (rk n) (ordN pr rk n).1 = posR (fun i => rk2 ((ordN pr rk n).2 i)) (rk2 n) (ordN pr rk n).1 := by
        rw [h2 n (by omega) hp]
        exact posR_congr (fun i hi => by
          have := ordN_in pr rk n i hi
          exact h2 _ (by omega) this.2)
      rw [ordN_t hp, ordN_t (by rw [← hn]; exact hp), ← ih, e]
def lw (w : Int) : Int := if w = 0 then 2 else if w = 1 then 1 else 0
theorem lw_0 : lw 0 = 2 := by decide
theorem lw_1 : lw 1 = 1 := by decide
theorem lw_2 : lw 2 = 0 := by decide
theorem gaq_fus {G : XG} {f : Nat → Int32} {r1 r2 : Int → Int} {w i : Int} {q : Nat} (hw : w = 0 ∨ w = 1 ∨ w = 2) (h : RQ f i (G.1 q)) : gaq G r1 r2 w (some q) = (fus f r1 r2 (lw w) i).map (tqq f r1 r2) := by
  have h9 := h.2.2.2.2.2.2.2.2.2.1
  have h01 := h.2.2.2.2.2.2.2.2.2.2
  unfold fus
  by_cases c : w = 0 ∨ ((G.1 q 9).toInt = 1 ∧ w = 1) ∨ ((G.1 q 9).toInt = 0 ∧ w ≠ 1)
  · rw [gaq_t c, uqs_fu h, if_pos]
    rcases hw with e | e | e
    · subst e; exact Or.inl lw_0
    · subst e; rw [lw_1]; omega
    · subst e; rw [lw_2]; omega
  · rw [gaq_f c, if_neg]
    · rfl
    · rcases hw with e | e | e
      · exact absurd (Or.inl e) c
      · subst e; rw [lw_1]; omega
      · subst e; rw [lw_2]; omega
theorem gaL_fuL {G : XG} {b f1 : Nat → Option Nat} {f : Nat → Int32} {r1 r2 : Int → Int} {w : Int} {o : Nat → Nat} (hw : w = 0 ∨ w = 1 ∨ w = 2) (hL : LK G b f) : ∀ n : Nat, (∀ i, i < n → f1 i = b (o i) ∧ o i < 12 ∧ (b (o i)).isSome = true) → gaL G f1 r1 r2 w n = (fuL f r1 r2 (lw w) o n).map (tqq f r1 r2)
  | 0, _ => rfl
  | n + 1, h => by
    rw [gaL_s, fuL_s, List.map_append, gaL_fuL hw hL n (fun i hi => h i (by omega))]
    obtain ⟨e, l, s⟩ := h n (by omega)
    rcases hL (o n) l with ⟨a, -⟩ | ⟨q, a, -, c⟩
    · rw [a] at s; cases s
    · rw [e, a, gaq_fus hw c]
theorem LK.pr {G : XG} {b : Nat → Option Nat} {f : Nat → Int32} (hL : LK G b f) {i : Nat} (hi : i < 12) : (b i).isSome = prM f i := by
  unfold prM
  rcases hL i hi with ⟨a, c⟩ | ⟨q, a, c, -⟩
  · rw [a]; exact (decide_eq_false (fun h => h c)).symm
  · rw [a]; exact (decide_eq_true c).symm
theorem LK.ord {G : XG} {b : Nat → Option Nat} {f : Nat → Int32} (hL : LK G b f) : ordN (fun i => (b i).isSome) (fun i => rkO G (b i)) 12 = ordN (prM f) (rkM f) 12 := ordN_cong 12 (fun i hi => hL.pr hi) (fun i hi hp => by
  have hp : (b i).isSome = true := hp
  rcases hL i hi with ⟨a, -⟩ | ⟨q, a, -, c⟩
  · rw [a] at hp; cases hp
  · show rkO G (b i) = rkM f i
    rw [a]
    exact c.2.2.2.2.2.2.2.2.1)
theorem BO.sz {G : XG} {F : Nat → Nat → Nat} {a : Nat} {f : Nat → Int32} (hL : LK G (G.2.2.1 (F a 0)) f) (hB : BO G F a) : (G.1 a 2).toInt = (((ordN (prM f) (rkM f) 12).1 : Nat) : Int) := by
  obtain ⟨b1, -⟩ := hB
  rw [hL.ord] at b1
  exact b1
theorem gaL_fuO {G : XG} {F : Nat → Nat → Nat} {a : Nat} {f : Nat → Int32} {r1 r2 : Int → Int} {w : Int} (hL : LK G (G.2.2.1 (F a 0)) f) (hB : BO G F a) (hw : w = 0 ∨ w = 1 ∨ w = 2) : gaL G (G.2.2.1 (F a 1)) r1 r2 w (G.1 a 2).toInt.toNat = (fuO f r1 r2 (lw w)).map (tqq f r1 r2) := by
  have b1 := hB.sz hL
  obtain ⟨-, b2⟩ := hB
  rw [hL.ord] at b2
  unfold fuO
  rw [show (G.1 a 2).toInt.toNat = (ordN (prM f) (rkM f) 12).1 from by omega]
  refine gaL_fuL hw hL _ (fun i hi => ?_)
  have h := ordN_in (prM f) (rkM f) 12 i hi
  exact ⟨b2 i hi, h.1, by rw [hL.pr h.1]; exact h.2⟩
/-! which questions are found -/
theorem fu_mem {f : Nat → Int32} {r1 r2 : Int → Int} {q : Int} {y : Int × Int} : y ∈ (subs (aI f (10 * q + 0))).filterMap (fu1 f r1 r2 q) ↔ y.1 = q ∧ sbj (aI f (10 * q + 0)) y.2 ∧ stt r1 (aI f (10 * q + 0)) (aI f (10 * q + 1)) (aI f (10 * q + 2)) (aI f (10 * q + 3)) y.2 ≠ stt r2 (aI f (10 * q + 0)) (aI f (10 * q + 1)) (aI f (10 * q + 2)) (aI f (10 * q + 3)) y.2 := by
  rw [List.mem_filterMap]
  constructor
  · rintro ⟨s, hs, h⟩
    unfold fu1 at h
    split at h
    · rename_i g
      have e := Option.some.inj h
      subst e
      exact ⟨rfl, (subs_mem _ _).mp hs, g⟩
    · cases h
  · rintro ⟨e, hs, g⟩
    refine ⟨y.2, (subs_mem _ _).mpr hs, ?_⟩
    unfold fu1
    rw [if_pos g, ← e]
theorem fuL_mem {f : Nat → Int32} {r1 r2 : Int → Int} {late : Int} {o : Nat → Nat} {y : Int × Int} : ∀ n : Nat, y ∈ fuL f r1 r2 late o n ↔ ∃ i, i < n ∧ y ∈ fus f r1 r2 late ((o i : Nat) : Int)
  | 0 => by
    constructor
    · intro h; exact absurd h List.not_mem_nil
    · rintro ⟨i, h, -⟩; omega
  | n + 1 => by
    rw [fuL_s, List.mem_append, fuL_mem n]
    constructor
    · rintro (⟨i, h1, h2⟩ | h)
      · exact ⟨i, by omega, h2⟩
      · exact ⟨n, by omega, h⟩
    · rintro ⟨i, h1, h2⟩
      by_cases e : i = n
      · subst e; exact Or.inr h2
      · exact Or.inl ⟨i, by omega, h2⟩
def FUm (f : Nat → Int32) (r1 r2 : Int → Int) (y : Int × Int) : Prop := (0 ≤ y.1 ∧ y.1 < 12) ∧ aI f (10 * y.1 + 0) ≠ -1 ∧ sbj (aI f (10 * y.1 + 0)) y.2 ∧ stt r1 (aI f (10 * y.1 + 0)) (aI f (10 * y.1 + 1)) (aI f (10 * y.1 + 2)) (aI f (10 * y.1 + 3)) y.2 ≠ stt r2 (aI f (10 * y.1 + 0)) (aI f (10 * y.1 + 1)) (aI f (10 * y.1 + 2)) (aI f (10 * y.1 + 3)) y.2
theorem fuO_mem {f : Nat → Int32} {r1 r2 : Int → Int} {late : Int} {y : Int × Int} : y ∈ fuO f r1 r2 late ↔ FUm f r1 r2 y ∧ (late = 2 ∨ aI f (10 * y.1 + 6) = late) := by
  unfold fuO
  rw [fuL_mem]
  constructor
  · rintro ⟨i, hi, h⟩
    have hin := ordN_in (prM f) (rkM f) 12 i hi
    generalize (ordN (prM f) (rkM f) 12).2 i = n at *
    unfold fus at h
    split at h
    · rename_i g
      obtain ⟨e, h1, h2⟩ := fu_mem.mp h
      have hk : aI f (10 * ((n : Nat) : Int) + 0) ≠ -1 := of_decide_eq_true hin.2
      rw [← e] at h1 h2 hk g
      exact ⟨⟨by omega, hk, h1, h2⟩, g⟩
    · exact absurd h List.not_mem_nil
  · rintro ⟨⟨h0, hk, h1, h2⟩, g⟩
    have e : (((y.1.toNat : Nat)) : Int) = y.1 := by omega
    obtain ⟨i, hi, e2⟩ := ordN_all (pr := prM f) (rk := rkM f) (n := 12) (q := y.1.toNat) (by omega) (by unfold prM; rw [e]; exact decide_eq_true hk)
    refine ⟨i, hi, ?_⟩
    rw [e2, e]
    unfold fus
    rw [if_pos g]
    exact fu_mem.mpr ⟨rfl, h1, h2⟩
theorem fuO_two {f : Nat → Int32} {r1 r2 : Int → Int} {late : Int} {y : Int × Int} (hl : late ≠ 2) : y ∈ fuO f r1 r2 late ↔ y ∈ fuO f r1 r2 2 ∧ aI f (10 * y.1 + 6) = late := by
  rw [fuO_mem, fuO_mem]
  constructor
  · rintro ⟨h, g⟩
    exact ⟨⟨h, Or.inl rfl⟩, g.elim (fun e => absurd e hl) id⟩
  · rintro ⟨⟨h, -⟩, g⟩
    exact ⟨h, Or.inr g⟩
theorem fuO_sym {f : Nat → Int32} {r1 r2 : Int → Int} {late : Int} {y : Int × Int} : y ∈ fuO f r1 r2 late ↔ y ∈ fuO f r2 r1 late := by
  rw [fuO_mem, fuO_mem]
  unfold FUm
  constructor
  · rintro ⟨⟨a, b, c, d⟩, g⟩; exact ⟨⟨a, b, c, d.symm⟩, g⟩
  · rintro ⟨⟨a, b, c, d⟩, g⟩; exact ⟨⟨a, b, c, d.symm⟩, g⟩
theorem ffP_iff {f : Nat → Int32} {r : Int → Int} {l : List (Int × Int)} : ffP f r l ≠ -1 ↔ ∃ y, y ∈ l ∧ fzq f r y.1 y.2 ≠ 0 := by
  unfold ffP
  constructor
  · intro h
    obtain ⟨x, hx, h2⟩ := ffL_yes h
    obtain ⟨y, hy, e⟩ := List.mem_map.mp hx
    subst e
    exact ⟨y, hy, h2⟩
  · rintro ⟨y, hy, h2⟩ h
    exact h2 (ffL_no h _ (List.mem_map.mpr ⟨y, hy, rfl⟩))
theorem ffT_iff {f : Nat → Int32} {r1 r2 : Int → Int} {l : List (Int × Int)} : ffL (l.map (tqq f r1 r2)) ≠ -1 ↔ ∃ y, y ∈ l ∧ fzq f r2 y.1 y.2 ≠ 0 := by
  constructor
  · intro h
    obtain ⟨x, hx, h2⟩ := ffL_yes h
    obtain ⟨y, hy, e⟩ := List.mem_map.mp hx
    subst e
    exact ⟨y, hy, h2⟩
  · rintro ⟨y, hy, h2⟩ h
    exact h2 (ffL_no h _ (List.mem_map.mpr ⟨y, hy, rfl⟩))
theorem LK.l01 {G : XG} {b : Nat → Option Nat} {f : Nat → Int32} (hL : LK G b f) {r1 r2 : Int → Int} {y : Int × Int} (h : FUm f r1 r2 y) : aI f (10 * y.1 + 6) = 0 ∨ aI f (10 * y.1 + 6) = 1 := by
  obtain ⟨h0, hk, -, -⟩ := h
  have e : (((y.1.toNat : Nat)) : Int) = y.1 := by omega
  have h2 := hL y.1.toNat (by omega)
  rw [e] at h2
  rcases h2 with ⟨-, c⟩ | ⟨q, -, -, c⟩
  · exact absurd c hk
  · have h9 := c.2.2.2.2.2.2.2.2.2.1
    have h01 := c.2.2.2.2.2.2.2.2.2.2
    omega
/-- an act of the class, an act of the reference -/
theorem act_link {G : XG} {b : Nat → Option Nat} {f : Nat → Int32} {n0 n1 p r3 : Int → Int} {w0 w1 wn : List Qt} {op op2 r r2 : Int} (hL : LK G b f) (ho : op = op2) (hA : ActR op r ((fuO f n0 p 2).map (tqq f n0 p)) n0 n1 p w0 w1 wn) (hS : StR op2 r2 f n0 p r3) : r = r2 ∧ n1 = r3 ∧ ((n1 = n0 ∧ w1 = w0) ∨ (n1 = p ∧ (op = 0 → w1 = w0) ∧ (op ≠ 0 → w1 = wn))) := by
  subst ho
  have up : ∀ (late : Int), late ≠ 2 → (∃ x, x ∈ (fuO f n0 p 2).map (tqq f n0 p) ∧ x.2.2.2.2.1 = late ∧ x.2.2.2.2.2 ≠ 0) → ffP f p (fuO f n0 p late) ≠ -1 := by
    rintro late hl ⟨x, hx, h1, h2⟩
    obtain ⟨y, hy, e⟩ := List.mem_map.mp hx
    subst e
    exact ffP_iff.mpr ⟨y, (fuO_two hl).mpr ⟨hy, h1⟩, h2⟩
  have dn : ∀ (late : Int), late ≠ 2 → ffP f p (fuO f n0 p late) ≠ -1 → ∃ x, x ∈ (fuO f n0 p 2).map (tqq f n0 p) ∧ x.2.2.2.2.1 = late ∧ x.2.2.2.2.2 ≠ 0 := by
    intro late hl h
    obtain ⟨y, hy, h2⟩ := ffP_iff.mp h
    obtain ⟨h3, h4⟩ := (fuO_two hl).mp hy
    exact ⟨_, List.mem_map.mpr ⟨y, h3, rfl⟩, h4, h2⟩
  have l1 : ∀ x, x ∈ (fuO f n0 p 2).map (tqq f n0 p) → x.2.2.2.2.1 ≠ 0 → x.2.2.2.2.1 = 1 := by
    intro x hx hn
    obtain ⟨y, hy, e⟩ := List.mem_map.mp hx
    subst e
    rcases hL.l01 (fuO_mem.mp hy).1 with q | q
    · exact absurd q hn
    · exact q
  rcases hA with ⟨h1, e1, e2, e3⟩ | ⟨h1, h2, e1, e2, e3, e4⟩
  · rcases hS with ⟨-, t1, t2⟩ | ⟨s1, s2, -, -⟩
    · exact ⟨e1.trans t1.symm, e2.trans t2.symm, Or.inl ⟨e2, e3⟩⟩
    · exfalso
      rcases h1 with h | ⟨o, x, hx, a, c⟩
      · exact up 0 (by decide) h s1
      · exact up 1 (by decide) ⟨x, hx, l1 x hx a, c⟩ (s2 o)
  · rcases hS with ⟨s1, -, -⟩ | ⟨-, -, t1, t2⟩
    · exfalso
      rcases s1 with h | ⟨o, h⟩
      · obtain ⟨x, hx, a, c⟩ := dn 0 (by decide) h
        exact c (h1 x hx a)
      · obtain ⟨x, hx, a, c⟩ := dn 1 (by decide) h
        exact c (h2 o x hx (by rw [a]; decide))
    · rw [List.length_map] at e1
      exact ⟨e1.trans t1.symm, e2.trans t2.symm, Or.inr ⟨e2, e3, e4⟩⟩
/-! without rows nothing fails -/
theorem hvR_no {r : Int → Int} {b v : Int} : ∀ n : Nat, (∀ k : Nat, k < n → r (b + k) ≠ v) → hvR r b v n = 0
  | 0, _ => rfl
  | n + 1, h => by
    show hvR r b v n + (if r (b + n) = v then 1 else 0) = 0
    rw [hvR_no n (fun k hk => h k (by omega)), if_neg (h n (by omega))]
    rfl
theorem cel_v0 (t k c : Int) : cel v0 t k c = -2000 := by
  by_cases h : 0 ≤ t ∧ t < 3 ∧ 0 ≤ k ∧ k < 30 ∧ 0 ≤ c ∧ c < 3
  · rw [cel_in h]
    unfold v0
    exact if_pos (by omega)
  · exact cel_out h
theorem hv_v0 {t c s : Int} (h : 0 ≤ t ∧ t ≤ 2) (hc : 0 ≤ c ∧ c ≤ 2) (hs : s ≠ -2000) : hv v0 (90 * t + 30 * c) s 30 = 0 := by
  rw [hv_eq]
  refine hvR_no _ (fun k hk => ?_)
  have hk : k < 30 := hk
  unfold v0
  rw [if_pos (by omega)]
  exact fun e => hs e.symm
theorem sbj_ne {kd s : Int} (h : sbj kd s) : s ≠ -2000 := by
  unfold sbj at h
  omega
theorem fl_v0 {r : Int → Int} {kd t c o lo hi s : Int} (ht : 0 ≤ t ∧ t ≤ 2) (hc : 0 ≤ c ∧ c ≤ 2) (hs : sbj kd s) (h : flq r kd t c lo hi s (stt r kd t c o s) ≠ 0) : stt v0 kd t c o s ≠ stt r kd t c o s := by
  have hn := sbj_ne hs
  have hv0 := hv_v0 ht hc hn
  have hl : flv r kd t c lo hi s (stt r kd t c o s) := Classical.byContradiction (fun q => h (flq_0 q))
  have e0 := cel_v0
  obtain ⟨k0, k1, k3, k5⟩ := stt_k (r := v0) (kd := kd) (t := t) (c := c) (o := o) (s := s)
  rcases hl with ⟨a, b⟩ | ⟨a, b, b2⟩ | ⟨a, b, -⟩ | ⟨a, b, -⟩ | ⟨a, b, -⟩ | ⟨a, b⟩
  · rw [k0 a, hv0]; omega
  · rcases k1 (Or.inl a) with ⟨-, q⟩ | ⟨q, -⟩
    · rw [q, hv0]; omega
    · exact absurd (e0 o s 0) q
  · rw [k5 (Or.inl a), e0]; exact fun q => b q.symm
  · rcases k3 a with ⟨-, q⟩ | ⟨q, -⟩
    · rw [q]; exact fun q => b q.symm
    · exact absurd hv0 q
  · rcases k1 (Or.inr a) with ⟨-, q⟩ | ⟨q, -⟩
    · rw [q, hv0]; omega
    · exact absurd (e0 o s 0) q
  · rw [k5 (Or.inr a), e0]
    have e5 := (stt_k (r := r) (kd := kd) (t := t) (c := c) (o := o) (s := s)).2.2.2 (Or.inr a)
    rw [e5]
    intro q
    have f5 := (rgq_f r t c s (cel r t s c) (n := 30) (by decide)).1
    rw [f5 (by rw [← q]; exact cel_out (by omega))] at b
    exact absurd b (by decide)
theorem fz01 {f : Nat → Int32} {r : Int → Int} {q s : Int} (h : fzq f r q s ≠ 0) : fzq f r q s = 1 := by
  unfold fzq at *
  exact (flq01 _ _ _ _ _ _ _ _).elim (fun e => absurd e h) id
theorem fz_v0 {f : Nat → Int32} {r : Int → Int} {q s : Int} (hR : RV f) (hq : 0 ≤ q ∧ q < 12) (hs : sbj (aI f (10 * q + 0)) s) (h : fzq f r q s ≠ 0) : stt v0 (aI f (10 * q + 0)) (aI f (10 * q + 1)) (aI f (10 * q + 2)) (aI f (10 * q + 3)) s ≠ stt r (aI f (10 * q + 0)) (aI f (10 * q + 1)) (aI f (10 * q + 2)) (aI f (10 * q + 3)) s := by
  obtain ⟨-, r1, r2, -, -⟩ := hR q hq.1 (by omega)
  exact fl_v0 r1 r2 hs h
theorem back_link {f : Nat → Int32} {r : Int → Int} (hR : RV f) : ffL ((fuO f v0 r 0).map (tqq f v0 r)) ≠ -1 ↔ PFl f r := by
  rw [ffT_iff]
  constructor
  · rintro ⟨y, hy, h⟩
    obtain ⟨⟨h0, hk, h1, -⟩, g⟩ := fuO_mem.mp hy
    exact ⟨y.1, y.2, by omega, hk, g.elim (fun e => absurd e (by decide)) id, h1, fz01 h⟩
  · rintro ⟨q, s, h0, hk, g, h1, h2⟩
    have h3 : fzq f r q s ≠ 0 := by rw [h2]; decide
    exact ⟨(q, s), fuO_mem.mpr ⟨⟨by show 0 ≤ q ∧ q < 12; omega, hk, h1, fz_v0 hR (by omega) h1 h3⟩, Or.inr g⟩, h3⟩
theorem rule_link {g : Nat → Int32} {r : Int → Int} {k : Int} {q : Nat → Int32} (hR : RV g) (hk : 0 ≤ k ∧ k < 12) (h : RQ g k q) : ffL (uqs v0 r q) ≠ -1 ↔ ∃ s : Int, sbj (aI g (10 * k + 0)) s ∧ fzq g r k s = 1 := by
  rw [uqs_fu h, ffT_iff]
  constructor
  · rintro ⟨y, hy, h2⟩
    obtain ⟨e, h1, -⟩ := fu_mem.mp hy
    rw [e] at h2
    exact ⟨y.2, h1, fz01 h2⟩
  · rintro ⟨s, h1, h2⟩
    have h3 : fzq g r k s ≠ 0 := by rw [h2]; decide
    exact ⟨(k, s), fu_mem.mpr ⟨rfl, h1, fz_v0 hR hk h1 h3⟩, h3⟩
theorem later_link {f : Nat → Int32} {vn vb : Int → Int} {op n : Int} {w : List Qt} (hw : (op = 0 → w = []) ∧ (op ≠ 0 → w = (fuO f vb vn 1).map (tqq f vb vn))) : (∃ x, x ∈ w ∧ x.1 = n ∧ x.2.2.2.2.2 ≠ 0) ↔ QFl f vn (if op = 0 then [] else fuO f vn vb 1) n := by
  by_cases o : op = 0
  · rw [if_pos o, hw.1 o]
    constructor
    · rintro ⟨x, hx, -⟩; exact absurd hx List.not_mem_nil
    · rintro ⟨x, hx, -⟩; exact absurd hx List.not_mem_nil
  · rw [if_neg o, hw.2 o]
    constructor
    · rintro ⟨x, hx, h1, h2⟩
      obtain ⟨y, hy, e⟩ := List.mem_map.mp hx
      subst e
      exact ⟨y, fuO_sym.mp hy, h1, fz01 h2⟩
    · rintro ⟨y, hy, h1, h2⟩
      exact ⟨_, List.mem_map.mpr ⟨y, fuO_sym.mp hy, rfl⟩, h1, (show fzq f vn y.1 y.2 ≠ 0 by rw [h2]; decide)⟩
theorem commit_link {f : Nat → Int32} {vn vb : Int → Int} : (∃ x, x ∈ (fuO f vb vn 1).map (tqq f vb vn) ∧ x.2.2.2.2.1 ≠ 0 ∧ x.2.2.2.2.2 ≠ 0) ↔ ffP f vn (fuO f vn vb 1) ≠ -1 := by
  rw [ffP_iff]
  constructor
  · rintro ⟨x, hx, -, h2⟩
    obtain ⟨y, hy, e⟩ := List.mem_map.mp hx
    subst e
    exact ⟨y, fuO_sym.mp hy, h2⟩
  · rintro ⟨y, hy, h2⟩
    have h1 := (fuO_two (by decide)).mp hy
    exact ⟨_, List.mem_map.mpr ⟨y, fuO_sym.mp hy, rfl⟩, (show aI f (10 * y.1 + 6) ≠ 0 by rw [h1.2]; decide), h2⟩
/-! rules that rows follow -/
theorem LK.nat {G : XG} {b : Nat → Option Nat} {f : Nat → Int32} (hL : LK G b f) {r : Int} (hr : 0 ≤ r ∧ r < 12) : (b r.toNat = none ∧ aI f (10 * r + 0) = -1) ∨ (∃ q : Nat, b r.toNat = some q ∧ aI f (10 * r + 0) ≠ -1 ∧ RQ f r (G.1 q)) := by
  have e : (((r.toNat : Nat)) : Int) = r := by omega
  have h := hL r.toNat (by omega)
  rw [e] at h
  exact h
theorem clsA_ref {G : XG} {b : Nat → Option Nat} {f : Nat → Int32} (hL : LK G b f) : clsA G b = refA f := by
  funext r t
  unfold refA
  by_cases hr : 0 ≤ r ∧ r < 12
  · rcases hL.nat hr with ⟨a, c⟩ | ⟨q, a, -, c⟩
    · rw [clsA_n a, if_neg (by omega)]
    · obtain ⟨c0, -, -, -, c4, -, -, c7, -⟩ := c
      rw [clsA_s a, c0, c4, c7]
  · rw [if_neg (fun h => hr ⟨h.1, h.2.1⟩)]
    cases hb : b r.toNat with
    | none => exact clsA_n hb
    | some q => rw [clsA_s hb, if_neg (fun h => hr ⟨h.1, h.2.1⟩)]
theorem clsTC_ref {G : XG} {b : Nat → Option Nat} {f : Nat → Int32} (hL : LK G b f) : clsT G b = refT f ∧ clsC G b = refC f := by
  refine ⟨funext (fun r => ?_), funext (fun r => ?_)⟩
  · unfold clsT refT
    by_cases hr : 0 ≤ r ∧ r < 12
    · rcases hL.nat hr with ⟨a, c⟩ | ⟨q, a, -, c⟩
      · rw [a]; exact (if_neg (by omega)).symm
      · obtain ⟨c0, -, c2, -⟩ := c
        rw [a]
        show (if 0 ≤ r ∧ r < 12 ∧ (G.1 q 0).toInt = 1 then (G.1 q 2).toInt else 0) = _
        rw [c0, c2]
    · rw [if_neg (fun h => hr ⟨h.1, h.2.1⟩)]
      cases hb : b r.toNat with
      | none => rfl
      | some q => exact if_neg (fun h => hr ⟨h.1, h.2.1⟩)
  · unfold clsC refC
    by_cases hr : 0 ≤ r ∧ r < 12
    · rcases hL.nat hr with ⟨a, c⟩ | ⟨q, a, -, c⟩
      · rw [a]; exact (if_neg (by omega)).symm
      · obtain ⟨c0, -, -, c3, -⟩ := c
        rw [a]
        show (if 0 ≤ r ∧ r < 12 ∧ (G.1 q 0).toInt = 1 then (G.1 q 3).toInt else 0) = _
        rw [c0, c3]
    · rw [if_neg (fun h => hr ⟨h.1, h.2.1⟩)]
      cases hb : b r.toNat with
      | none => rfl
      | some q => exact if_neg (fun h => hr ⟨h.1, h.2.1⟩)
/-! ===== what holds between the two, piece by piece ===== -/
def A_text (n nt : Int) (c mr : Nat → Int32) : Prop := n = nt ∧ (0 ≤ n ∧ n ≤ 80) ∧ tC c n = tM mr n
theorem T_sign {n nt n1 nt1 r r1 : Int} {c mr c1 mr1 : Nat → Int32} {p : Int32} (h : A_text n nt c mr) (t : (76 < n ∧ r = -1 ∧ n1 = n) ∨ (n ≤ 76 ∧ r = n + 4 ∧ n1 = n + 4)) (o : (r = -1 ∧ c1 = c) ∨ (r ≠ -1 ∧ ∀ z : Int, 0 ≤ z → aI c1 z = if n ≤ z ∧ z < n + 4 then bqI p (24 - 8 * (z - n)) else aI c z)) (t2 : (76 < nt ∧ r1 = -1 ∧ nt1 = nt) ∨ (nt ≤ 76 ∧ r1 = nt + 4 ∧ nt1 = nt + 4)) (o2 : (r1 = -1 ∧ mr1 = mr) ∨ (r1 ≠ -1 ∧ ∀ z : Int, 0 ≤ z → aI mr1 z % 256 = if nt ≤ z ∧ z < nt + 4 then bqI p (24 - 8 * (z - nt)) else aI mr z % 256)) : r = r1 ∧ A_text n1 nt1 c1 mr1 := by
  obtain ⟨e0, hb, he⟩ := h
  subst e0
  rcases t with ⟨a1, a2, a3⟩ | ⟨a1, a2, a3⟩
  · rcases t2 with ⟨b1, b2, b3⟩ | ⟨b1, b2, b3⟩
    · rcases o with ⟨-, e⟩ | ⟨q, -⟩
      · rcases o2 with ⟨-, e2⟩ | ⟨q, -⟩
        · rw [e, e2, a3, b3]
          exact ⟨a2.trans b2.symm, rfl, hb, he⟩
        · exact absurd b2 q
      · exact absurd a2 q
    · omega
  · rcases t2 with ⟨b1, b2, b3⟩ | ⟨b1, b2, b3⟩
    · omega
    · rcases o with ⟨q, -⟩ | ⟨-, o⟩
      · omega
      · rcases o2 with ⟨q, -⟩ | ⟨-, o2⟩
        · omega
        · rw [a3, b3]
          refine ⟨a2.trans b2.symm, rfl, by omega, ?_⟩
          funext z
          have hz := congrFun he z
          unfold tC tM at hz ⊢
          by_cases g : 0 ≤ z ∧ z < n + 4
          · rw [if_pos g, if_pos g, o z g.1, o2 z g.1]
            by_cases g2 : n ≤ z ∧ z < n + 4
            · rw [if_pos g2, if_pos g2]
            · rw [if_neg g2, if_neg g2]
              rw [if_pos (by omega), if_pos (by omega)] at hz
              exact hz
          · rw [if_neg g, if_neg g]
theorem T_end {n nt n1 nt1 r r1 p : Int} {c mr : Nat → Int32} (h : A_text n nt c mr) (t : ((p < 0 ∨ n < p) ∧ r = 0 ∧ n1 = n) ∨ ((0 ≤ p ∧ p ≤ n) ∧ r = 1 ∧ n1 = p)) (t2 : ((p < 0 ∨ nt < p) ∧ r1 = 0 ∧ nt1 = nt) ∨ ((0 ≤ p ∧ p ≤ nt) ∧ r1 = 1 ∧ nt1 = p)) : r = r1 ∧ A_text n1 nt1 c mr := by
  obtain ⟨e0, hb, he⟩ := h
  subst e0
  have key : ∀ k : Int, k ≤ n → tC c k = tM mr k := by
    intro k hk
    funext z
    have hz := congrFun he z
    unfold tC tM at hz ⊢
    by_cases g : 0 ≤ z ∧ z < k
    · rw [if_pos g, if_pos g]
      rw [if_pos (by omega), if_pos (by omega)] at hz
      exact hz
    · rw [if_neg g, if_neg g]
  rcases t with ⟨a1, a2, a3⟩ | ⟨a1, a2, a3⟩
  · rcases t2 with ⟨b1, b2, b3⟩ | ⟨b1, b2, b3⟩
    · rw [a3, b3]; exact ⟨a2.trans b2.symm, rfl, hb, he⟩
    · omega
  · rcases t2 with ⟨b1, b2, b3⟩ | ⟨b1, b2, b3⟩
    · omega
    · rw [a3, b3]; exact ⟨a2.trans b2.symm, rfl, by omega, key p a1.2⟩
theorem T_0 (c mr : Nat → Int32) {n n1 : Int} (h : n = 0) (h1 : n1 = 0) : A_text n n1 c mr := by
  subst h h1
  refine ⟨rfl, by decide, ?_⟩
  funext z
  unfold tC tM
  rw [if_neg (by omega), if_neg (by omega)]
/-! the rules -/
def BKu (K : Nat → Nat) (G : XG) (f : Nat → Option Nat) : Prop := ∀ (i q : Nat), f i = some q → K q = 9 ∧ RW (G.1 q)
theorem BKu.r {K : Nat → Nat} {G : XG} {f : Nat → Option Nat} (h : BKu K G f) : BKr K G f := fun i q _ hq => h i q hq
def A_book (K : Nat → Nat) (F : Nat → Nat → Nat) (G : XG) (b : Nat) (f : Nat → Int32) : Prop := BO G F b ∧ BKu K G (G.2.2.1 (F b 0)) ∧ BKu K G (G.2.2.1 (F b 1)) ∧ ACo G (G.2.2.1 (F b 0)) ∧ RV f ∧ LK G (G.2.2.1 (F b 0)) f
theorem A_book.sb {K : Nat → Nat} {F : Nat → Nat → Nat} {G : XG} {b : Nat} {f : Nat → Int32} (h : A_book K F G b f) : 0 ≤ ((G.1 b 2).toInt) ∧ ((G.1 b 2).toInt) ≤ 12 := by
  have e := h.1.sz h.2.2.2.2.2
  have := ordN_le (prM f) (rkM f) 12
  omega
theorem RQ.cgf {f f1 : Nat → Int32} {i : Int} {q : Nat → Int32} (h : RQ f i q) (e : ∀ j : Int, 0 ≤ j → j < 9 → aI f1 (10 * i + j) = aI f (10 * i + j)) : RQ f1 i q := by
  unfold RQ at *
  rw [e 0 (by decide) (by decide), e 1 (by decide) (by decide), e 2 (by decide) (by decide), e 3 (by decide) (by decide), e 4 (by decide) (by decide), e 5 (by decide) (by decide), e 6 (by decide) (by decide), e 7 (by decide) (by decide), e 8 (by decide) (by decide)]
  exact h
theorem BO.cg {G u : XG} {F : Nat → Nat → Nat} {b : Nat} (h : BO G F b) (e0 : u.2.2.1 (F b 0) = G.2.2.1 (F b 0)) (e1 : u.2.2.1 (F b 1) = G.2.2.1 (F b 1)) (e2 : (u.1 b 2).toInt = (G.1 b 2).toInt) (hr : ∀ i q, i < 12 → G.2.2.1 (F b 0) i = some q → u.1 q 8 = G.1 q 8) : BO u F b := by
  unfold BO at h ⊢
  rw [e0, e1, e2]
  unfold ORn at h ⊢
  have e : ordN (fun i => (G.2.2.1 (F b 0) i).isSome) (fun i => rkO u (G.2.2.1 (F b 0) i)) 12 = ordN (fun i => (G.2.2.1 (F b 0) i).isSome) (fun i => rkO G (G.2.2.1 (F b 0) i)) 12 := ordN_cong 12 (fun _ _ => rfl) (fun i hi hp => by
    show rkO u (G.2.2.1 (F b 0) i) = rkO G (G.2.2.1 (F b 0) i)
    cases hq : G.2.2.1 (F b 0) i with
    | none => rfl
    | some q => exact congrArg Int32.toInt (hr i q hi hq))
  rw [e]
  exact h
theorem BKu.cg {K K1 : Nat → Nat} {G u : XG} {f f1 : Nat → Option Nat} (h : BKu K G f) (hf : f1 = f) (hM : ∀ q, K q = 9 → K1 q = 9) (hr : ∀ q, K q = 9 → u.1 q = G.1 q) : BKu K1 u f1 := fun i q hq => by
  rw [hf] at hq
  have h1 := h i q hq
  exact ⟨hM q h1.1, by rw [hr q h1.1]; exact h1.2⟩
theorem A_book.cg {K K1 : Nat → Nat} {F : Nat → Nat → Nat} {G u : XG} {b : Nat} {f f1 : Nat → Int32} (h : A_book K F G b f) (hM : ∀ q, K q = 9 → K1 q = 9) (hf : f1 = f) (e0 : u.2.2.1 (F b 0) = G.2.2.1 (F b 0)) (e1 : u.2.2.1 (F b 1) = G.2.2.1 (F b 1)) (e2 : (u.1 b 2).toInt = (G.1 b 2).toInt) (hr : ∀ q, K q = 9 → u.1 q = G.1 q) : A_book K1 F u b f1 := by
  obtain ⟨h1, h2, h3, h4, h5, h6⟩ := h
  subst hf
  refine ⟨h1.cg e0 e1 e2 (fun i q _ hq => by rw [hr q (h2 i q hq).1]), h2.cg e0 hM hr, h3.cg e1 hM hr, fun i q hi hq => ?_, h5, fun i hi => ?_⟩
  · rw [e0] at hq
    rw [hr q (h2 i q hq).1]
    exact h4 i q hi hq
  · rw [e0]
    rcases h6 i hi with h | ⟨q, a, c, d⟩
    · exact Or.inl h
    · exact Or.inr ⟨q, a, c, by rw [hr q (h2 i q a).1]; exact d⟩
theorem B_drop {K : Nat → Nat} {F : Nat → Nat → Nat} {G u : XG} {b : Nat} {f f1 : Nat → Int32} {p : Int} (h : A_book K F G b f) (hp : 0 ≤ p ∧ p < 12) (nb : ∀ i : Nat, u.2.2.1 (F b 0) i = if i = p.toNat then none else G.2.2.1 (F b 0) i) (hb : BO u F b) (fr : ∀ (i q : Nat), u.2.2.1 (F b 1) i = some q → (∃ j : Nat, G.2.2.1 (F b 1) j = some q) ∨ ∃ j : Nat, u.2.2.1 (F b 0) j = some q) (hr : ∀ q, K q = 9 → u.1 q = G.1 q) (hf : ∀ z : Int, 0 ≤ z → aI f1 z = if z = 10 * p then -1 else aI f z) (hV : RV f1) : A_book K F u b f1 := by
  obtain ⟨-, h2, h3, h4, -, h6⟩ := h
  have up : ∀ i q, u.2.2.1 (F b 0) i = some q → G.2.2.1 (F b 0) i = some q := by
    intro i q hq
    rw [nb i] at hq
    split at hq
    · cases hq
    · exact hq
  have k2 : BKu K u (u.2.2.1 (F b 0)) := fun i q hq => by
    have h := h2 i q (up i q hq)
    exact ⟨h.1, by rw [hr q h.1]; exact h.2⟩
  refine ⟨hb, k2, fun i q hq => ?_, fun i q hi hq => ?_, hV, fun i hi => ?_⟩
  · rcases fr i q hq with ⟨j, e⟩ | ⟨j, e⟩
    · have h := h3 j q e
      exact ⟨h.1, by rw [hr q h.1]; exact h.2⟩
    · exact k2 j q e
  · have e := up i q hq
    rw [hr q (h2 i q e).1]
    exact h4 i q hi e
  · by_cases g : i = p.toNat
    · exact Or.inl ⟨by rw [nb i, if_pos g], by rw [hf _ (by omega), if_pos (by omega)]⟩
    · rcases h6 i hi with ⟨a, c⟩ | ⟨q, a, c, d⟩
      · exact Or.inl ⟨by rw [nb i, if_neg g]; exact a, by rw [hf _ (by omega), if_neg (by omega)]; exact c⟩
      · refine Or.inr ⟨q, by rw [nb i, if_neg g]; exact a, by rw [hf _ (by omega), if_neg (by omega)]; exact c, ?_⟩
        rw [hr q (h2 i q a).1]
        exact d.cgf (fun j h1 h2 => by rw [hf _ (by omega), if_neg (by omega)])
theorem drop_all {K : Nat → Nat} {F : Nat → Nat → Nat} {G u : XG} {b : Nat} {f f1 : Nat → Int32} {p op op2 r r1 : Int} (h : A_book K F G b f) (ho : op = op2) (hr : ∀ q, K q = 9 → u.1 q = G.1 q)
    (t : (r = -2 ∧ ((p < 0 ∨ 12 ≤ p) ∨ G.2.2.1 (F b 0) p.toNat = none) ∧ u.2.2.1 (F b 0) = G.2.2.1 (F b 0) ∧ u.2.2.1 (F b 1) = G.2.2.1 (F b 1) ∧ (u.1 b 2).toInt = (G.1 b 2).toInt) ∨ ((0 ≤ p ∧ p < 12) ∧ (∃ q : Nat, G.2.2.1 (F b 0) p.toNat = some q) ∧ ((op ≠ 0 ∧ r = -3 ∧ u.2.2.1 (F b 0) = G.2.2.1 (F b 0) ∧ u.2.2.1 (F b 1) = G.2.2.1 (F b 1) ∧ (u.1 b 2).toInt = (G.1 b 2).toInt) ∨ (op = 0 ∧ (∀ i : Nat, u.2.2.1 (F b 0) i = if i = p.toNat then none else G.2.2.1 (F b 0) i) ∧ BO u F b ∧ r = (u.1 b 2).toInt))))
    (fr : ∀ (i q : Nat), u.2.2.1 (F b 1) i = some q → (∃ j : Nat, G.2.2.1 (F b 1) j = some q) ∨ ∃ j : Nat, u.2.2.1 (F b 0) j = some q)
    (t2 : (¬ (0 ≤ p ∧ p ≤ 11 ∧ aI f (10 * p + 0) ≠ -1) ∧ r1 = -2 ∧ f1 = f) ∨ ((0 ≤ p ∧ p ≤ 11 ∧ aI f (10 * p + 0) ≠ -1) ∧ ((op2 ≠ 0 ∧ r1 = -3 ∧ f1 = f) ∨ (op2 = 0 ∧ (∀ z : Int, 0 ≤ z → aI f1 z = if z = 10 * p then -1 else aI f z) ∧ r1 = nRl f1 12)))) (hV : RV f1) : r = r1 ∧ A_book K F u b f1 ∧ (op ≠ 0 → f1 = f) := by
  subst ho
  have hL := h.2.2.2.2.2
  rcases t with ⟨a1, a2, e0, e1, e2⟩ | ⟨a1, ⟨q, a2⟩, t⟩
  · rcases t2 with ⟨-, b2, b3⟩ | ⟨b1, -⟩
    · exact ⟨a1.trans b2.symm, h.cg (fun _ h => h) b3 e0 e1 e2 hr, fun _ => b3⟩
    · exfalso
      rcases hL.nat (r := p) (by omega) with ⟨-, c⟩ | ⟨q, c, -⟩
      · exact b1.2.2 c
      · rcases a2 with a2 | a2
        · omega
        · rw [a2] at c; cases c
  · have hk : aI f (10 * p + 0) ≠ -1 := by
      rcases hL.nat a1 with ⟨c, -⟩ | ⟨_, -, c, -⟩
      · rw [a2] at c; cases c
      · exact c
    rcases t2 with ⟨b1, -⟩ | ⟨-, t2⟩
    · exact absurd ⟨a1.1, by omega, hk⟩ b1
    · rcases t with ⟨o, a3, e0, e1, e2⟩ | ⟨o, nb, hb, a3⟩
      · rcases t2 with ⟨-, b3, b4⟩ | ⟨o2, -⟩
        · exact ⟨a3.trans b3.symm, h.cg (fun _ h => h) b4 e0 e1 e2 hr, fun _ => b4⟩
        · exact absurd o2 o
      · rcases t2 with ⟨o2, -⟩ | ⟨-, b3, b4⟩
        · exact absurd o o2
        · have hB := B_drop h a1 nb hb fr hr b3 hV
          have e := hB.1.sz hB.2.2.2.2.2
          refine ⟨?_, hB, fun o2 => absurd o o2⟩
          rw [a3, b4, nRl_eq, e]
          rfl
/-! a rule is told -/
theorem rule_all {K K1 : Nat → Nat} {F : Nat → Nat → Nat} {G u : XG} {b q : Nat} {f f1 : Nat → Int32} {op op2 n r r1 : Int} {vn v9 : Int → Int} {T : Int → Int} (h : A_book K F G b f) (ho : op = op2) (h9 : v9 = v0) (hq9 : K1 q = 9) (hM : KM K K1) (hr : ∀ p, K p = 9 → u.1 p = G.1 p)
    (t : (¬ rOk T n ∧ r = -1000 - (rS9 T).2.2 ∧ (u.2.2.1 (F b 0) = G.2.2.1 (F b 0) ∧ u.2.2.1 (F b 1) = G.2.2.1 (F b 1) ∧ u.1 b 2 = G.1 b 2)) ∨ (rOk T n ∧ op ≠ 0 ∧ r = -3 ∧ (u.2.2.1 (F b 0) = G.2.2.1 (F b 0) ∧ u.2.2.1 (F b 1) = G.2.2.1 (F b 1) ∧ u.1 b 2 = G.1 b 2)) ∨ (rOk T n ∧ op = 0 ∧ (∀ i : Nat, i < 12 → G.2.2.1 (F b 0) i ≠ none) ∧ r = -4 ∧ (u.2.2.1 (F b 0) = G.2.2.1 (F b 0) ∧ u.2.2.1 (F b 1) = G.2.2.1 (F b 1) ∧ u.1 b 2 = G.1 b 2)) ∨ (rOk T n ∧ op = 0 ∧ (0 ≤ (u.1 q 1).toInt ∧ (u.1 q 1).toInt ≤ 11) ∧ G.2.2.1 (F b 0) ((u.1 q 1).toInt).toNat = none ∧ (∀ i : Nat, (i : Int) < (u.1 q 1).toInt → G.2.2.1 (F b 0) i ≠ none) ∧ ((u.1 q 0).toInt = (rS1 T).1 ∧ (u.1 q 2).toInt = (rS2 T).1 ∧ (u.1 q 3).toInt = (rS3 T).1 ∧ (u.1 q 4).toInt = (rS4 T).1 ∧ (u.1 q 5).toInt = (rS5 T).1 ∧ (u.1 q 6).toInt = (rS6 T).1 ∧ (u.1 q 7).toInt = (rS7 T).1 ∧ (u.1 q 8).toInt = (rS9 T).1 ∧ (u.1 q 9).toInt = (rS8 T).1) ∧ ((ffL (uqs v9 vn (u.1 q)) ≠ -1 ∧ r = -5 ∧ (u.2.2.1 (F b 0) = G.2.2.1 (F b 0) ∧ u.2.2.1 (F b 1) = G.2.2.1 (F b 1) ∧ u.1 b 2 = G.1 b 2)) ∨ (ffL (uqs v9 vn (u.1 q)) = -1 ∧ r = (u.1 q 1).toInt ∧ (∀ i : Nat, u.2.2.1 (F b 0) i = if i = ((u.1 q 1).toInt).toNat then some q else G.2.2.1 (F b 0) i) ∧ BO u F b))))
    (fr : ∀ (i p : Nat), u.2.2.1 (F b 1) i = some p → (∃ j : Nat, G.2.2.1 (F b 1) j = some p) ∨ ∃ j : Nat, u.2.2.1 (F b 0) j = some p)
    (t2 : (¬ rOk T n ∧ r1 = -1000 - (rS9 T).2.2 ∧ f1 = f) ∨ (rOk T n ∧ op2 ≠ 0 ∧ r1 = -3 ∧ f1 = f) ∨ (rOk T n ∧ op2 = 0 ∧ (∀ i : Int, 0 ≤ i → i < 12 → aI f (10 * i + 0) ≠ -1) ∧ r1 = -4 ∧ f1 = f) ∨ (rOk T n ∧ op2 = 0 ∧ ∃ (k : Int) (d g : Nat → Int32), ((0 ≤ k ∧ k ≤ 11) ∧ aI f (10 * k + 0) = -1 ∧ ∀ i : Int, 0 ≤ i → i < k → aI f (10 * i + 0) ≠ -1) ∧ DFo d T ∧ CPd d f g 0 (10 * k) 9 ∧ (((∃ s : Int, sbj (aI g (10 * k + 0)) s ∧ fzq g vn k s = 1) ∧ r1 = -5 ∧ ∀ z : Int, 0 ≤ z → aI f1 z = if z = 10 * k then -1 else aI g z) ∨ ((∀ s : Int, sbj (aI g (10 * k + 0)) s → fzq g vn k s = 0) ∧ r1 = k ∧ f1 = g))))
    (hV : RV f1) : A_book K1 F u b f1 ∧ (op ≠ 0 → f1 = f) ∧ r = r1 := by
  subst ho h9
  have m9 : ∀ p, K p = 9 → K1 p = 9 := fun p hp => hM p 9 hp (by decide)
  have hL := h.2.2.2.2.2
  have hRV := h.2.2.2.2.1
  have sm : f1 = f → (u.2.2.1 (F b 0) = G.2.2.1 (F b 0) ∧ u.2.2.1 (F b 1) = G.2.2.1 (F b 1) ∧ u.1 b 2 = G.1 b 2) → A_book K1 F u b f1 := fun e ⟨e0, e1, e2⟩ => h.cg m9 e e0 e1 (by rw [e2]) hr
  rcases t with ⟨a1, a0, s⟩ | ⟨a1, a2, a3, s⟩ | ⟨a1, a2, a3, a4, s⟩ | ⟨a1, a2, hk, hn, hlt, hfl, t⟩
  · rcases t2 with ⟨-, b2, b3⟩ | ⟨b1, -⟩ | ⟨b1, -⟩ | ⟨b1, -⟩
    · exact ⟨sm b3 s, fun _ => b3, a0.trans b2.symm⟩
    · exact absurd b1 a1
    · exact absurd b1 a1
    · exact absurd b1 a1
  · rcases t2 with ⟨b1, -⟩ | ⟨-, -, b2, b3⟩ | ⟨-, b1, -⟩ | ⟨-, b1, -⟩
    · exact absurd a1 b1
    · exact ⟨sm b3 s, fun _ => b3, a3.trans b2.symm⟩
    · exact absurd b1 a2
    · exact absurd b1 a2
  · rcases t2 with ⟨b1, -⟩ | ⟨-, b1, -⟩ | ⟨-, -, b1, b2, b3⟩ | ⟨-, -, k, d, g, ⟨k1, k2, -⟩, -⟩
    · exact absurd a1 b1
    · exact absurd a2 b1
    · exact ⟨sm b3 s, fun _ => b3, a4.trans b2.symm⟩
    · exfalso
      rcases hL.nat (r := k) (by omega) with ⟨c, -⟩ | ⟨q, -, c, -⟩
      · exact a3 k.toNat (by omega) c
      · exact c k2
  · rcases t2 with ⟨b1, -⟩ | ⟨-, b1, -⟩ | ⟨-, -, b1, -⟩ | ⟨-, -, k, d, g, ⟨k1, k2, k3⟩, hd, hc, t2⟩
    · exact absurd a1 b1
    · exact absurd a2 b1
    · exfalso
      rcases hL.nat (r := (u.1 q 1).toInt) (by omega) with ⟨-, c⟩ | ⟨p, c, -⟩
      · exact b1 _ hk.1 (by omega) c
      · rw [hn] at c; cases c
    · have ek : (u.1 q 1).toInt = k := by
        rcases Int.lt_trichotomy (u.1 q 1).toInt k with l | l | l
        · exfalso
          rcases hL.nat (r := (u.1 q 1).toInt) (by omega) with ⟨-, c⟩ | ⟨p, c, -⟩
          · exact k3 _ hk.1 l c
          · rw [hn] at c; cases c
        · exact l
        · exfalso
          rcases hL.nat (r := k) (by omega) with ⟨c, -⟩ | ⟨p, -, c, -⟩
          · exact hlt k.toNat (by omega) c
          · exact c k2
      have hVg : RV g := hRV.cpd k1 hc hd
      have at_ : ∀ j : Int, 0 ≤ j → j < 9 → aI g (10 * k + j) = aI d j := fun j h0 h1 => hc.at (by omega) ⟨h0, h1⟩
      have rb := rS_b T
      have hQ : RQ g k (u.1 q) := by
        obtain ⟨f0, f2, f3, f4, f5, f6, f7, f8, f9⟩ := hfl
        obtain ⟨d0, d1, d2, d3, d4, d5, d6, d7, d8⟩ := hd
        unfold RQ
        rw [at_ 0 (by decide) (by decide), at_ 1 (by decide) (by decide), at_ 2 (by decide) (by decide), at_ 3 (by decide) (by decide), at_ 4 (by decide) (by decide), at_ 5 (by decide) (by decide), at_ 6 (by decide) (by decide), at_ 7 (by decide) (by decide), at_ 8 (by decide) (by decide), d0, d1, d2, d3, d4, d5, d6, d7, d8]
        exact ⟨f0, ek, f2, f3, f4, f5, f6, f7, f8, f9, by rw [f9]; exact rb.2.2.2.2.2.2⟩
      have hW : RW (u.1 q) := by
        obtain ⟨f0, f2, f3, f4, -⟩ := hfl
        unfold RW
        rw [f0, f2, f3, f4]
        exact ⟨rb.1, rb.2.1, rb.2.2.1, rb.2.2.2.1, rb.2.2.2.2.1⟩
      have hl := rule_link (r := vn) hVg (k := k) (by omega) hQ
      have oth : ∀ z : Int, 0 ≤ z → ¬ (10 * k ≤ z ∧ z < 10 * k + 9) → aI g z = aI f z := fun z h0 h1 => by rw [hc z h0, if_neg h1]
      rcases t with ⟨c1, c2, s⟩ | ⟨c1, c2, nb, hb⟩
      · rcases t2 with ⟨e1, e2, e3⟩ | ⟨e1, -⟩
        · refine ⟨?_, fun o => absurd a2 o, c2.trans e2.symm⟩
          obtain ⟨e0, e4, e5⟩ := s
          have hb := h.cg (f1 := f) m9 rfl e0 e4 (by rw [e5]) hr
          obtain ⟨x1, x2, x3, x4, -, x6⟩ := hb
          refine ⟨x1, x2, x3, x4, hV, fun i hi => ?_⟩
          by_cases g9 : (i : Int) = k
          · refine Or.inl ⟨?_, by rw [g9, e3 _ (by omega), if_pos (by omega)]⟩
            rw [e0, show i = ((u.1 q 1).toInt).toNat by omega]
            exact hn
          · rcases x6 i hi with ⟨a, c⟩ | ⟨p, a, c, d⟩
            · exact Or.inl ⟨a, by rw [e3 _ (by omega), if_neg (by omega), oth _ (by omega) (by omega)]; exact c⟩
            · exact Or.inr ⟨p, a, by rw [e3 _ (by omega), if_neg (by omega), oth _ (by omega) (by omega)]; exact c, d.cgf (fun j h1 h2 => by rw [e3 _ (by omega), if_neg (by omega), oth _ (by omega) (by omega)])⟩
        · exfalso
          obtain ⟨s, s1, s2⟩ := hl.mp c1
          rw [e1 s s1] at s2
          exact absurd s2 (by decide)
      · rcases t2 with ⟨e1, -⟩ | ⟨-, e2, e3⟩
        · exact absurd c1 (hl.mpr e1)
        · subst e3
          refine ⟨?_, fun o => absurd a2 o, by rw [c2, ek]; exact e2.symm⟩
          obtain ⟨-, h2, h3, h4, -, h6⟩ := h
          have k9 : BKu K1 u (u.2.2.1 (F b 0)) := fun i p hp => by
            rw [nb i] at hp
            split at hp
            · cases hp
              exact ⟨hq9, hW⟩
            · have h := h2 i p hp
              exact ⟨m9 p h.1, by rw [hr p h.1]; exact h.2⟩
          refine ⟨hb, k9, fun i p hp => ?_, fun i p hi hp => ?_, hV, fun i hi => ?_⟩
          · rcases fr i p hp with ⟨j, e⟩ | ⟨j, e⟩
            · have h := h3 j p e
              exact ⟨m9 p h.1, by rw [hr p h.1]; exact h.2⟩
            · exact k9 j p e
          · rw [nb i] at hp
            split at hp
            · cases hp
              rw [hfl.2.2.2.2.2.2.1]
              exact rb.2.2.2.2.2.1
            · rw [hr p (h2 i p hp).1]
              exact h4 i p hi hp
          · by_cases g9 : i = ((u.1 q 1).toInt).toNat
            · have ei : (i : Int) = k := by omega
              refine Or.inr ⟨q, by rw [nb i, if_pos g9], ?_, by rw [ei]; exact hQ⟩
              rw [ei, at_ 0 (by decide) (by decide), hd.1]
              have := rb.1
              omega
            · rcases h6 i hi with ⟨a, c⟩ | ⟨p, a, c, d⟩
              · exact Or.inl ⟨by rw [nb i, if_neg g9]; exact a, by rw [oth _ (by omega) (by omega)]; exact c⟩
              · refine Or.inr ⟨p, by rw [nb i, if_neg g9]; exact a, by rw [oth _ (by omega) (by omega)]; exact c, ?_⟩
                rw [hr p (h2 i p a).1]
                exact d.cgf (fun j h1 h2 => oth _ (by omega) (by omega))
