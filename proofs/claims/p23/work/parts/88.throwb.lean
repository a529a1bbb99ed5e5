def nx_in (w : Cond) : Prop := w ∈ GT ∨ w = .isRef (.static Bundle.tN "UNASSIGNED_STACK" Bundle.steD) ∨ w = .isRef (.static Bundle.tN "SUPPRESSED_SENTINEL" Bundle.listD) ∨ w = .laysStatic Bundle.tN "UNASSIGNED_STACK" Bundle.steD ∨ w = .laysStatic Bundle.tN "SUPPRESSED_SENTINEL" Bundle.listD ∨ w = .declares (Bundle.initS RTN) ∨ w = .declares (Bundle.initS EXN) ∨ w = .declares (Bundle.initS Bundle.tN)
/-- words that a warmed machine keeps by rows of their own -/
def XD (U : State) : Prop := va_Nw (.declares (Bundle.initS RTN)) U ∧ va_Nw (.declares (Bundle.initS EXN)) U ∧ va_Nw (.declares (Bundle.initS Bundle.tN)) U ∧ va_Nw (.castable NXN NXN) U
theorem XD.warm {s U : State} (hW : s.WarmedH U.vm) (h : XD s) : XD U := ⟨va_Nw.warmD hW h.1, va_Nw.warmD hW h.2.1, va_Nw.warmD hW h.2.2.1, va_Nw.warmC hW h.2.2.2⟩
theorem XD.same {s U : State} (hv : s.vm = U.vm) (h : XD s) : XD U := ⟨va_Nw.same rfl hv h.1, va_Nw.same rfl hv h.2.1, va_Nw.same rfl hv h.2.2.1, va_Nw.same rfl hv h.2.2.2⟩
def XPn (E : XE) (K : Nat → Nat) (F : Nat → Nat → Nat) (G : XG) (U : State) : Prop := XP E K F G U ∧ XD U
theorem XPn.blind {E : XE} {K : Nat → Nat} {F : Nat → Nat → Nat} {G : XG} {av : List Value} : FrameBlind (va_Pc av (XPn E K F G)) := fun a U g mk h => ⟨h.1, ⟨h.2.1.1, h.2.1.2.1.same (u := U) rfl rfl, h.2.1.2.2⟩, XD.same (s := U) rfl h.2.2⟩
set_option maxRecDepth 100000 in
theorem nx_ta : ∀ w ∈ Bundle.throwableAtoms, nx_in w := List.forall_mem_cons.mpr ⟨Or.inl (GT_mem 115 (by first | rfl | decide +kernel) rfl), List.forall_mem_cons.mpr ⟨Or.inl (GT_mem 1343 (by first | rfl | decide +kernel) rfl), List.forall_mem_cons.mpr ⟨Or.inl (GT_mem 1352 (by first | rfl | decide +kernel) rfl), List.forall_mem_cons.mpr ⟨Or.inl (GT_mem 1354 (by first | rfl | decide +kernel) rfl), List.forall_mem_cons.mpr ⟨Or.inl (GT_mem 1357 (by first | rfl | decide +kernel) rfl), List.forall_mem_cons.mpr ⟨Or.inl (GT_mem 1359 (by first | rfl | decide +kernel) rfl), List.forall_mem_cons.mpr ⟨Or.inl (GT_mem 1344 (by first | rfl | decide +kernel) rfl), List.forall_mem_cons.mpr ⟨Or.inl (GT_mem 1345 (by first | rfl | decide +kernel) rfl), List.forall_mem_cons.mpr ⟨Or.inl (GT_mem 125 (by first | rfl | decide +kernel) rfl), List.forall_mem_cons.mpr ⟨Or.inl (GT_mem 126 (by first | rfl | decide +kernel) rfl), List.forall_mem_cons.mpr ⟨Or.inl (GT_mem 1346 (by first | rfl | decide +kernel) rfl), List.forall_mem_cons.mpr ⟨Or.inl (GT_mem 1351 (by first | rfl | decide +kernel) rfl), List.forall_mem_cons.mpr ⟨Or.inl (GT_mem 1355 (by first | rfl | decide +kernel) rfl), List.forall_mem_cons.mpr ⟨Or.inl (GT_mem 1375 (by first | rfl | decide +kernel) rfl), List.forall_mem_cons.mpr ⟨Or.inl (GT_mem 1333 (by first | rfl | decide +kernel) rfl), List.forall_mem_cons.mpr ⟨Or.inl (GT_mem 1376 (by first | rfl | decide +kernel) rfl), List.forall_mem_cons.mpr ⟨Or.inl (GT_mem 1335 (by first | rfl | decide +kernel) rfl), List.forall_mem_cons.mpr ⟨Or.inl (GT_mem 1377 (by first | rfl | decide +kernel) rfl), List.forall_mem_cons.mpr ⟨Or.inl (GT_mem 1337 (by first | rfl | decide +kernel) rfl), List.forall_mem_cons.mpr ⟨Or.inl (GT_mem 1347 (by first | rfl | decide +kernel) rfl), List.forall_mem_cons.mpr ⟨Or.inr (Or.inr (Or.inr (Or.inl rfl))), List.forall_mem_cons.mpr ⟨Or.inl (GT_mem 1349 (by first | rfl | decide +kernel) rfl), List.forall_mem_cons.mpr ⟨Or.inr (Or.inr (Or.inr (Or.inr (Or.inl rfl)))), List.forall_mem_cons.mpr ⟨Or.inl (GT_mem 1339 (by first | rfl | decide +kernel) rfl), (fun _ h => absurd h List.not_mem_nil)⟩⟩⟩⟩⟩⟩⟩⟩⟩⟩⟩⟩⟩⟩⟩⟩⟩⟩⟩⟩⟩⟩⟩⟩
set_option maxRecDepth 100000 in
theorem nx_ts : ∀ w ∈ Bundle.throwableSAtoms, nx_in w := List.forall_mem_cons.mpr ⟨Or.inl (GT_mem 1371 (by first | rfl | decide +kernel) rfl), List.forall_mem_cons.mpr ⟨Or.inl (GT_mem 1372 (by first | rfl | decide +kernel) rfl), List.forall_mem_cons.mpr ⟨Or.inl (GT_mem 1374 (by first | rfl | decide +kernel) rfl), List.forall_mem_cons.mpr ⟨Or.inl (GT_mem 1339 (by first | rfl | decide +kernel) rfl), (fun _ h => absurd h List.not_mem_nil)⟩⟩⟩⟩
set_option maxRecDepth 100000 in
theorem nx_p1 : ∀ w ∈ Bundle.passSAtoms NXN RTN 13 prog_34_method_4_code, nx_in w := List.forall_mem_cons.mpr ⟨Or.inl (GT_mem 1362 (by first | rfl | decide +kernel) rfl), List.forall_mem_cons.mpr ⟨Or.inl (GT_mem 1363 (by first | rfl | decide +kernel) rfl), List.forall_mem_cons.mpr ⟨Or.inl (GT_mem 1364 (by first | rfl | decide +kernel) rfl), List.forall_mem_cons.mpr ⟨Or.inl (GT_mem 1365 (by first | rfl | decide +kernel) rfl), List.forall_mem_cons.mpr ⟨Or.inr (Or.inr (Or.inr (Or.inr (Or.inr (Or.inl rfl))))), (fun _ h => absurd h List.not_mem_nil)⟩⟩⟩⟩⟩
set_option maxRecDepth 100000 in
theorem nx_p2 : ∀ w ∈ Bundle.passSAtoms RTN EXN 7 prog_24_method_2_code, nx_in w := List.forall_mem_cons.mpr ⟨Or.inl (GT_mem 1365 (by first | rfl | decide +kernel) rfl), List.forall_mem_cons.mpr ⟨Or.inl (GT_mem 1366 (by first | rfl | decide +kernel) rfl), List.forall_mem_cons.mpr ⟨Or.inl (GT_mem 1367 (by first | rfl | decide +kernel) rfl), List.forall_mem_cons.mpr ⟨Or.inl (GT_mem 1368 (by first | rfl | decide +kernel) rfl), List.forall_mem_cons.mpr ⟨Or.inr (Or.inr (Or.inr (Or.inr (Or.inr (Or.inr (Or.inl rfl)))))), (fun _ h => absurd h List.not_mem_nil)⟩⟩⟩⟩⟩
set_option maxRecDepth 100000 in
theorem nx_p3 : ∀ w ∈ Bundle.passSAtoms EXN Bundle.tN 7 prog_20_method_2_code, nx_in w := List.forall_mem_cons.mpr ⟨Or.inl (GT_mem 1368 (by first | rfl | decide +kernel) rfl), List.forall_mem_cons.mpr ⟨Or.inl (GT_mem 1369 (by first | rfl | decide +kernel) rfl), List.forall_mem_cons.mpr ⟨Or.inl (GT_mem 1370 (by first | rfl | decide +kernel) rfl), List.forall_mem_cons.mpr ⟨Or.inl (GT_mem 1371 (by first | rfl | decide +kernel) rfl), List.forall_mem_cons.mpr ⟨Or.inr (Or.inr (Or.inr (Or.inr (Or.inr (Or.inr (Or.inr rfl)))))), (fun _ h => absurd h List.not_mem_nil)⟩⟩⟩⟩⟩
set_option maxRecDepth 100000 in
theorem nx_re : ∀ w ∈ nx_rest RX10 262, nx_in w := List.forall_mem_cons.mpr ⟨Or.inl (GT_mem 1361 (by first | rfl | decide +kernel) rfl), List.forall_mem_cons.mpr ⟨Or.inl (GT_mem 1322 (by first | rfl | decide +kernel) rfl), List.forall_mem_cons.mpr ⟨Or.inl (GT_mem 1330 (by first | rfl | decide +kernel) rfl), List.forall_mem_cons.mpr ⟨Or.inl (GT_mem 1331 (by first | rfl | decide +kernel) rfl), List.forall_mem_cons.mpr ⟨Or.inl (GT_mem 1332 (by first | rfl | decide +kernel) rfl), List.forall_mem_cons.mpr ⟨Or.inl (GT_mem 1334 (by first | rfl | decide +kernel) rfl), List.forall_mem_cons.mpr ⟨Or.inl (GT_mem 1336 (by first | rfl | decide +kernel) rfl), List.forall_mem_cons.mpr ⟨Or.inl (GT_mem 1338 (by first | rfl | decide +kernel) rfl), List.forall_mem_cons.mpr ⟨Or.inr (Or.inl rfl), List.forall_mem_cons.mpr ⟨Or.inr (Or.inr (Or.inl rfl)), List.forall_mem_cons.mpr ⟨Or.inl (GT_mem 1342 (by first | rfl | decide +kernel) rfl), List.forall_mem_cons.mpr ⟨Or.inl (GT_mem 1341 (by first | rfl | decide +kernel) rfl), List.forall_mem_cons.mpr ⟨Or.inl (GT_mem 1340 (by first | rfl | decide +kernel) rfl), (fun _ h => absurd h List.not_mem_nil)⟩⟩⟩⟩⟩⟩⟩⟩⟩⟩⟩⟩⟩
theorem nx_all : ∀ w ∈ nx_atoms RX10 262, nx_in w := List.forall_mem_append.mpr ⟨nx_ta, List.forall_mem_append.mpr ⟨nx_ts, List.forall_mem_append.mpr ⟨nx_p1, List.forall_mem_append.mpr ⟨nx_p2, List.forall_mem_append.mpr ⟨nx_p3, nx_re⟩⟩⟩⟩⟩
theorem k_nx : Cond.classLink RX10 258 NXN ∈ GT ∧ Cond.initialized NXN ∈ GT ∧ Cond.classLink RL 13 NXN ∈ GT := ⟨GT_mem 1321 (by decide +kernel) rfl, GT_mem 118 (by decide +kernel) rfl, GT_mem 1316 (by decide +kernel) rfl⟩
theorem TW.kept {E : XE} {K : Nat → Nat} {F : Nat → Nat → Nat} {G : XG} {H H1 : Heap} (h : TW E K F G H) (hq : ∀ q : Nat, q < H.size → H1[q]? = H[q]?) : TW E K F G H1 := by
  obtain ⟨ws, h1, h2, h3⟩ := h
  exact ⟨ws, h1, h2.kept (fun k q hk => hq q.1 (h2 k q hk).lt), h3⟩
/-- kinds that stay, but for rows of longs -/
def KE (K K1 : Nat → Nat) : Prop := ∀ (x n : Nat), K x = n → n ≠ 0 → n ≠ 14 → K1 x = n
theorem KE.rf {K : Nat → Nat} : KE K K := fun _ _ h _ _ => h
theorem SHP.mono14 {E : XE} {K K1 : Nat → Nat} {F : Nat → Nat → Nat} {d c : Nat → Int32} {r : Nat → Option Nat} {l : Nat → Int64} {a k : Nat} {e : va_E} (m : KE K K1) (h : SHP E K F d c r l a k e) : SHP E K1 F d c r l a k e := by
  unfold SHP at h ⊢
  split at h
  · obtain ⟨h0, h1, h2, h3, h4⟩ := h
    exact ⟨h0, m _ _ h1 (by decide) (by decide), h2, m _ _ h3 (by decide) (by decide), h4⟩
  · obtain ⟨h0, h1, h2, h3, h4, h5, h6⟩ := h
    exact ⟨h0, m _ _ h1 (by decide) (by decide), h2, m _ _ h3 (by decide) (by decide), h4, m _ _ h5 (by decide) (by decide), h6⟩
  · obtain ⟨h0, h1, h2, h3, h4, h5, h6, h7, h8⟩ := h
    exact ⟨h0, m _ _ h1 (by decide) (by decide), h2, m _ _ h3 (by decide) (by decide), h4, m _ _ h5 (by decide) (by decide), h6, m _ _ h7 (by decide) (by decide), h8⟩
  · obtain ⟨h0, h1, h2, h3, h4, h5, h6⟩ := h
    exact ⟨h0, m _ _ h1 (by decide) (by decide), h2, m _ _ h3 (by decide) (by decide), h4, m _ _ h5 (by decide) (by decide), h6⟩
  · obtain ⟨h0, h1, h2, h3, h4, h5, h6, h7, h8, h9, h10, h11, h12⟩ := h
    exact ⟨h0, m _ _ h1 (by decide) (by decide), h2, m _ _ h3 (by decide) (by decide), h4, m _ _ h5 (by decide) (by decide), h6, m _ _ h7 (by decide) (by decide), h8, m _ _ h9 (by decide) (by decide), h10, m _ _ h11 (by decide) (by decide), h12⟩
  · obtain ⟨h0, h1, h2, h3⟩ := h
    exact ⟨h0, m _ _ h1 (by decide) (by decide), h2, h3⟩
  · obtain ⟨h0, h1, h2, h3, h4⟩ := h
    exact ⟨h0, m _ _ h1 (by decide) (by decide), h2, m _ _ h3 (by decide) (by decide), h4⟩
  · exact h
  · obtain ⟨h0, h1, h2⟩ := h
    exact ⟨h0, m _ _ h1 (by decide) (by decide), h2⟩
  · exact h
  · obtain ⟨h0, h1, h2, h3, h4, h5, h6, h7, h8, h9, h10, h11, h12, h13, h14, h15, h16, h17, h18, h19, h20, h21, h22, h23, h24, h25, h26, h27, h28, h29, h30, h31, h32, h33, h34, h35⟩ := h
    exact ⟨h0, m _ _ h1 (by decide) (by decide), h2, m _ _ h3 (by decide) (by decide), h4, m _ _ h5 (by decide) (by decide), h6, m _ _ h7 (by decide) (by decide), h8, m _ _ h9 (by decide) (by decide), h10, m _ _ h11 (by decide) (by decide), h12, m _ _ h13 (by decide) (by decide), h14, m _ _ h15 (by decide) (by decide), h16, m _ _ h17 (by decide) (by decide), h18, m _ _ h19 (by decide) (by decide), h20, m _ _ h21 (by decide) (by decide), h22, m _ _ h23 (by decide) (by decide), h24, m _ _ h25 (by decide) (by decide), h26, m _ _ h27 (by decide) (by decide), h28, m _ _ h29 (by decide) (by decide), h30, m _ _ h31 (by decide) (by decide), h32, m _ _ h33 (by decide) (by decide), h34, h35⟩
  · obtain ⟨h0, h1, h2, h3, h4, h5, h6, h7, h8, h9, h10, h11, h12, h13, h14, h15, h16, h17, h18, h19, h20, h21, h22, h23, h24, h25, h26, h27, h28, h29, h30, h31, h32, h33, h34, h35, h36, h37, h38, h39, h40, h41, h42, h43, h44, h45, h46, h47, h48, h49, h50, h51, h52, h53, h54, h55, h56, h57, h58, h59, h60, h61, h62, h63, h64, h65, h66, h67, h68, h69, h70, h71, h72, h73, h74⟩ := h
    exact ⟨h0, m _ _ h1 (by decide) (by decide), h2, m _ _ h3 (by decide) (by decide), h4, m _ _ h5 (by decide) (by decide), h6, m _ _ h7 (by decide) (by decide), h8, m _ _ h9 (by decide) (by decide), h10, h11, m _ _ h12 (by decide) (by decide), h13, m _ _ h14 (by decide) (by decide), h15, m _ _ h16 (by decide) (by decide), h17, m _ _ h18 (by decide) (by decide), h19, m _ _ h20 (by decide) (by decide), h21, m _ _ h22 (by decide) (by decide), h23, m _ _ h24 (by decide) (by decide), h25, m _ _ h26 (by decide) (by decide), h27, m _ _ h28 (by decide) (by decide), h29, m _ _ h30 (by decide) (by decide), h31, m _ _ h32 (by decide) (by decide), h33, m _ _ h34 (by decide) (by decide), h35, m _ _ h36 (by decide) (by decide), h37, m _ _ h38 (by decide) (by decide), h39, m _ _ h40 (by decide) (by decide), h41, m _ _ h42 (by decide) (by decide), h43, m _ _ h44 (by decide) (by decide), h45, m _ _ h46 (by decide) (by decide), h47, m _ _ h48 (by decide) (by decide), h49, m _ _ h50 (by decide) (by decide), h51, m _ _ h52 (by decide) (by decide), h53, m _ _ h54 (by decide) (by decide), h55, m _ _ h56 (by decide) (by decide), h57, h58, m _ _ h59 (by decide) (by decide), h60, m _ _ h61 (by decide) (by decide), h62, m _ _ h63 (by decide) (by decide), h64, m _ _ h65 (by decide) (by decide), h66, m _ _ h67 (by decide) (by decide), h68, m _ _ h69 (by decide) (by decide), h70, m _ _ h71 (by decide) (by decide), h72, m _ _ h73 (by decide) (by decide), h74⟩
  · exact h
  · exact ⟨h.1, fun i q hq => m _ _ (h.2 i q hq) (by decide) (by decide)⟩
  · refine ⟨h.1, fun i hi => ?_⟩
    obtain ⟨q, h3, h4, h5⟩ := h.2 i hi
    exact ⟨q, h3, m _ _ h4 (by decide) (by decide), h5⟩
  · first | exact h | (split <;> first | exact h | (exfalso; simp_all; done))
/-- but one row of longs is forgotten -/
theorem TW.n14 {E : XE} {K : Nat → Nat} {F : Nat → Nat → Nat} {G : XG} {H : Heap} {a : Nat} (h : TW E K F G H) (ha : K a = 14) : ∃ K1 : Nat → Nat, KE K K1 ∧ K1 a = 14 ∧ (∀ b, K1 b = 14 → b = a) ∧ TW E K1 F G H := by
  obtain ⟨ws, ⟨hw, hX⟩, hP, hD⟩ := h
  have hm : KE K (fun x => if x ≠ a ∧ K x = 14 then 0 else K x) := by
    intro x n h0 h1 h2
    show (if x ≠ a ∧ K x = 14 then 0 else K x) = n
    rw [if_neg (fun q => h2 (h0.symm.trans q.2))]
    exact h0
  refine ⟨_, hm, ?_, ?_, ws, ⟨?_, ?_⟩, hP, hD⟩
  · show (if a ≠ a ∧ K a = 14 then 0 else K a) = 14
    rw [if_neg (fun q => q.1 rfl)]
    exact ha
  · intro b hb
    have hb : (if b ≠ a ∧ K b = 14 then 0 else K b) = 14 := hb
    apply Classical.byContradiction
    intro q
    by_cases g : K b = 14
    · rw [if_pos ⟨q, g⟩] at hb; cases hb
    · rw [if_neg (fun z => g z.2)] at hb; exact g hb
  · intro b hb
    have hb : (if b ≠ a ∧ K b = 14 then 0 else K b) ≠ 0 := hb
    show ∃ (i : Nat) (e : va_E), ws[i]? = some (b, e) ∧ SHP E _ F (G.1 b) (G.2.1 b) (G.2.2.1 b) G.2.2.2 b (if b ≠ a ∧ K b = 14 then 0 else K b) e
    by_cases g : b ≠ a ∧ K b = 14
    · rw [if_pos g] at hb; exact absurd rfl hb
    · rw [if_neg g] at hb ⊢
      obtain ⟨i, e, h1, h2⟩ := hw b hb
      exact ⟨i, e, h1, h2.mono14 hm⟩
  · obtain ⟨i1, j1, v, n, f, ml, cnt, h1, h2, h3, h4, h5⟩ := hX
    refine ⟨i1, j1, v, n, f, ml, cnt, h1, h2, ?_, ?_, h5⟩
    · show (if E.2.2.2.1 ≠ a ∧ K E.2.2.2.1 = 14 then 0 else K E.2.2.2.1) = 0
      split <;> first | rfl | exact h3
    · show (if v ≠ a ∧ K v = 14 then 0 else K v) = 0
      split <;> first | rfl | exact h4
/-- NoSuchElementException was thrown; the world is as it was -/
def XCn (PX : Prop) (E : XE) (K : Nat → Nat) (F : Nat → Nat → Nat) (G : XG) : String → State → State → Prop := fun N st t => (N = NXN ∧ PX) ∧ TW E K F G t.heap ∧ va_F (xA E) st t
section NXT
variable {p : Program} {l : Launch} {e : Env} {R : Room} {s : State} {m : MethodId} {args : Array Value} {below : List Frame} {meth : Method} {c : Code} {H : Heap} {locs : List Loc} {cells slots : Nat}
variable {pc : Nat} {ls : Array Slot} {rest : List Value} {E : XE} {cc : ByteArray} {nL : Nat} {w0 : Cond} {K : Nat → Nat} {F : Nat → Nat → Nat} {G : XG} {Q : State → Prop} {Qc : Array Value → State → Outcome → State → Prop}
theorem nx_throw {PX : Prop} (S : CallFix p m c cc nL s args (w0 :: GT) RX10) (hPX : PX) (hst : l.stackTraces = false) (hD9 : XD s) (hK : XK E s) (hT : TW E K F G H) (hS : va_S (xA E) s.heap H locs) {is sa mc ms : Nat} {text : String} (hstr : vk_R RX10 is text sa s) (hsize : ls.size = nL)
    (d0 : decode cc pc = .ok (.new 258, 3)) (d3 : decode cc (pc + 3) = .ok (.dup, 1)) (d4 : decode cc (pc + 4) = .ok (.ldc_w is, 3)) (d7 : decode cc (pc + 7) = .ok (.invokespecial 262, 3)) (d10 : decode cc (pc + 10) = .ok (.athrow, 1))
    (hout : ∀ x ∈ c.exceptionTable.toList, False) (hRf : 5 < R.frames) (hRl : (rest.map fun v => v.category).sum + 82 ≤ R.locals) (hRc : cells + 1 ≤ R.cells) (hRs : slots + 6 ≤ R.slots) (hlocks : meth.locks = false) (hc : cells + 1 ≤ mc) (hs : slots + 6 ≤ ms) :
    W p l e R s m args below meth c H locs cells slots (vx_MQ below Qc (XCn PX E K F G) args s mc ms (xA E)) (F0 m pc ls rest) := by
  obtain ⟨hexec, hb, hml, hown, hts⟩ := S
  intro T hT9 X
  have htr : e.platform.stackTraces = false := (show e.platform.stackTraces = l.stackTraces by rw [X.admits.platform]).trans hst
  have Y := vx_rebase X (R' := { frames := R.frames, locals := R.locals, cells := 1, slots := 6 }) (Nat.le_refl _) (Nat.le_refl _) hRc hRs
  obtain ⟨s', hA⟩ : ∃ z, z = (T.setVm s.vm).setFrames (.invoking m args :: below) := ⟨_, rfl⟩
  rw [← hA] at Y
  have hvm : s'.vm = s.vm := by rw [hA]; rfl
  have hhp : s'.heap = H := by rw [hA]; exact hT9
  have hW0 : s.WarmedH s'.vm := by rw [hvm]; exact State.WarmedH.refl s
  have hw : ∀ w ∈ GT, w.before args s' = true := fun w q => vx_ot_at hW0 hvm.symm (by unfold vx_ot; rw [(List.mem_filter.mp q).2]; exact Bool.or_true _) (hts w (List.mem_cons_of_mem _ q))
  have hU' : vx_Zq Bundle.tN "UNASSIGNED_STACK" Bundle.steD (xA E) s' s'.heap := by rw [hhp]; exact vx_Zq.moved hW0.alike (hK.2.2.2.2.2.2.1.kept hS.2.1)
  have hN' : vx_Zq Bundle.tN "SUPPRESSED_SENTINEL" Bundle.listD (xA E) s' s'.heap := by rw [hhp]; exact vx_Zq.moved hW0.alike (hK.2.2.2.2.2.2.2.1.kept hS.2.1)
  have h : ∀ w ∈ nx_atoms RX10 262, w.before args s' = true := fun w q => by
    have hd : XD s' := XD.same hvm.symm hD9
    rcases nx_all w q with q | q | q | q | q | q | q | q
    · exact hw w q
    · rw [q]; exact vx_isRefq hU'.1
    · rw [q]; exact vx_isRefq hN'.1
    · rw [q]; exact hU'.2.word
    · rw [q]; exact hN'.2.word
    · rw [q]; exact va_Nw.use rfl hd.1
    · rw [q]; exact va_Nw.use rfl hd.2.1
    · rw [q]; exact va_Nw.use rfl hd.2.2.1
  have hown' : s'.vm.findClass RX10 = some m.cls := by rw [hvm]; exact hown
  have hins : (Cond.instantiable NXN 6).before args s' = true := hw _ (GT_mem 1322 (by decide +kernel) rfl)
  obtain ⟨vm₁, cX, kX, hfX, hkX, -, -, X₁, st1⟩ := Y.newCold hexec (own := RX10) (C := NXN) (index := 258) (n := 6) hown' (hw _ k_nx.1) hins (hw _ k_nx.2.1)
    (g := F0 m pc ls rest) rfl (by rw [hb]; exact d0) (Nat.le_refl _) (Nat.le_refl _)
  generalize hT1 : (T.setVm vm₁).pushCell { cls := cX, slots := kX.instanceTypes.map defaultValue, vm := .none } = T1 at X₁ st1
  have hcat : (Value.ref T.heap.size).category = 1 := rfl
  have hcellA : T1.heap[T.heap.size]? = some (freshCell cX kX) := by rw [← hT1]; exact State.heap_pushCell_size _ _
  have d3' : decode c.code (pc + 3) = .ok (.dup, 1) := by rw [hb]; exact d3
  have d4' : decode c.code (pc + 4) = .ok (.ldc_w is, 3) := by rw [hb]; exact d4
  have hstr' : vk_R RX10 is text sa s' := vk_R.warm hW0 hstr
  obtain ⟨U, hsteps, hrun, hend, hW, hsame, ce, hce, hO, hO2⟩ := nx_ctor X₁ hexec htr (own := RX10) (ic := 262) hown' h (fun x hx => nomatch hx) hfX hkX hcellA (by rw [hhp, hT9]; exact Nat.le_refl _) (msg := .ref sa) rfl
    (g := { method := m, pc := pc + 7, locals := ls, stack := .ref sa :: .ref T.heap.size :: .ref T.heap.size :: rest, locked := none }) rfl (hsize.trans hml.symm) rfl rfl (rest := rest) rfl
    (by rw [hb]; exact d7) (by rw [hb]; exact d10) (fun x hx => (hout x hx).elim) hRf (by simp only [List.map_cons, List.sum_cons, hcat]; omega) hlocks
  obtain ⟨f1, f2⟩ := vx_frame hsame
  rw [hhp] at f1 f2
  have hWs : s.WarmedH U.vm := State.WarmedH.trans hW0 hW
  have hcl : s.vm.findClass NXN = some ce.cls := by
    rw [hvm] at hO2
    exact hO2
  have hall : s.sameButNew ({ U with vm := s.vm } : State) locs mc ms := by
    subst hA
    obtain ⟨e1, e2⟩ := hsame
    rw [State.setFrames_setFrames] at e1
    have h2 : (T.setVm s.vm).sameButNew ({ U with vm := s.vm } : State) [] (0 + 1) (0 + 6) := ⟨e1, e2⟩
    have h3 := X.same.trans h2
    rw [List.append_nil] at h3
    exact h3.mono hc hs
  have f3 : ∀ q : Nat, q < H.size → U.heap[q]? = H[q]? := fun q hq => f2 q hq (fun z hz => nomatch hz)
  refine ⟨U, ?_, .threw T.heap.size, hrun, hend, Or.inr ⟨T.heap.size, rfl, NXN, ce, locs, ⟨⟨rfl, hPX⟩, hT.kept f3, Nat.le_trans hS.1 f1, fun q h1 h2 => (f3 q (Nat.lt_of_lt_of_le h1 hS.1)).trans (hS.2.1 q h1 h2)⟩, hce, hO, hcl, hWs, hall, hS.2.2⟩⟩
  refine st1 _ ?_
  show Steps p.tables e below (T1.setTop { method := m, pc := pc + 3, locals := ls, stack := .ref T.heap.size :: rest, locked := none }) _
  jvm_step X₁.here [X₁.here.top, hexec, d3', Value.category]
  exact X₁.ldcStringW hexec (own := RX10) (text := text) (index := is) (a := sa) hown' hstr'.1 hstr'.2
    (g := { method := m, pc := pc + 4, locals := ls, stack := .ref T.heap.size :: .ref T.heap.size :: rest, locked := none }) rfl d4' _ hsteps
theorem x_enterX {y : MethodName} {bytes : ByteArray} {maxL : Nat} {ret : Option FieldType} {rm : Room} {mc ms : Nat} {av : List Value} {P : State → Prop} {XC : String → State → State → Prop} {free : Addr → Prop} (hy : plainName y.cls = true) (hlen : (lg_sl av).length ≤ maxL)
    (body : ∀ (p : Program) (e : Env) (s : State) (m : MethodId) (args : Array Value) (below : List Frame) (meth : Method) (c : Code) (Q : State → Prop), CallFix p m c bytes maxL s args (xw y bytes maxL ret) y.cls → meth.sig.returnType = ret → meth.locks = false → (∀ x ∈ c.exceptionTable.toList, False) → Q = vx_MQ below Qc XC args s mc ms free → P s → ∀ ls : Array Slot, lv_has ls maxL (lv_args 0 av) → W p l e rm s m args below meth c s.heap [] 0 0 Q (F0 m 0 ls [])) : vx_Met l y (xw y bytes maxL ret) rm (va_Pc av P) Qc XC mc ms free := by
  refine vx_ofW (cc := bytes) (maxL := maxL) (ret := ret) hy rfl ?_
  intro p e s m args below meth c s₁ B hml hex hv
  obtain ⟨rfl, hP⟩ := hv
  have hl := lv_entry av (n := maxL) hlen
  rw [lg_entry_eq]
  exact body p e s m _ below meth c _ ⟨B.exec, B.bytes, hml, findClass_of_methodNamed B.named, atoms_spec (ws := xw y bytes maxL ret) B.pre⟩ B.returns B.notSynchronized hex rfl hP _ hl
theorem x_riX {S : Type} {post : Value → S → Prop} {B : S → Heap → Prop} {XC : String → State → State → Prop} {mc ms : Nat} {v : Int32} (hx : p.tables.exec = Jvm.exec) (hb : c.code = cc) (hr : meth.sig.returnType = some .int) (hlk : meth.locks = false) (hQ : Q = vx_MQ below (XQ E post B) XC args s mc ms (xA E)) (hc : cells ≤ mc) (hs : slots ≤ ms) (hS : va_S (xA E) s.heap H locs) (hdg : decode cc pc = .ok (.ireturn, 1)) (u : S) (hp : post (.int v) u) (hB : B u H) : W p l e R s m args below meth c H locs cells slots Q (F0 m pc ls [.int v]) := by
  subst hQ
  exact vx_ret (x_ri hx hb hr hlk rfl hc hs hS hdg u hp hB)
theorem x_cX {PX : Prop} {S : Type} {post : Value → S → Prop} {B : S → Heap → Prop} {mc ms : Nat} {st0 : List Value} {a : Array Value} {H0 : Heap} (hr : vx_Run p l e R s m args below meth c H locs cells slots mc ms (F0 m pc ls st0) rest (XQ E post B a) (XCn PX E K F G) (xA E)) (hS : va_S (xA E) H0 H locs)
    (kx : PX → ∀ (q : Addr) (ce : Cell) (H1 : Heap) (locs1 : List Loc), TW E K F G H1 → va_S (xA E) H0 H1 locs1 → H1[q]? = some ce → ce.vm = .none → s.vm.findClass NXN = some ce.cls → vx_W p l e R s m args below meth c H1 locs1 (cells + mc) (slots + ms) Q (F0 m pc ls rest) q)
    (kk : ∀ (v : Value) (u : S) (H1 : Heap) (locs1 : List Loc), post v u → B u H1 → va_S (xA E) H0 H1 locs1 → W p l e R s m args below meth c H1 locs1 (cells + mc) (slots + ms) Q (F0 m (pc + 3) ls (v :: rest))) : W p l e R s m args below meth c H locs cells slots Q (F0 m pc ls st0) := by
  intro T hT X
  have key : ∀ (st₀ t T' : State) (L : List Loc), st₀.heap = H → T'.heap = t.heap → (∀ q ∈ L, xA E q.base) → va_F (xA E) st₀ t → va_S (xA E) H0 T'.heap (locs ++ L) := by
    intro st₀ t T' L h0 e1 hL hF
    obtain ⟨hz, hk⟩ := hF
    rw [h0] at hz hk
    refine ⟨Nat.le_trans hS.1 (by rw [e1]; exact hz), fun q h1 h2 => by rw [e1, hk q (Nat.lt_of_lt_of_le h1 hS.1) h2]; exact hS.2.1 q h1 h2, fun q hq => ?_⟩
    rcases List.mem_append.mp hq with h | h
    · exact hS.2.2 q h
    · exact hL q h
  rcases hr T hT X with ⟨v, st₀, t, T', L, h0, X', hL, e1, e2, ⟨⟨r, u, hv, hp, hb⟩, hF⟩, st⟩ | ⟨q, st₀, t, T', L, N, ce, h0, X', hL, e1, e2, ⟨⟨hN, hPX⟩, hTW, hF⟩, hce, hcv, hcl, st⟩
  · cases hv
    obtain ⟨t2, a1, b1⟩ := kk r u T'.heap (locs ++ L) hp (by rw [e1]; exact hb) (key st₀ t T' L h0 e1 hL hF) T' rfl X'
    exact ⟨t2, st t2 a1, b1⟩
  · subst hN
    obtain ⟨t2, a1, b1⟩ := kx hPX q ce T'.heap (locs ++ L) (by rw [e1]; exact hTW) (key st₀ t T' L h0 e1 hL hF) (by rw [e1]; exact hce) hcv hcl T' rfl X'
    exact ⟨t2, st.trans a1, b1⟩
variable {y : MethodName} {bytes : ByteArray} {maxL n index mc ms : Nat} {ret : Option FieldType} {rm : Room} {XC : String → State → State → Prop} {own C : String} {b : Addr} {As : List Value} {P9 : State → Prop} {hh : List (Nat × Nat × Nat × Nat)}
theorem x_runVX (S : CallFix p m c cc nL s args (w0 :: GT) own) (hM : vx_Met l y (xw y bytes maxL ret) rm (va_Pc (.ref b :: As) P9) Qc XC mc ms (xA E)) (hc : xcV y C bytes maxL ret n) (hl : Cond.methodLink own index y ∈ GT) (hrc : rm.cells = mc) (hrs : rm.slots = ms) (hR : rm.frames + 1 ≤ R.frames ∧ 8 + (maxL + 11) + rm.locals ≤ R.locals)
    (hb : ∃ cell : Cell, H[b]? = some cell ∧ cell.vm.isStatics = false ∧ s.vm.findClass C = some cell.cls) (hbl : ∀ av : List Value, FrameBlind (va_Pc av P9)) (hp9 : ∀ U : State, U.heap = H → s.WarmedH U.vm → P9 U)
    (hn : As.length = n) (hsize : ls.size = nL) (hW : (rest.map fun v => v.category).sum ≤ 8) (hdg : decode cc pc = .ok (.invokevirtual index, 3)) (hf : cells + mc ≤ R.cells ∧ slots + ms ≤ R.slots) :
    vx_Run p l e R s m args below meth c H locs cells slots mc ms (F0 m pc ls (As.reverse ++ .ref b :: rest)) rest (Qc (Value.ref b :: As).toArray) XC (xA E) :=
  vx_runV S hM ⟨x_callB S n hc.1.1 hc.1.2.2.2 hl hrc hrs hc.2 hR, S.2.2.2.2 _ (List.mem_cons_of_mem _ hc.1.2.1), S.2.2.2.2 _ (List.mem_cons_of_mem _ hc.1.2.2.1)⟩ ⟨hbl _, hb, fun U hU hW => ⟨rfl, hp9 U hU hW⟩⟩ rfl hn hsize rfl (lv_room hW) hdg hf
abbrev xwH (y : MethodName) (b : ByteArray) (n : Nat) (r : Option FieldType) (hh : List (Nat × Nat × Nat × Nat)) : List Cond := Cond.codeWith y b n r hh :: GT
def xcH (y : MethodName) (bytes : ByteArray) (maxL : Nat) (ret : Option FieldType) (hh : List (Nat × Nat × Nat × Nat)) (n : Nat) : Prop := (Cond.codeWith y bytes maxL ret hh ∈ GT ∧ Cond.static y ∈ GT ∧ Cond.initialized y.cls ∈ GT) ∧ y.cls ≠ "java/lang/invoke/MethodHandle" ∧ y.cls ≠ "java/lang/invoke/VarHandle" ∧ (parseMethodDescriptor y.desc).map (fun d => d.parameters.length) = some n
theorem x_runL (S : CallFix p m c cc nL s args (w0 :: GT) own) (hM : Met l y (xwH y bytes maxL ret hh) rm (va_Pc As P9) Qc mc ms (xA E)) (hc : xcH y bytes maxL ret hh n) (hl : Cond.methodLink own index y ∈ GT) (hrc : rm.cells = mc) (hrs : rm.slots = ms) (hR : rm.frames + 1 ≤ R.frames ∧ 8 + (maxL + 11) + rm.locals ≤ R.locals)
    (hbl : ∀ av : List Value, FrameBlind (va_Pc av P9)) (hp9 : ∀ U : State, U.heap = H → s.WarmedH U.vm → P9 U)
    (hn : As.length = n) (hsize : ls.size = nL) (hW : (rest.map fun v => v.category).sum ≤ 8) (hdg : decode cc pc = .ok (.invokestatic index, 3)) (hf : cells + mc ≤ R.cells ∧ slots + ms ≤ R.slots) :
    va_Run p l e R s m args below meth c H locs cells slots mc ms (F0 m pc ls (As.reverse ++ rest)) rest (Qc As.toArray) (xA E) := by
  have hG : GoodIn (w0 :: GT) (xwH y bytes maxL ret hh) := fun w hw => by
    rcases List.mem_cons.mp hw with e9 | e9
    · subst e9; exact ⟨List.mem_cons_of_mem _ hc.1.1, GT_good hc.1.1⟩
    · exact ⟨List.mem_cons_of_mem _ e9, GT_good e9⟩
  refine vx_runSW (hh := hh) (bytes := bytes) (maxL := maxL) (ret := ret) (n := n) S hM ⟨⟨hrc, hrs, hR.1, hR.2, pay_in S.2.2.2.2 hG, List.mem_cons_self⟩, S.2.2.2.2 _ (List.mem_cons_of_mem _ hc.1.1), S.2.2.2.2 _ (List.mem_cons_of_mem _ hc.1.2.2), ⟨hc.2.1, hc.2.2.1⟩, fun sig h => ?_, S.2.2.2.2 _ (List.mem_cons_of_mem _ hl), S.2.2.2.2 _ (List.mem_cons_of_mem _ hc.1.2.1)⟩ ⟨hbl _, fun U hU hW => ⟨rfl, hp9 U hU hW⟩⟩ rfl hn hsize rfl (lv_room hW) hdg hf
  have h2 := hc.2.2.2
  rw [h] at h2
  exact (Option.some.inj h2).symm
theorem x_enterH {av : List Value} {P : State → Prop} {free : Addr → Prop} (hy : plainName y.cls = true) (hlen : (lg_sl av).length ≤ maxL)
    (body : ∀ (p : Program) (e : Env) (s : State) (m : MethodId) (args : Array Value) (below : List Frame) (meth : Method) (c : Code) (Q : State → Prop), CallFix p m c bytes maxL s args (xwH y bytes maxL ret hh) y.cls → meth.sig.returnType = ret → meth.locks = false → c.exceptionTable.toList = tableOf hh → Q = MQ below Qc args s mc ms free → P s → ∀ ls : Array Slot, lv_has ls maxL (lv_args 0 av) → W p l e rm s m args below meth c s.heap [] 0 0 Q (F0 m 0 ls [])) : Met l y (xwH y bytes maxL ret hh) rm (va_Pc av P) Qc mc ms free := by
  refine va_MetW (cc := bytes) (maxL := maxL) (ret := ret) (hh := hh) hy rfl ?_
  intro p e s m args below meth c s₁ B hml hv
  obtain ⟨rfl, hP⟩ := hv
  have hl := lv_entry av (n := maxL) hlen
  rw [lg_entry_eq]
  have hw := atoms_spec (ws := xwH y bytes maxL ret hh) B.pre
  exact body p e s m _ below meth c _ ⟨B.exec, B.bytes, hml, findClass_of_methodNamed B.named, hw⟩ B.returns B.notSynchronized (vx_table (x := y) B (hw _ List.mem_cons_self)) rfl hP _ hl
theorem updL0 (f : Nat → Int64) (x : Int64) : vp_updL f (Int32.toNatClampNeg 0) x 0 = x := by
  unfold vp_updL
  rw [if_pos (by decide)]
theorem as_14 {a : Nat} {H0 : Heap} (S : CallFix p m c cc nL s args (w0 :: GT) own) (hK : XK E s) (hT : TW E K F G H) (hS : va_S (xA E) H0 H locs) (ha : K a = 14) {x : Int64} (hdg : decode cc pc = .ok (.lastore, 1)) (kk : ∀ (K1 : Nat → Nat) (G1 : XG) (H1 : Heap) (locs1 : List Loc), KE K K1 → K1 a = 14 → XFr [] [] [] G G1 → G1.2.2.2 0 = x → TW E K1 F G1 H1 → va_S (xA E) H0 H1 locs1 → W p l e R s m args below meth c H1 locs1 cells slots Q (F0 m (pc + 1) ls rest)) : W p l e R s m args below meth c H locs cells slots Q (F0 m pc ls (.long x :: .int 0 :: .ref a :: rest)) := by
  obtain ⟨K1, h1, h2, h3, hT⟩ := hT.n14 ha
  obtain ⟨ws, i9, e9, hw, hP, hD, he, hs⟩ := hT.at h2 (by decide)
  have hs : e9 = .inl (E.2.1 6, 1, .inr (.inl G.2.2.2)) := hs
  subst hs
  exact va_last S.1 S.2.1 hK.1 hP hD hS i9 6 he rfl (vp_in_iff.mpr ⟨by decide, by decide⟩) hdg (fun H1 locs1 hP1 hD1 hS1 => kk K1 (G.1, G.2.1, G.2.2.1, vp_updL G.2.2.2 (Int32.toNatClampNeg 0) x) H1 locs1 h1 h2 ⟨fun _ _ _ => rfl, fun _ _ => rfl, fun _ _ => rfl⟩ (updL0 G.2.2.2 x) ⟨_, hw.set he (by rw [h2]; decide) (fun b hb => ⟨rfl, rfl, rfl, fun h => absurd (h3 b h) hb⟩) (by rw [h2]; exact rfl), hP1, hD1⟩ hS1)
theorem al_14 {a : Nat} {H0 : Heap} {x : Int64} (S : CallFix p m c cc nL s args (w0 :: GT) own) (hK : XK E s) (hT : TW E K F G H) (hS : va_S (xA E) H0 H locs) (ha : K a = 14) (hv : G.2.2.2 0 = x) (hdg : decode cc pc = .ok (.laload, 1)) (kk : W p l e R s m args below meth c H locs cells slots Q (F0 m (pc + 1) ls (.long x :: rest))) : W p l e R s m args below meth c H locs cells slots Q (F0 m pc ls (.int 0 :: .ref a :: rest)) := by
  obtain ⟨ws, i9, e9, hw, hP, hD, he, hs⟩ := hT.at ha (by decide)
  have hs : e9 = .inl (E.2.1 6, 1, .inr (.inl G.2.2.2)) := hs
  subst hs
  subst hv
  exact va_lald S.1 S.2.1 hK.1 hP i9 6 he rfl (vp_in_iff.mpr ⟨by decide, by decide⟩) hdg kk
theorem lv_lcmp_eq (hexec : p.tables.exec = Jvm.exec) (hb : c.code = cc) {x : Int64} (hdg : decode cc pc = .ok (.lcmp, 1)) (k : W p l e R s m args below meth c H locs cells slots Q (F0 m (pc + 1) ls (.int 0 :: rest))) : W p l e R s m args below meth c H locs cells slots Q (F0 m pc ls (.long x :: .long x :: rest)) := by
  intro T hT X
  obtain ⟨t, a, b⟩ := k T hT X
  refine ⟨t, ?_, b⟩
  have h1 : ¬ (x > x) := Int64.lt_irrefl
  jvm_step X.here [X.here.top, hexec, hb, hdg, h1]
  exact a
end NXT
