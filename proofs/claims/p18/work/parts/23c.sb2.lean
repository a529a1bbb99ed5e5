section
theorem k_selL : Cond.selects RJ4 yJ5_isLatin1_aae02 yJ5_isLatin1_aae02 ∈ GT := GT_mem 470 (by decide +kernel) rfl
theorem k_sup : Cond.superclass RJ4 RJ5 ∈ GT := GT_mem 324 (by decide +kernel) rfl
theorem sb_selp {y z : MethodName} {C : String} {s : State} {args : Array Value} (hy : y.cls ≠ "java/lang/invoke/MethodHandle" ∧ y.cls ≠ "java/lang/invoke/VarHandle") (hcls : z.cls = y.cls) (hz : (Cond.selects C z z).before args s = true) (hpriv : (Cond.privateMethod y).before args s = true) (hinst : (Cond.instanceMethod y).before args s = true) : (Cond.selects C y y).before args s = true := by
  obtain ⟨c, r, m, hc, -, hm, -, k, hk, hni⟩ := Cond.selects_spec hz
  obtain ⟨mk, methM, hnamed, hmethM, -, -⟩ := Cond.instanceMethod_spec hinst
  have hfound : s.methodFound? y.cls y.name y.desc = some mk := State.methodFound?_of_named hnamed hy
  have h1 := findClass_of_methodNamed hm
  rw [hcls, findClass_of_methodNamed hnamed] at h1
  have h2 : mk.cls = m.cls := Option.some.inj h1
  have hsel : selectMethod {} s.vm c mk = .method mk := selectMethod_private hmethM (Cond.privateMethod_at hpriv mk methM hnamed hmethM)
  rw [← h2] at hk
  simp only [Cond.before, Cond.holds, Cond.value, hc, hfound, hnamed, hsel, hk]
  simp; exact hni
/-- what a caller needs of a method of the class above -/
def xcU (y : MethodName) (bytes : ByteArray) (maxL : Nat) (ret : Option FieldType) (n : Nat) : Prop := (Cond.code y bytes maxL ret ∈ GT ∧ Cond.instanceMethod y ∈ GT ∧ Cond.sameMethod y.cls y.cls y.name y.desc ∈ GT ∧ Cond.initialized y.cls ∈ GT) ∧ y.cls ≠ "java/lang/invoke/MethodHandle" ∧ y.cls ≠ "java/lang/invoke/VarHandle" ∧ (parseMethodDescriptor y.desc).map (fun d => d.parameters.length) = some n
set_option maxRecDepth 100000 in
theorem mu_J5_appendNull_278bc : xcU yJ5_appendNull_278bc cJ5_appendNull_278bc 3 (some (.object "java/lang/AbstractStringBuilder")) 0 := ⟨⟨GT_mem 806 rfl rfl, GT_mem 805 (by decide +kernel) rfl, GT_mem 1940 (by decide +kernel) rfl, GT_mem 101 (by decide +kernel) rfl⟩, by decide +kernel⟩
set_option maxRecDepth 100000 in
theorem mw_J5_appendNull_278bc : xcV yJ5_appendNull_278bc RJ4 cJ5_appendNull_278bc 3 (some (.object "java/lang/AbstractStringBuilder")) 0 := ⟨⟨mu_J5_appendNull_278bc.1.1, mu_J5_appendNull_278bc.1.2.1, GT_sb (List.mem_of_getElem? (i := 0) rfl), mu_J5_appendNull_278bc.1.2.2.2⟩, mu_J5_appendNull_278bc.2⟩
theorem mp_J5_appendNull_278bc : Cond.privateMethod yJ5_appendNull_278bc ∈ lw_tbl ∧ Cond.instanceMethod yJ5_appendNull_278bc ∈ lw_tbl := ⟨List.mem_of_getElem? (i := 804) (by decide +kernel), List.mem_of_getElem? (i := 805) (by decide +kernel)⟩
set_option maxRecDepth 100000 in
theorem mu_J5_append_3fe6f : xcU yJ5_append_3fe6f cJ5_append_3fe6f 2 (some (.object "java/lang/AbstractStringBuilder")) 1 := ⟨⟨GT_mem 888 rfl rfl, GT_mem 887 (by decide +kernel) rfl, GT_mem 1945 (by decide +kernel) rfl, GT_mem 101 (by decide +kernel) rfl⟩, by decide +kernel⟩
set_option maxRecDepth 100000 in
theorem mu_J5_append_c97b9 : xcU yJ5_append_c97b9 cJ5_append_c97b9 4 (some (.object "java/lang/AbstractStringBuilder")) 1 := ⟨⟨GT_mem 863 rfl rfl, GT_mem 862 (by decide +kernel) rfl, GT_mem 1944 (by decide +kernel) rfl, GT_mem 101 (by decide +kernel) rfl⟩, by decide +kernel⟩
set_option maxRecDepth 100000 in
theorem mu_J5_append_cf1ce : xcU yJ5_append_cf1ce cJ5_append_cf1ce 3 (some (.object "java/lang/AbstractStringBuilder")) 1 := ⟨⟨GT_mem 802 rfl rfl, GT_mem 801 (by decide +kernel) rfl, GT_mem 1939 (by decide +kernel) rfl, GT_mem 101 (by decide +kernel) rfl⟩, by decide +kernel⟩
set_option maxRecDepth 100000 in
theorem mu_J5_charAt_5068e : xcU yJ5_charAt_5068e cJ5_charAt_5068e 5 (some .char) 1 := ⟨⟨GT_mem 1235 rfl rfl, GT_mem 1234 (by decide +kernel) rfl, GT_mem 1947 (by decide +kernel) rfl, GT_mem 101 (by decide +kernel) rfl⟩, by decide +kernel⟩
set_option maxRecDepth 100000 in
theorem mu_J5_ensureCapacityInternal_d00df : xcU yJ5_ensureCapacityInternal_d00df cJ5_ensureCapacityInternal_d00df 3 none 1 := ⟨⟨GT_mem 435 rfl rfl, GT_mem 434 (by decide +kernel) rfl, GT_mem 1937 (by decide +kernel) rfl, GT_mem 101 (by decide +kernel) rfl⟩, by decide +kernel⟩
set_option maxRecDepth 100000 in
theorem mw_J5_ensureCapacityInternal_d00df : xcV yJ5_ensureCapacityInternal_d00df RJ4 cJ5_ensureCapacityInternal_d00df 3 none 1 := ⟨⟨mu_J5_ensureCapacityInternal_d00df.1.1, mu_J5_ensureCapacityInternal_d00df.1.2.1, GT_sb (List.mem_of_getElem? (i := 1) rfl), mu_J5_ensureCapacityInternal_d00df.1.2.2.2⟩, mu_J5_ensureCapacityInternal_d00df.2⟩
theorem mp_J5_ensureCapacityInternal_d00df : Cond.privateMethod yJ5_ensureCapacityInternal_d00df ∈ lw_tbl ∧ Cond.instanceMethod yJ5_ensureCapacityInternal_d00df ∈ lw_tbl := ⟨List.mem_of_getElem? (i := 433) (by decide +kernel), List.mem_of_getElem? (i := 434) (by decide +kernel)⟩
set_option maxRecDepth 100000 in
theorem mu_J5_inflateIfNeededFor_a7421 : xcU yJ5_inflateIfNeededFor_a7421 cJ5_inflateIfNeededFor_a7421 2 none 1 := ⟨⟨GT_mem 830 rfl rfl, GT_mem 829 (by decide +kernel) rfl, GT_mem 1942 (by decide +kernel) rfl, GT_mem 101 (by decide +kernel) rfl⟩, by decide +kernel⟩
set_option maxRecDepth 100000 in
theorem mw_J5_inflateIfNeededFor_a7421 : xcV yJ5_inflateIfNeededFor_a7421 RJ4 cJ5_inflateIfNeededFor_a7421 2 none 1 := ⟨⟨mu_J5_inflateIfNeededFor_a7421.1.1, mu_J5_inflateIfNeededFor_a7421.1.2.1, GT_sb (List.mem_of_getElem? (i := 2) rfl), mu_J5_inflateIfNeededFor_a7421.1.2.2.2⟩, mu_J5_inflateIfNeededFor_a7421.2⟩
theorem mp_J5_inflateIfNeededFor_a7421 : Cond.privateMethod yJ5_inflateIfNeededFor_a7421 ∈ lw_tbl ∧ Cond.instanceMethod yJ5_inflateIfNeededFor_a7421 ∈ lw_tbl := ⟨List.mem_of_getElem? (i := 828) (by decide +kernel), List.mem_of_getElem? (i := 829) (by decide +kernel)⟩
set_option maxRecDepth 100000 in
theorem mu_J5_inflate_da8c8 : xcU yJ5_inflate_da8c8 cJ5_inflate_da8c8 2 none 0 := ⟨⟨GT_mem 835 rfl rfl, GT_mem 834 (by decide +kernel) rfl, GT_mem 1943 (by decide +kernel) rfl, GT_mem 101 (by decide +kernel) rfl⟩, by decide +kernel⟩
set_option maxRecDepth 100000 in
theorem mw_J5_inflate_da8c8 : xcV yJ5_inflate_da8c8 RJ4 cJ5_inflate_da8c8 2 none 0 := ⟨⟨mu_J5_inflate_da8c8.1.1, mu_J5_inflate_da8c8.1.2.1, GT_sb (List.mem_of_getElem? (i := 3) rfl), mu_J5_inflate_da8c8.1.2.2.2⟩, mu_J5_inflate_da8c8.2⟩
theorem mp_J5_inflate_da8c8 : Cond.privateMethod yJ5_inflate_da8c8 ∈ lw_tbl ∧ Cond.instanceMethod yJ5_inflate_da8c8 ∈ lw_tbl := ⟨List.mem_of_getElem? (i := 833) (by decide +kernel), List.mem_of_getElem? (i := 834) (by decide +kernel)⟩
set_option maxRecDepth 100000 in
theorem mu_J5_isLatin1_aae02 : xcU yJ5_isLatin1_aae02 cJ5_isLatin1_aae02 1 (some .boolean) 0 := ⟨⟨GT_mem 471 rfl rfl, GT_mem 468 (by decide +kernel) rfl, GT_mem 469 (by decide +kernel) rfl, GT_mem 101 (by decide +kernel) rfl⟩, by decide +kernel⟩
set_option maxRecDepth 100000 in
theorem mw_J5_isLatin1_aae02 : xcV yJ5_isLatin1_aae02 RJ4 cJ5_isLatin1_aae02 1 (some .boolean) 0 := ⟨⟨mu_J5_isLatin1_aae02.1.1, mu_J5_isLatin1_aae02.1.2.1, k_selL, mu_J5_isLatin1_aae02.1.2.2.2⟩, mu_J5_isLatin1_aae02.2⟩
set_option maxRecDepth 100000 in
theorem mu_J5_length_8abf5 : xcU yJ5_length_8abf5 cJ5_length_8abf5 1 (some .int) 0 := ⟨⟨GT_mem 1208 rfl rfl, GT_mem 1207 (by decide +kernel) rfl, GT_mem 1946 (by decide +kernel) rfl, GT_mem 101 (by decide +kernel) rfl⟩, by decide +kernel⟩
set_option maxRecDepth 100000 in
theorem mu_J5_newCapacity_0f7a4 : xcU yJ5_newCapacity_0f7a4 cJ5_newCapacity_0f7a4 6 (some .int) 1 := ⟨⟨GT_mem 439 rfl rfl, GT_mem 438 (by decide +kernel) rfl, GT_mem 1938 (by decide +kernel) rfl, GT_mem 101 (by decide +kernel) rfl⟩, by decide +kernel⟩
set_option maxRecDepth 100000 in
theorem mw_J5_newCapacity_0f7a4 : xcV yJ5_newCapacity_0f7a4 RJ4 cJ5_newCapacity_0f7a4 6 (some .int) 1 := ⟨⟨mu_J5_newCapacity_0f7a4.1.1, mu_J5_newCapacity_0f7a4.1.2.1, GT_sb (List.mem_of_getElem? (i := 4) rfl), mu_J5_newCapacity_0f7a4.1.2.2.2⟩, mu_J5_newCapacity_0f7a4.2⟩
theorem mp_J5_newCapacity_0f7a4 : Cond.privateMethod yJ5_newCapacity_0f7a4 ∈ lw_tbl ∧ Cond.instanceMethod yJ5_newCapacity_0f7a4 ∈ lw_tbl := ⟨List.mem_of_getElem? (i := 437) (by decide +kernel), List.mem_of_getElem? (i := 438) (by decide +kernel)⟩
set_option maxRecDepth 100000 in
theorem mu_J5_putStringAt_47b60 : xcU yJ5_putStringAt_47b60 cJ5_putStringAt_47b60 3 none 2 := ⟨⟨GT_mem 826 rfl rfl, GT_mem 825 (by decide +kernel) rfl, GT_mem 1941 (by decide +kernel) rfl, GT_mem 101 (by decide +kernel) rfl⟩, by decide +kernel⟩
set_option maxRecDepth 100000 in
theorem mw_J5_putStringAt_47b60 : xcV yJ5_putStringAt_47b60 RJ4 cJ5_putStringAt_47b60 3 none 2 := ⟨⟨mu_J5_putStringAt_47b60.1.1, mu_J5_putStringAt_47b60.1.2.1, GT_sb (List.mem_of_getElem? (i := 5) rfl), mu_J5_putStringAt_47b60.1.2.2.2⟩, mu_J5_putStringAt_47b60.2⟩
theorem mp_J5_putStringAt_47b60 : Cond.privateMethod yJ5_putStringAt_47b60 ∈ lw_tbl ∧ Cond.instanceMethod yJ5_putStringAt_47b60 ∈ lw_tbl := ⟨List.mem_of_getElem? (i := 824) (by decide +kernel), List.mem_of_getElem? (i := 825) (by decide +kernel)⟩
set_option maxRecDepth 100000 in
theorem mu_J5_setLength_d00df : xcU yJ5_setLength_d00df cJ5_setLength_d00df 2 none 1 := ⟨⟨GT_mem 431 rfl rfl, GT_mem 430 (by decide +kernel) rfl, GT_mem 1936 (by decide +kernel) rfl, GT_mem 101 (by decide +kernel) rfl⟩, by decide +kernel⟩
theorem GT_hold {args : Array Value} {s : State} (h : ∀ w ∈ lw_tbl, w.before args s = true) : ∀ w ∈ GT, w.before args s = true := by
  intro w hw
  rcases List.mem_append.mp (List.mem_filter.mp hw).1 with h1 | h1
  · exact h w h1
  · have hz : (Cond.selects RJ4 yJ5_isLatin1_aae02 yJ5_isLatin1_aae02).before args s = true := h _ (List.mem_of_getElem? (i := 470) (by decide +kernel))
    obtain ⟨y, hy, rfl⟩ := List.mem_map.mp h1
    have key : ∀ y ∈ sbp, (y.cls ≠ "java/lang/invoke/MethodHandle" ∧ y.cls ≠ "java/lang/invoke/VarHandle") ∧ yJ5_isLatin1_aae02.cls = y.cls ∧ Cond.privateMethod y ∈ lw_tbl ∧ Cond.instanceMethod y ∈ lw_tbl :=
      List.forall_mem_cons.mpr ⟨⟨by decide +kernel, rfl, mp_J5_appendNull_278bc⟩, List.forall_mem_cons.mpr ⟨⟨by decide +kernel, rfl, mp_J5_ensureCapacityInternal_d00df⟩, List.forall_mem_cons.mpr ⟨⟨by decide +kernel, rfl, mp_J5_inflateIfNeededFor_a7421⟩, List.forall_mem_cons.mpr ⟨⟨by decide +kernel, rfl, mp_J5_inflate_da8c8⟩, List.forall_mem_cons.mpr ⟨⟨by decide +kernel, rfl, mp_J5_newCapacity_0f7a4⟩, List.forall_mem_cons.mpr ⟨⟨by decide +kernel, rfl, mp_J5_putStringAt_47b60⟩, fun _ h => absurd h List.not_mem_nil⟩⟩⟩⟩⟩⟩
    obtain ⟨a1, a2, a3, a4⟩ := key y hy
    exact sb_selp a1 a2 hz (h _ a3) (h _ a4)
section XSC
variable {p : Program} {l : Launch} {e : Env} {R : Room} {s : State} {m : MethodId} {args : Array Value} {below : List Frame} {meth : Method} {c : Code} {H : Heap} {locs : List Loc} {cells slots : Nat} {Q : State → Prop}
variable {pc : Nat} {ls : Array Slot} {rest : List Value} {E : XE} {cc : ByteArray} {nL : Nat} {own : String} {w0 : Cond} {K : Nat → Nat} {F : Nat → Nat → Nat} {G : XG} {v n : Nat} {cnt : Int32} {index mc ms np maxL : Nat} {y : MethodName} {bytes : ByteArray} {ret : Option FieldType} {rm : Room} {Qc : Array Value → State → Outcome → State → Prop} {b : Addr} {As : List Value} {P9 : State → Prop}
theorem sb_new (S : CallFix p m c cc nL s args (w0 :: GT) own) (hK : XK E s) (hz : E.2.2.1 ≤ s.heap.size) (hT : TWb E K F G v n cnt H) (hS : va_S (xA E) s.heap H locs) {x : Int32} {N : Nat} (hx : x.toInt = ((N : Nat) : Int)) (hN : N ≤ 100) (hc : cells + 1 ≤ R.cells) (hs : slots + 100 ≤ R.slots) (hdg : decode cc pc = .ok (.newarray .byte, 2)) (kk : ∀ (q : Nat) (H1 : Heap), TWc E K F G v n cnt q N H1 → va_S (xA E) s.heap H1 locs → W p l e R s m args below meth c H1 locs (cells + 1) (slots + 100) Q (F0 m (pc + 2) ls (.ref q :: rest))) : W p l e R s m args below meth c H locs cells slots Q (F0 m pc ls (.int x :: rest)) := by
  obtain ⟨ws, hk, ⟨i, j, f, ml, e1, e2, k1, k2, ho, c1, c2, c3⟩, hP, hD⟩ := hT
  have hx2 := xcl (x := x) (by omega)
  refine va_newa (atype := .byte) (ty := .byte) (N' := N) (a0 := (N, .inl (fun _ => 0))) S.1 S.2.1 (S.2.2.2.2 _ (List.mem_cons_of_mem _ ka_byte)) rfl hK.1 hP hD hS (fun q h => Nat.le_trans hz h) (fun cA => ?_) (xnn (by omega)) (by omega) (by show N * 1 ≤ _; omega) hc (by omega) hdg (fun q cA H1 hK1 hP1 hD1 hS1 => ?_)
  · first | rfl | (rw [vp_cell_i]; rfl)
  · have hq : cA = E.2.1 2 := by
      have h1 := (hK1.2 7 (cA, .byte) rfl).2
      have h2 := (hK.1.2 2 (E.2.1 2, .byte) rfl).2
      exact Option.some.inj (h1.symm.trans h2)
    subst hq
    have up : ∀ (i : Nat) (x : Nat × va_E), ws[i]? = some x → (ws ++ [(q, .inl (E.2.1 2, N, .inl (fun _ => 0)))])[i]? = some x := fun i x h => by rw [List.getElem?_append_left (List.getElem?_eq_some_iff.mp h).1]; exact h
    have ap : ∀ (i : Nat) (x : va_E), ws[i]? = some (q, x) → False := fun i x h => by
      have hl := (List.getElem?_eq_some_iff.mp h).1
      have h2 : (ws ++ [(q, .inl (E.2.1 2, N, .inl (fun _ => 0)))])[ws.length]? = some (q, .inl (E.2.1 2, N, .inl (fun _ => 0))) := by simp
      have := hD1.1 _ _ _ _ (up _ _ h) h2 rfl
      omega
    have hne : q ≠ v := fun z => by subst z; exact ap _ _ e2
    have hkq : K q = 0 := by
      by_cases z : K q = 0
      · exact z
      · obtain ⟨i', x', h1, -⟩ := hk.1 q z
        exact (ap _ _ h1).elim
    exact W.widen (k := cells + 1) (n := slots + 100) (Nat.le_refl _) (by omega) (kk q H1 ⟨_, hk.push, ⟨i, j, f, ml, up _ _ e1, up _ _ e2, k1, k2, ho, c1, c2, c3⟩, ⟨ws.length, fun _ => 0, by simp, hkq, hne, fun _ => rfl⟩, hP1, hD1⟩ hS1)
theorem x_runU (S : CallFix p m c cc nL s args (w0 :: GT) own) (hM : Met l y (xw y bytes maxL ret) rm (va_Pc (.ref b :: As) P9) Qc mc ms (xA E)) (hc : xcU y bytes maxL ret np) (hsel : (Cond.selects RJ4 y y).before args s = true) (hl : Cond.methodLink own index y ∈ GT) (hrc : rm.cells = mc) (hrs : rm.slots = ms) (hR : rm.frames + 1 ≤ R.frames ∧ 8 + (maxL + 11) + rm.locals ≤ R.locals)
    (hb : ∃ cell : Cell, H[b]? = some cell ∧ cell.vm.isStatics = false ∧ s.vm.findClass RJ4 = some cell.cls) (hK : XK E s) (hbl : ∀ av : List Value, FrameBlind (va_Pc av P9)) (hp9 : ∀ U : State, U.heap = H → s.WarmedH U.vm → P9 U)
    (hn : As.length = np) (hsize : ls.size = nL) (hW : (rest.map fun v => v.category).sum ≤ 8) (hdg : decode cc pc = .ok (.invokevirtual index, 3)) (hf : cells + mc ≤ R.cells ∧ slots + ms ≤ R.slots) :
    va_Run p l e R s m args below meth c H locs cells slots mc ms (F0 m pc ls (As.reverse ++ .ref b :: rest)) rest (Qc (Value.ref b :: As).toArray) (xA E) := by
  have hB := x_callB S np hc.1.1 hc.1.2.2.2 hl hrc hrs hc.2 hR
  have hi := S.2.2.2.2 _ (List.mem_cons_of_mem _ hc.1.2.1)
  obtain ⟨b1, b2, b3, b4, b5, b6, b7, b8, b9, b10, b11⟩ := hB
  exact va_runU (C := RJ4) (owner := y.cls) (x := y) S hM ⟨⟨b1, b2, b3, b4, b5, b6⟩, b7, b8, b9, b10, b11, S.2.2.2.2 _ (List.mem_cons_of_mem _ hc.1.2.2.1), va_Decl.of hi b7, hsel, hi⟩ ⟨hbl _, hb, fun U hU hW => ⟨rfl, hp9 U hU hW⟩⟩ rfl hn hsize rfl (lv_room hW) hdg hf
theorem x_runSU {cC : ClassId} (hat : ClassAt s RJ4 cC) (S : CallFix p m c cc nL s args (w0 :: GT) RJ4) (hM : Met l y (xw y bytes maxL ret) rm (va_Pc (.ref b :: As) P9) Qc mc ms (xA E)) (hc : xcU y bytes maxL ret np) (hy : y.cls = RJ5) (hno : y.name ≠ "<init>") (hl : Cond.methodLink RJ4 index y ∈ GT) (hrc : rm.cells = mc) (hrs : rm.slots = ms) (hR : rm.frames + 1 ≤ R.frames ∧ 8 + (maxL + 11) + rm.locals ≤ R.locals)
    (hb : ∃ cell : Cell, H[b]? = some cell ∧ cell.vm.isStatics = false ∧ s.vm.findClass RJ4 = some cell.cls) (hK : XK E s) (hbl : ∀ av : List Value, FrameBlind (va_Pc av P9)) (hp9 : ∀ U : State, U.heap = H → s.WarmedH U.vm → P9 U)
    (hn : As.length = np) (hsize : ls.size = nL) (hW : (rest.map fun v => v.category).sum ≤ 8) (hdg : decode cc pc = .ok (.invokespecial index, 3)) (hf : cells + mc ≤ R.cells ∧ slots + ms ≤ R.slots) :
    va_Run p l e R s m args below meth c H locs cells slots mc ms (F0 m pc ls (As.reverse ++ .ref b :: rest)) rest (Qc (Value.ref b :: As).toArray) (xA E) := by
  have hB := x_callB S np hc.1.1 hc.1.2.2.2 hl hrc hrs hc.2 hR
  have hi := S.2.2.2.2 _ (List.mem_cons_of_mem _ hc.1.2.1)
  have hs := S.2.2.2.2 _ (List.mem_cons_of_mem _ k_sup)
  rw [← hy] at hs
  obtain ⟨b1, b2, b3, b4, b5, b6, b7, b8, b9, b10, b11⟩ := hB
  exact va_runSU (C := RJ4) hat S hM ⟨⟨b1, b2, b3, b4, b5, b6⟩, b11, S.2.2.2.2 _ (List.mem_cons_of_mem _ hc.1.2.2.1), hs, hi, b8, b7, hno, b10⟩ ⟨hbl _, hb, fun U hU hW => ⟨rfl, hp9 U hU hW⟩⟩ rfl hn hsize rfl (lv_room hW) hdg hf
theorem x_atJ4 (hK : XK E s) : ∃ cC : ClassId, ClassAt s RJ4 cC := ⟨_, (hK.1.1 0 (RJ4, TJ4, 4) rfl).2⟩
end XSC
end
theorem x_enterF {l : Launch} {y : MethodName} {bytes : ByteArray} {maxL : Nat} {ret : Option FieldType} {rm : Room} {mc ms : Nat} {av : List Value} {P : State → Prop} {Qc : Array Value → State → Outcome → State → Prop} {free : Addr → Prop} (hy : plainFor y = true) (hlen : (lg_sl av).length ≤ maxL)
    (body : ∀ (p : Program) (e : Env) (s : State) (m : MethodId) (args : Array Value) (below : List Frame) (meth : Method) (c : Code) (Q : State → Prop), CallFix p m c bytes maxL s args (xw y bytes maxL ret) y.cls → meth.sig.returnType = ret → meth.locks = false → meth.name = y.name → Q = MQ below Qc args s mc ms free → P s → ∀ ls : Array Slot, lv_has ls maxL (lv_args 0 av) → W p l e rm s m args below meth c s.heap [] 0 0 Q (F0 m 0 ls [])) : Met l y (xw y bytes maxL ret) rm (va_Pc av P) Qc mc ms free := by
  refine va_MetF (cc := bytes) (maxL := maxL) (ret := ret) hy rfl ?_
  intro p e s m args below meth c s₁ B hml hv
  obtain ⟨rfl, hP⟩ := hv
  have hl := lv_entry av (n := maxL) hlen
  rw [lg_entry_eq]
  exact body p e s m _ below meth c _ ⟨B.exec, B.bytes, hml, findClass_of_methodNamed B.named, atoms_spec (ws := xw y bytes maxL ret) B.pre⟩ B.returns B.notSynchronized (name_of_methodNamed B.named B.method).1 rfl hP _ hl
theorem xdivn (x y : Int32) (h0 : x.toInt ≤ 0) (h1 : 0 < y.toInt) : (x / y).toInt = -((-x.toInt) / y.toInt) := by
  have hx := xr x
  have h3 : 0 ≤ (-x.toInt) / y.toInt := Int.ediv_nonneg (by omega) (by omega)
  have h4 : (-x.toInt) / y.toInt ≤ -x.toInt := Int.ediv_le_self _ (by omega)
  have h2 : x.toInt.tdiv y.toInt = -((-x.toInt) / y.toInt) := by
    rw [← Int.tdiv_eq_ediv_of_nonneg (show 0 ≤ -x.toInt by omega), Int.neg_tdiv, Int.neg_neg]
  rw [Int32.toInt_div, h2]
  exact Int.bmod_eq_of_le (by omega) (by omega)

theorem z_J9_max_7cf53_1 (a0 : Int) (a1 : Int) (h0 : a0 < a1) : (a1 ≤ a0 ∧ a1 = a0) ∨ (a0 < a1 ∧ a1 = a1) := by omega
theorem z_J9_max_7cf53_2 (a0 : Int) (a1 : Int) (h0 : ¬ (a0 < a1)) : (a1 ≤ a0 ∧ a0 = a0) ∨ (a0 < a1 ∧ a0 = a1) := by omega
abbrev rm_J9_max_7cf53 : Room := { frames := 0, cells := 0, slots := 0, locals := 0 }
set_option maxHeartbeats 4000000 in
set_option maxRecDepth 100000 in
theorem c_J9_max_7cf53 (l : Launch) (E : XE) (K : Nat → Nat) (F : Nat → Nat → Nat) (G : XG) (h0 : Heap) (p0 : Int32) (p1 : Int32)  : Met l yJ9_max_7cf53 (xw yJ9_max_7cf53 cJ9_max_7cf53 2 (some .int)) rm_J9_max_7cf53 (va_Pc [.int p0, .int p1] (XPh E K F G h0)) (XQ E (fun v (u : Unit) => ∃ r : Int32, v = .int r ∧ ((p1.toInt ≤ p0.toInt ∧ r.toInt = p0.toInt) ∨ (p0.toInt < p1.toInt ∧ r.toInt = p1.toInt))) (fun _ H => H = h0)) 0 0 (xA E) := by
  refine x_enterF (by decide +kernel) (Nat.le_of_ble_eq_true rfl) ?_
  intro p e s m args below meth c Q S hr hlk hnm hQ hP ls hl
  obtain ⟨⟨hz, hK, hT⟩, hh⟩ := hP
  obtain ⟨hx, hb, -, -, -⟩ := id S
  have hS : va_S (xA E) s.heap s.heap [] := va_S.rf
  have hl : lv_has ls 2 [(0, .int p0), (1, .int p1)] := hl
  refine lv_iload_n hx hb dJ9_max_7cf53_0 rfl (lv_at hl 0 rfl) ?_
  refine lv_iload_n hx hb dJ9_max_7cf53_1 rfl (lv_at hl 1 rfl) ?_
  refine xi_clt (tgt := 9) hx hb (rfl : Int32.toInt p0 = p0.toInt) (rfl : Int32.toInt p1 = p1.toInt) dJ9_max_7cf53_2 (by decide) (fun c1 => ?_) (fun c1 => ?_)
  · refine lv_iload_n hx hb dJ9_max_7cf53_9 rfl (lv_at hl 1 rfl) ?_
    exact x_ri hx hb hr hlk hQ (Nat.le_of_ble_eq_true rfl) (Nat.le_of_ble_eq_true rfl) hS dJ9_max_7cf53_10 () ⟨_, rfl, (z_J9_max_7cf53_1 p0.toInt p1.toInt c1)⟩ hh
  · refine lv_iload_n hx hb dJ9_max_7cf53_5 rfl (lv_at hl 0 rfl) ?_
    refine lv_goto (tgt := 10) hx hb dJ9_max_7cf53_6 (by decide) ?_
    exact x_ri hx hb hr hlk hQ (Nat.le_of_ble_eq_true rfl) (Nat.le_of_ble_eq_true rfl) hS dJ9_max_7cf53_10 () ⟨_, rfl, (z_J9_max_7cf53_2 p0.toInt p1.toInt c1)⟩ hh

theorem z_J9_min_7cf53_1 (a0 : Int) (a1 : Int) (h0 : a1 < a0) : (a0 ≤ a1 ∧ a1 = a0) ∨ (a1 < a0 ∧ a1 = a1) := by omega
theorem z_J9_min_7cf53_2 (a0 : Int) (a1 : Int) (h0 : ¬ (a1 < a0)) : (a0 ≤ a1 ∧ a0 = a0) ∨ (a1 < a0 ∧ a0 = a1) := by omega
abbrev rm_J9_min_7cf53 : Room := { frames := 0, cells := 0, slots := 0, locals := 0 }
set_option maxHeartbeats 4000000 in
set_option maxRecDepth 100000 in
theorem c_J9_min_7cf53 (l : Launch) (E : XE) (K : Nat → Nat) (F : Nat → Nat → Nat) (G : XG) (h0 : Heap) (p0 : Int32) (p1 : Int32)  : Met l yJ9_min_7cf53 (xw yJ9_min_7cf53 cJ9_min_7cf53 2 (some .int)) rm_J9_min_7cf53 (va_Pc [.int p0, .int p1] (XPh E K F G h0)) (XQ E (fun v (u : Unit) => ∃ r : Int32, v = .int r ∧ ((p0.toInt ≤ p1.toInt ∧ r.toInt = p0.toInt) ∨ (p1.toInt < p0.toInt ∧ r.toInt = p1.toInt))) (fun _ H => H = h0)) 0 0 (xA E) := by
  refine x_enterF (by decide +kernel) (Nat.le_of_ble_eq_true rfl) ?_
  intro p e s m args below meth c Q S hr hlk hnm hQ hP ls hl
  obtain ⟨⟨hz, hK, hT⟩, hh⟩ := hP
  obtain ⟨hx, hb, -, -, -⟩ := id S
  have hS : va_S (xA E) s.heap s.heap [] := va_S.rf
  have hl : lv_has ls 2 [(0, .int p0), (1, .int p1)] := hl
  refine lv_iload_n hx hb dJ9_min_7cf53_0 rfl (lv_at hl 0 rfl) ?_
  refine lv_iload_n hx hb dJ9_min_7cf53_1 rfl (lv_at hl 1 rfl) ?_
  refine xi_cgt (tgt := 9) hx hb (rfl : Int32.toInt p0 = p0.toInt) (rfl : Int32.toInt p1 = p1.toInt) dJ9_min_7cf53_2 (by decide) (fun c1 => ?_) (fun c1 => ?_)
  · refine lv_iload_n hx hb dJ9_min_7cf53_9 rfl (lv_at hl 1 rfl) ?_
    exact x_ri hx hb hr hlk hQ (Nat.le_of_ble_eq_true rfl) (Nat.le_of_ble_eq_true rfl) hS dJ9_min_7cf53_10 () ⟨_, rfl, (z_J9_min_7cf53_1 p0.toInt p1.toInt c1)⟩ hh
  · refine lv_iload_n hx hb dJ9_min_7cf53_5 rfl (lv_at hl 0 rfl) ?_
    refine lv_goto (tgt := 10) hx hb dJ9_min_7cf53_6 (by decide) ?_
    exact x_ri hx hb hr hlk hQ (Nat.le_of_ble_eq_true rfl) (Nat.le_of_ble_eq_true rfl) hS dJ9_min_7cf53_10 () ⟨_, rfl, (z_J9_min_7cf53_2 p0.toInt p1.toInt c1)⟩ hh

theorem z_J1_canEncode_fc78d_1 (a0 : Int) (h0 : (255 : Int) < a0) : a0 ≤ 255 → (0 : Int) = 1 := by omega
theorem z_J1_canEncode_fc78d_2 (a0 : Int) : a0 ≤ 255 → (1 : Int) = 1 := by omega
abbrev rm_J1_canEncode_fc78d : Room := { frames := 0, cells := 0, slots := 0, locals := 0 }
set_option maxHeartbeats 4000000 in
set_option maxRecDepth 100000 in
theorem c_J1_canEncode_fc78d (l : Launch) (E : XE) (K : Nat → Nat) (F : Nat → Nat → Nat) (G : XG) (h0 : Heap) (p0 : Int32)  : Met l yJ1_canEncode_fc78d (xw yJ1_canEncode_fc78d cJ1_canEncode_fc78d 1 (some .boolean)) rm_J1_canEncode_fc78d (va_Pc [.int p0] (XPh E K F G h0)) (XQ E (fun v (u : Unit) => ∃ r : Int32, v = .int r ∧ (r = 0 ∨ r = 1) ∧ (p0.toInt ≤ 255 → r.toInt = 1)) (fun _ H => H = h0)) 0 0 (xA E) := by
  refine x_enter (by decide) (Nat.le_of_ble_eq_true rfl) ?_
  intro p e s m args below meth c Q S hr hlk hnm hQ hP ls hl
  obtain ⟨⟨hz, hK, hT⟩, hh⟩ := hP
  obtain ⟨hx, hb, -, -, -⟩ := id S
  have hS : va_S (xA E) s.heap s.heap [] := va_S.rf
  have hl : lv_has ls 1 [(0, .int p0)] := hl
  refine lv_iload_n hx hb dJ1_canEncode_fc78d_0 rfl (lv_at hl 0 rfl) ?_
  refine lv_sipush (v := 255) hx hb dJ1_canEncode_fc78d_1 (by decide) ?_
  refine xi_cgt (tgt := 11) hx hb (rfl : Int32.toInt p0 = p0.toInt) ((by decide) : Int32.toInt 255 = (255 : Int)) dJ1_canEncode_fc78d_4 (by decide) (fun c1 => ?_) (fun c1 => ?_)
  · refine lv_iconst (v := 0) hx hb dJ1_canEncode_fc78d_11 (by decide) ?_
    exact x_rz hx hb hr (xnz (Or.inl rfl)) hlk hQ (Nat.le_of_ble_eq_true rfl) (Nat.le_of_ble_eq_true rfl) hS dJ1_canEncode_fc78d_12 () ⟨_, rfl, (Or.inl rfl), (z_J1_canEncode_fc78d_1 p0.toInt c1)⟩ hh
  · refine lv_iconst (v := 1) hx hb dJ1_canEncode_fc78d_7 (by decide) ?_
    refine lv_goto (tgt := 12) hx hb dJ1_canEncode_fc78d_8 (by decide) ?_
    exact x_rz hx hb hr (xnz (Or.inr rfl)) hlk hQ (Nat.le_of_ble_eq_true rfl) (Nat.le_of_ble_eq_true rfl) hS dJ1_canEncode_fc78d_12 () ⟨_, rfl, (Or.inr rfl), (z_J1_canEncode_fc78d_2 p0.toInt)⟩ hh

theorem z_J8_newLength_cabcc_1 (a0 : Int) (a1 : Int) (a2 : Int) (a3 : Int) (a4 : Int) (h0 : 0 ≤ a0 ∧ a0 ≤ 100) (h1 : 0 ≤ a1 ∧ a1 ≤ 100) (h2 : 1 ≤ a2 ∧ a2 ≤ 200) (h3 : (a2 ≤ a1 ∧ a3 = a1) ∨ (a1 < a2 ∧ a3 = a2)) (h4 : a4 = a0 + a3 ∨ a0 + a3 < -2147483648 ∨ 2147483648 ≤ a0 + a3) (h5 : a4 ≤ (0 : Int)) : (0 : Int) = 1 ∧ a4 = a4 := by omega
theorem z_J8_newLength_cabcc_2 (a0 : Int) (a1 : Int) (a2 : Int) (a3 : Int) (a4 : Int) (h0 : 0 ≤ a0 ∧ a0 ≤ 100) (h1 : 0 ≤ a1 ∧ a1 ≤ 100) (h2 : 1 ≤ a2 ∧ a2 ≤ 200) (h3 : (a2 ≤ a1 ∧ a3 = a1) ∨ (a1 < a2 ∧ a3 = a2)) (h4 : a4 = a0 + a3 ∨ a0 + a3 < -2147483648 ∨ 2147483648 ≤ a0 + a3) (h5 : (2147483639 : Int) < a4) : (0 : Int) = 1 ∧ a4 = a4 := by omega
theorem z_J8_newLength_cabcc_3 (a0 : Int) (a1 : Int) (a2 : Int) (a3 : Int) (a4 : Int) (h0 : 0 ≤ a0 ∧ a0 ≤ 100) (h1 : 0 ≤ a1 ∧ a1 ≤ 100) (h2 : 1 ≤ a2 ∧ a2 ≤ 200) (h3 : (a2 ≤ a1 ∧ a3 = a1) ∨ (a1 < a2 ∧ a3 = a2)) (h4 : a4 = a0 + a3 ∨ a0 + a3 < -2147483648 ∨ 2147483648 ≤ a0 + a3) : (a2 ≤ a1 ∧ a4 = a0 + a1) ∨ (a1 < a2 ∧ a4 = a0 + a2) := by omega
abbrev rm_J8_newLength_cabcc : Room := { frames := 1, cells := 0, slots := 0, locals := 21 }
set_option maxHeartbeats 4000000 in
set_option maxRecDepth 100000 in
theorem c_J8_newLength_cabcc (l : Launch) (E : XE) (K : Nat → Nat) (F : Nat → Nat → Nat) (G : XG) (h0 : Heap) (p0 : Int32) (p1 : Int32) (p2 : Int32) (e0 : 0 ≤ p0.toInt ∧ p0.toInt ≤ 100) (e1 : 0 ≤ p1.toInt ∧ p1.toInt ≤ 100) (e2 : 1 ≤ p2.toInt ∧ p2.toInt ≤ 200) : Met l yJ8_newLength_cabcc (xw yJ8_newLength_cabcc cJ8_newLength_cabcc 4 (some .int)) rm_J8_newLength_cabcc (va_Pc [.int p0, .int p1, .int p2] (XPh E K F G h0)) (XQ E (fun v (u : Unit) => ∃ r : Int32, v = .int r ∧ ((p2.toInt ≤ p1.toInt ∧ r.toInt = p0.toInt + p1.toInt) ∨ (p1.toInt < p2.toInt ∧ r.toInt = p0.toInt + p2.toInt))) (fun _ H => H = h0)) 0 0 (xA E) := by
  refine x_enter (by decide) (Nat.le_of_ble_eq_true rfl) ?_
  intro p e s m args below meth c Q S hr hlk hnm hQ hP ls hl
  obtain ⟨⟨hz, hK, hT⟩, hh⟩ := hP
  obtain ⟨hx, hb, -, -, -⟩ := id S
  have hS : va_S (xA E) s.heap s.heap [] := va_S.rf
  have hl : lv_has ls 4 [(0, .int p0), (1, .int p1), (2, .int p2)] := hl
  refine lv_iload_n hx hb dJ8_newLength_cabcc_0 rfl (lv_at hl 0 rfl) ?_
  refine lv_iload_n hx hb dJ8_newLength_cabcc_1 rfl (lv_at hl 1 rfl) ?_
  refine lv_iload_n hx hb dJ8_newLength_cabcc_2 rfl (lv_at hl 2 rfl) ?_
  refine x_clp (x_runS (As := [.int p1, .int p2]) (rest := [.int p0]) S (c_J9_max_7cf53 l E K F G s.heap p1 p2) ms_J9_max_7cf53 km_J8_194 rfl rfl ⟨Nat.le_of_ble_eq_true rfl, Nat.le_of_ble_eq_true rfl⟩ hK (fun _ => XPh.blind) (fun U hU hW => XPh.at hK hz hS hT hU hW) rfl hl.1 (Nat.le_of_ble_eq_true rfl) dJ8_newLength_cabcc_3 ⟨Nat.le_of_ble_eq_true rfl, Nat.le_of_ble_eq_true rfl⟩) hS ?_
  rintro _ _ locs ⟨x1, rfl, t2⟩ hS
  have t2 : (p2.toInt ≤ p1.toInt ∧ x1.toInt = p1.toInt) ∨ (p1.toInt < p2.toInt ∧ x1.toInt = p2.toInt) := t2
  refine xi_iadd hx hb (rfl : Int32.toInt p0 = p0.toInt) (rfl : Int32.toInt x1 = x1.toInt) dJ8_newLength_cabcc_6 (fun x3 t4 => ?_)
  refine lv_istore_n (lv' := [(3, .int x3), (0, .int p0), (1, .int p1), (2, .int p2)]) hx hb dJ8_newLength_cabcc_7 rfl hl (by decide) rfl (fun ls hl => ?_)
  refine lv_iconst (v := 0) hx hb dJ8_newLength_cabcc_8 (by decide) ?_
  refine lv_iload_n hx hb dJ8_newLength_cabcc_9 rfl (lv_at hl 0 rfl) ?_
  refine xi_cge (tgt := 21) hx hb ((by decide) : Int32.toInt 0 = (0 : Int)) (rfl : Int32.toInt x3 = x3.toInt) dJ8_newLength_cabcc_10 (by decide) (fun c5 => ?_) (fun c5 => ?_)
  · exact absurd ((z_J8_newLength_cabcc_1 p0.toInt p1.toInt p2.toInt x1.toInt x3.toInt e0 e1 e2 t2 t4 c5)).1 (by decide)
  · refine lv_iload_n hx hb dJ8_newLength_cabcc_13 rfl (lv_at hl 0 rfl) ?_
    refine lv_ldc (v := 2147483639) hx hb S.2.2.2.1 (S.2.2.2.2 _ (List.mem_cons_of_mem _ kc_J8_200)) dJ8_newLength_cabcc_14 ?_
    refine xi_cgt (tgt := 21) hx hb (rfl : Int32.toInt x3 = x3.toInt) ((by decide) : Int32.toInt 2147483639 = (2147483639 : Int)) dJ8_newLength_cabcc_16 (by decide) (fun c6 => ?_) (fun c6 => ?_)
    · exact absurd ((z_J8_newLength_cabcc_2 p0.toInt p1.toInt p2.toInt x1.toInt x3.toInt e0 e1 e2 t2 t4 c6)).1 (by decide)
    · refine lv_iload_n hx hb dJ8_newLength_cabcc_19 rfl (lv_at hl 0 rfl) ?_
      exact x_ri hx hb hr hlk hQ (Nat.le_of_ble_eq_true rfl) (Nat.le_of_ble_eq_true rfl) hS dJ8_newLength_cabcc_20 () ⟨_, rfl, (z_J8_newLength_cabcc_3 p0.toInt p1.toInt p2.toInt x1.toInt x3.toInt e0 e1 e2 t2 t4)⟩ hh

theorem z_J6_stringSize_0f7a4_1 (a0 : Int) (a1 : Int) (a2 : Int) (a3 : Int) (h0 : (a0 < 0 ∧ a2 = 1 ∧ a1 = a0) ∨ (0 ≤ a0 ∧ a2 = 0 ∧ a1 = -a0)) (h1 : a3 = (10 : Int) + a2 ∨ (10 : Int) + a2 < -2147483648 ∨ 2147483648 ≤ (10 : Int) + a2) : 1 ≤ a3 ∧ a3 ≤ 11 ∧ (a0 < 0 → 2 ≤ a3) ∧ (a0 ≤ -10 → 3 ≤ a3) ∧ (10 ≤ a0 → 2 ≤ a3) ∧ (a0 ≤ -100 → 4 ≤ a3) ∧ (100 ≤ a0 → 3 ≤ a3) ∧ (a0 ≤ -1000 → 5 ≤ a3) ∧ (1000 ≤ a0 → 4 ≤ a3) ∧ (a0 ≤ -10000 → 6 ≤ a3) ∧ (10000 ≤ a0 → 5 ≤ a3) ∧ (a0 ≤ -100000 → 7 ≤ a3) ∧ (100000 ≤ a0 → 6 ≤ a3) ∧ (a0 ≤ -1000000 → 8 ≤ a3) ∧ (1000000 ≤ a0 → 7 ≤ a3) ∧ (a0 ≤ -10000000 → 9 ≤ a3) ∧ (10000000 ≤ a0 → 8 ≤ a3) ∧ (a0 ≤ -100000000 → 10 ≤ a3) ∧ (100000000 ≤ a0 → 9 ≤ a3) ∧ (a0 ≤ -1000000000 → 11 ≤ a3) ∧ (1000000000 ≤ a0 → 10 ≤ a3) := by omega
theorem z_J6_stringSize_0f7a4_2 (a0 : Int) (a1 : Int) (a2 : Int) (a3 : Int) (h0 : (a0 < 0 ∧ a2 = 1 ∧ a1 = a0) ∨ (0 ≤ a0 ∧ a2 = 0 ∧ a1 = -a0)) (h1 : ¬ (a1 ≤ (-1000000000 : Int))) (h2 : a3 = (9 : Int) + a2 ∨ (9 : Int) + a2 < -2147483648 ∨ 2147483648 ≤ (9 : Int) + a2) : 1 ≤ a3 ∧ a3 ≤ 11 ∧ (a0 < 0 → 2 ≤ a3) ∧ (a0 ≤ -10 → 3 ≤ a3) ∧ (10 ≤ a0 → 2 ≤ a3) ∧ (a0 ≤ -100 → 4 ≤ a3) ∧ (100 ≤ a0 → 3 ≤ a3) ∧ (a0 ≤ -1000 → 5 ≤ a3) ∧ (1000 ≤ a0 → 4 ≤ a3) ∧ (a0 ≤ -10000 → 6 ≤ a3) ∧ (10000 ≤ a0 → 5 ≤ a3) ∧ (a0 ≤ -100000 → 7 ≤ a3) ∧ (100000 ≤ a0 → 6 ≤ a3) ∧ (a0 ≤ -1000000 → 8 ≤ a3) ∧ (1000000 ≤ a0 → 7 ≤ a3) ∧ (a0 ≤ -10000000 → 9 ≤ a3) ∧ (10000000 ≤ a0 → 8 ≤ a3) ∧ (a0 ≤ -100000000 → 10 ≤ a3) ∧ (100000000 ≤ a0 → 9 ≤ a3) ∧ (a0 ≤ -1000000000 → 11 ≤ a3) ∧ (1000000000 ≤ a0 → 10 ≤ a3) := by omega
theorem z_J6_stringSize_0f7a4_3 (a0 : Int) (a1 : Int) (a2 : Int) (a3 : Int) (h0 : (a0 < 0 ∧ a2 = 1 ∧ a1 = a0) ∨ (0 ≤ a0 ∧ a2 = 0 ∧ a1 = -a0)) (h1 : ¬ (a1 ≤ (-100000000 : Int))) (h2 : a3 = (8 : Int) + a2 ∨ (8 : Int) + a2 < -2147483648 ∨ 2147483648 ≤ (8 : Int) + a2) : 1 ≤ a3 ∧ a3 ≤ 11 ∧ (a0 < 0 → 2 ≤ a3) ∧ (a0 ≤ -10 → 3 ≤ a3) ∧ (10 ≤ a0 → 2 ≤ a3) ∧ (a0 ≤ -100 → 4 ≤ a3) ∧ (100 ≤ a0 → 3 ≤ a3) ∧ (a0 ≤ -1000 → 5 ≤ a3) ∧ (1000 ≤ a0 → 4 ≤ a3) ∧ (a0 ≤ -10000 → 6 ≤ a3) ∧ (10000 ≤ a0 → 5 ≤ a3) ∧ (a0 ≤ -100000 → 7 ≤ a3) ∧ (100000 ≤ a0 → 6 ≤ a3) ∧ (a0 ≤ -1000000 → 8 ≤ a3) ∧ (1000000 ≤ a0 → 7 ≤ a3) ∧ (a0 ≤ -10000000 → 9 ≤ a3) ∧ (10000000 ≤ a0 → 8 ≤ a3) ∧ (a0 ≤ -100000000 → 10 ≤ a3) ∧ (100000000 ≤ a0 → 9 ≤ a3) ∧ (a0 ≤ -1000000000 → 11 ≤ a3) ∧ (1000000000 ≤ a0 → 10 ≤ a3) := by omega
theorem z_J6_stringSize_0f7a4_4 (a0 : Int) (a1 : Int) (a2 : Int) (a3 : Int) (h0 : (a0 < 0 ∧ a2 = 1 ∧ a1 = a0) ∨ (0 ≤ a0 ∧ a2 = 0 ∧ a1 = -a0)) (h1 : ¬ (a1 ≤ (-10000000 : Int))) (h2 : a3 = (7 : Int) + a2 ∨ (7 : Int) + a2 < -2147483648 ∨ 2147483648 ≤ (7 : Int) + a2) : 1 ≤ a3 ∧ a3 ≤ 11 ∧ (a0 < 0 → 2 ≤ a3) ∧ (a0 ≤ -10 → 3 ≤ a3) ∧ (10 ≤ a0 → 2 ≤ a3) ∧ (a0 ≤ -100 → 4 ≤ a3) ∧ (100 ≤ a0 → 3 ≤ a3) ∧ (a0 ≤ -1000 → 5 ≤ a3) ∧ (1000 ≤ a0 → 4 ≤ a3) ∧ (a0 ≤ -10000 → 6 ≤ a3) ∧ (10000 ≤ a0 → 5 ≤ a3) ∧ (a0 ≤ -100000 → 7 ≤ a3) ∧ (100000 ≤ a0 → 6 ≤ a3) ∧ (a0 ≤ -1000000 → 8 ≤ a3) ∧ (1000000 ≤ a0 → 7 ≤ a3) ∧ (a0 ≤ -10000000 → 9 ≤ a3) ∧ (10000000 ≤ a0 → 8 ≤ a3) ∧ (a0 ≤ -100000000 → 10 ≤ a3) ∧ (100000000 ≤ a0 → 9 ≤ a3) ∧ (a0 ≤ -1000000000 → 11 ≤ a3) ∧ (1000000000 ≤ a0 → 10 ≤ a3) := by omega
theorem z_J6_stringSize_0f7a4_5 (a0 : Int) (a1 : Int) (a2 : Int) (a3 : Int) (h0 : (a0 < 0 ∧ a2 = 1 ∧ a1 = a0) ∨ (0 ≤ a0 ∧ a2 = 0 ∧ a1 = -a0)) (h1 : ¬ (a1 ≤ (-1000000 : Int))) (h2 : a3 = (6 : Int) + a2 ∨ (6 : Int) + a2 < -2147483648 ∨ 2147483648 ≤ (6 : Int) + a2) : 1 ≤ a3 ∧ a3 ≤ 11 ∧ (a0 < 0 → 2 ≤ a3) ∧ (a0 ≤ -10 → 3 ≤ a3) ∧ (10 ≤ a0 → 2 ≤ a3) ∧ (a0 ≤ -100 → 4 ≤ a3) ∧ (100 ≤ a0 → 3 ≤ a3) ∧ (a0 ≤ -1000 → 5 ≤ a3) ∧ (1000 ≤ a0 → 4 ≤ a3) ∧ (a0 ≤ -10000 → 6 ≤ a3) ∧ (10000 ≤ a0 → 5 ≤ a3) ∧ (a0 ≤ -100000 → 7 ≤ a3) ∧ (100000 ≤ a0 → 6 ≤ a3) ∧ (a0 ≤ -1000000 → 8 ≤ a3) ∧ (1000000 ≤ a0 → 7 ≤ a3) ∧ (a0 ≤ -10000000 → 9 ≤ a3) ∧ (10000000 ≤ a0 → 8 ≤ a3) ∧ (a0 ≤ -100000000 → 10 ≤ a3) ∧ (100000000 ≤ a0 → 9 ≤ a3) ∧ (a0 ≤ -1000000000 → 11 ≤ a3) ∧ (1000000000 ≤ a0 → 10 ≤ a3) := by omega
theorem z_J6_stringSize_0f7a4_6 (a0 : Int) (a1 : Int) (a2 : Int) (a3 : Int) (h0 : (a0 < 0 ∧ a2 = 1 ∧ a1 = a0) ∨ (0 ≤ a0 ∧ a2 = 0 ∧ a1 = -a0)) (h1 : ¬ (a1 ≤ (-100000 : Int))) (h2 : a3 = (5 : Int) + a2 ∨ (5 : Int) + a2 < -2147483648 ∨ 2147483648 ≤ (5 : Int) + a2) : 1 ≤ a3 ∧ a3 ≤ 11 ∧ (a0 < 0 → 2 ≤ a3) ∧ (a0 ≤ -10 → 3 ≤ a3) ∧ (10 ≤ a0 → 2 ≤ a3) ∧ (a0 ≤ -100 → 4 ≤ a3) ∧ (100 ≤ a0 → 3 ≤ a3) ∧ (a0 ≤ -1000 → 5 ≤ a3) ∧ (1000 ≤ a0 → 4 ≤ a3) ∧ (a0 ≤ -10000 → 6 ≤ a3) ∧ (10000 ≤ a0 → 5 ≤ a3) ∧ (a0 ≤ -100000 → 7 ≤ a3) ∧ (100000 ≤ a0 → 6 ≤ a3) ∧ (a0 ≤ -1000000 → 8 ≤ a3) ∧ (1000000 ≤ a0 → 7 ≤ a3) ∧ (a0 ≤ -10000000 → 9 ≤ a3) ∧ (10000000 ≤ a0 → 8 ≤ a3) ∧ (a0 ≤ -100000000 → 10 ≤ a3) ∧ (100000000 ≤ a0 → 9 ≤ a3) ∧ (a0 ≤ -1000000000 → 11 ≤ a3) ∧ (1000000000 ≤ a0 → 10 ≤ a3) := by omega
theorem z_J6_stringSize_0f7a4_7 (a0 : Int) (a1 : Int) (a2 : Int) (a3 : Int) (h0 : (a0 < 0 ∧ a2 = 1 ∧ a1 = a0) ∨ (0 ≤ a0 ∧ a2 = 0 ∧ a1 = -a0)) (h1 : ¬ (a1 ≤ (-10000 : Int))) (h2 : a3 = (4 : Int) + a2 ∨ (4 : Int) + a2 < -2147483648 ∨ 2147483648 ≤ (4 : Int) + a2) : 1 ≤ a3 ∧ a3 ≤ 11 ∧ (a0 < 0 → 2 ≤ a3) ∧ (a0 ≤ -10 → 3 ≤ a3) ∧ (10 ≤ a0 → 2 ≤ a3) ∧ (a0 ≤ -100 → 4 ≤ a3) ∧ (100 ≤ a0 → 3 ≤ a3) ∧ (a0 ≤ -1000 → 5 ≤ a3) ∧ (1000 ≤ a0 → 4 ≤ a3) ∧ (a0 ≤ -10000 → 6 ≤ a3) ∧ (10000 ≤ a0 → 5 ≤ a3) ∧ (a0 ≤ -100000 → 7 ≤ a3) ∧ (100000 ≤ a0 → 6 ≤ a3) ∧ (a0 ≤ -1000000 → 8 ≤ a3) ∧ (1000000 ≤ a0 → 7 ≤ a3) ∧ (a0 ≤ -10000000 → 9 ≤ a3) ∧ (10000000 ≤ a0 → 8 ≤ a3) ∧ (a0 ≤ -100000000 → 10 ≤ a3) ∧ (100000000 ≤ a0 → 9 ≤ a3) ∧ (a0 ≤ -1000000000 → 11 ≤ a3) ∧ (1000000000 ≤ a0 → 10 ≤ a3) := by omega
theorem z_J6_stringSize_0f7a4_8 (a0 : Int) (a1 : Int) (a2 : Int) (a3 : Int) (h0 : (a0 < 0 ∧ a2 = 1 ∧ a1 = a0) ∨ (0 ≤ a0 ∧ a2 = 0 ∧ a1 = -a0)) (h1 : ¬ (a1 ≤ (-1000 : Int))) (h2 : a3 = (3 : Int) + a2 ∨ (3 : Int) + a2 < -2147483648 ∨ 2147483648 ≤ (3 : Int) + a2) : 1 ≤ a3 ∧ a3 ≤ 11 ∧ (a0 < 0 → 2 ≤ a3) ∧ (a0 ≤ -10 → 3 ≤ a3) ∧ (10 ≤ a0 → 2 ≤ a3) ∧ (a0 ≤ -100 → 4 ≤ a3) ∧ (100 ≤ a0 → 3 ≤ a3) ∧ (a0 ≤ -1000 → 5 ≤ a3) ∧ (1000 ≤ a0 → 4 ≤ a3) ∧ (a0 ≤ -10000 → 6 ≤ a3) ∧ (10000 ≤ a0 → 5 ≤ a3) ∧ (a0 ≤ -100000 → 7 ≤ a3) ∧ (100000 ≤ a0 → 6 ≤ a3) ∧ (a0 ≤ -1000000 → 8 ≤ a3) ∧ (1000000 ≤ a0 → 7 ≤ a3) ∧ (a0 ≤ -10000000 → 9 ≤ a3) ∧ (10000000 ≤ a0 → 8 ≤ a3) ∧ (a0 ≤ -100000000 → 10 ≤ a3) ∧ (100000000 ≤ a0 → 9 ≤ a3) ∧ (a0 ≤ -1000000000 → 11 ≤ a3) ∧ (1000000000 ≤ a0 → 10 ≤ a3) := by omega
theorem z_J6_stringSize_0f7a4_9 (a0 : Int) (a1 : Int) (a2 : Int) (a3 : Int) (h0 : (a0 < 0 ∧ a2 = 1 ∧ a1 = a0) ∨ (0 ≤ a0 ∧ a2 = 0 ∧ a1 = -a0)) (h1 : ¬ (a1 ≤ (-100 : Int))) (h2 : a3 = (2 : Int) + a2 ∨ (2 : Int) + a2 < -2147483648 ∨ 2147483648 ≤ (2 : Int) + a2) : 1 ≤ a3 ∧ a3 ≤ 11 ∧ (a0 < 0 → 2 ≤ a3) ∧ (a0 ≤ -10 → 3 ≤ a3) ∧ (10 ≤ a0 → 2 ≤ a3) ∧ (a0 ≤ -100 → 4 ≤ a3) ∧ (100 ≤ a0 → 3 ≤ a3) ∧ (a0 ≤ -1000 → 5 ≤ a3) ∧ (1000 ≤ a0 → 4 ≤ a3) ∧ (a0 ≤ -10000 → 6 ≤ a3) ∧ (10000 ≤ a0 → 5 ≤ a3) ∧ (a0 ≤ -100000 → 7 ≤ a3) ∧ (100000 ≤ a0 → 6 ≤ a3) ∧ (a0 ≤ -1000000 → 8 ≤ a3) ∧ (1000000 ≤ a0 → 7 ≤ a3) ∧ (a0 ≤ -10000000 → 9 ≤ a3) ∧ (10000000 ≤ a0 → 8 ≤ a3) ∧ (a0 ≤ -100000000 → 10 ≤ a3) ∧ (100000000 ≤ a0 → 9 ≤ a3) ∧ (a0 ≤ -1000000000 → 11 ≤ a3) ∧ (1000000000 ≤ a0 → 10 ≤ a3) := by omega
theorem z_J6_stringSize_0f7a4_10 (a0 : Int) (a1 : Int) (a2 : Int) (a3 : Int) (h0 : (a0 < 0 ∧ a2 = 1 ∧ a1 = a0) ∨ (0 ≤ a0 ∧ a2 = 0 ∧ a1 = -a0)) (h1 : ¬ (a1 ≤ (-10 : Int))) (h2 : a3 = (1 : Int) + a2 ∨ (1 : Int) + a2 < -2147483648 ∨ 2147483648 ≤ (1 : Int) + a2) : 1 ≤ a3 ∧ a3 ≤ 11 ∧ (a0 < 0 → 2 ≤ a3) ∧ (a0 ≤ -10 → 3 ≤ a3) ∧ (10 ≤ a0 → 2 ≤ a3) ∧ (a0 ≤ -100 → 4 ≤ a3) ∧ (100 ≤ a0 → 3 ≤ a3) ∧ (a0 ≤ -1000 → 5 ≤ a3) ∧ (1000 ≤ a0 → 4 ≤ a3) ∧ (a0 ≤ -10000 → 6 ≤ a3) ∧ (10000 ≤ a0 → 5 ≤ a3) ∧ (a0 ≤ -100000 → 7 ≤ a3) ∧ (100000 ≤ a0 → 6 ≤ a3) ∧ (a0 ≤ -1000000 → 8 ≤ a3) ∧ (1000000 ≤ a0 → 7 ≤ a3) ∧ (a0 ≤ -10000000 → 9 ≤ a3) ∧ (10000000 ≤ a0 → 8 ≤ a3) ∧ (a0 ≤ -100000000 → 10 ≤ a3) ∧ (100000000 ≤ a0 → 9 ≤ a3) ∧ (a0 ≤ -1000000000 → 11 ≤ a3) ∧ (1000000000 ≤ a0 → 10 ≤ a3) := by omega
theorem z_J6_stringSize_0f7a4_11 (a0 : Int) (h0 : a0 < 0) : (a0 < 0 ∧ (1 : Int) = 1 ∧ a0 = a0) ∨ (0 ≤ a0 ∧ (1 : Int) = 0 ∧ a0 = -a0) := by omega
theorem z_J6_stringSize_0f7a4_12 (a0 : Int) (a1 : Int) (h0 : ¬ (a0 < 0)) (h1 : a1 = -a0 ∨ -a0 < -2147483648 ∨ 2147483648 ≤ -a0) (h2 : -2147483648 ≤ a0 ∧ a0 < 2147483648) : (a0 < 0 ∧ (0 : Int) = 1 ∧ a1 = a0) ∨ (0 ≤ a0 ∧ (0 : Int) = 0 ∧ a1 = -a0) := by omega
abbrev rm_J6_stringSize_0f7a4 : Room := { frames := 0, cells := 0, slots := 0, locals := 0 }
set_option maxHeartbeats 4000000 in
set_option maxRecDepth 100000 in
theorem c_J6_stringSize_0f7a4 (l : Launch) (E : XE) (K : Nat → Nat) (F : Nat → Nat → Nat) (G : XG) (h0 : Heap) (p0 : Int32)  : Met l yJ6_stringSize_0f7a4 (xw yJ6_stringSize_0f7a4 cJ6_stringSize_0f7a4 4 (some .int)) rm_J6_stringSize_0f7a4 (va_Pc [.int p0] (XPh E K F G h0)) (XQ E (fun v (u : Unit) => ∃ r : Int32, v = .int r ∧ (1 ≤ r.toInt ∧ r.toInt ≤ 11 ∧ (p0.toInt < 0 → 2 ≤ r.toInt) ∧ (p0.toInt ≤ -10 → 3 ≤ r.toInt) ∧ (10 ≤ p0.toInt → 2 ≤ r.toInt) ∧ (p0.toInt ≤ -100 → 4 ≤ r.toInt) ∧ (100 ≤ p0.toInt → 3 ≤ r.toInt) ∧ (p0.toInt ≤ -1000 → 5 ≤ r.toInt) ∧ (1000 ≤ p0.toInt → 4 ≤ r.toInt) ∧ (p0.toInt ≤ -10000 → 6 ≤ r.toInt) ∧ (10000 ≤ p0.toInt → 5 ≤ r.toInt) ∧ (p0.toInt ≤ -100000 → 7 ≤ r.toInt) ∧ (100000 ≤ p0.toInt → 6 ≤ r.toInt) ∧ (p0.toInt ≤ -1000000 → 8 ≤ r.toInt) ∧ (1000000 ≤ p0.toInt → 7 ≤ r.toInt) ∧ (p0.toInt ≤ -10000000 → 9 ≤ r.toInt) ∧ (10000000 ≤ p0.toInt → 8 ≤ r.toInt) ∧ (p0.toInt ≤ -100000000 → 10 ≤ r.toInt) ∧ (100000000 ≤ p0.toInt → 9 ≤ r.toInt) ∧ (p0.toInt ≤ -1000000000 → 11 ≤ r.toInt) ∧ (1000000000 ≤ p0.toInt → 10 ≤ r.toInt))) (fun _ H => H = h0)) 0 0 (xA E) := by
  refine x_enter (by decide) (Nat.le_of_ble_eq_true rfl) ?_
  intro p e s m args below meth c Q S hr hlk hnm hQ hP ls hl
  obtain ⟨⟨hz, hK, hT⟩, hh⟩ := hP
  obtain ⟨hx, hb, -, -, -⟩ := id S
  have hS : va_S (xA E) s.heap s.heap [] := va_S.rf
  have hl : lv_has ls 4 [(0, .int p0)] := hl
  refine lv_iconst (v := 1) hx hb dJ6_stringSize_0f7a4_0 (by decide) ?_
  refine lv_istore_n (lv' := [(1, .int 1), (0, .int p0)]) hx hb dJ6_stringSize_0f7a4_1 rfl hl (by decide) rfl (fun ls hl => ?_)
  refine lv_iload_n hx hb dJ6_stringSize_0f7a4_2 rfl (lv_at hl 1 rfl) ?_
  have J11 : ∀ (x1 : Int32) (x2 : Int32) (locs : List Loc) (ls : Array Slot), (p0.toInt < 0 ∧ x2.toInt = 1 ∧ x1.toInt = p0.toInt) ∨ (0 ≤ p0.toInt ∧ x2.toInt = 0 ∧ x1.toInt = -p0.toInt) → TW E K F G s.heap → va_S (xA E) s.heap s.heap locs → lv_has ls 4 [(0, .int x1), (1, .int x2)] → W p l e rm_J6_stringSize_0f7a4 s m args below meth c s.heap locs 0 0 Q (F0 m 11 ls []) := by
    intro x1 x2 locs ls hf3 hT hS hl
    refine lv_bipush (v := (-10)) hx hb dJ6_stringSize_0f7a4_11 (by decide) ?_
    refine lv_istore_n (lv' := [(2, .int (-10)), (0, .int x1), (1, .int x2)]) hx hb dJ6_stringSize_0f7a4_13 rfl hl (by decide) rfl (fun ls hl => ?_)
    refine lv_iconst (v := 1) hx hb dJ6_stringSize_0f7a4_14 (by decide) ?_
    refine lv_istore_n (lv' := [(3, .int 1), (2, .int (-10)), (0, .int x1), (1, .int x2)]) hx hb dJ6_stringSize_0f7a4_15 rfl hl (by decide) rfl (fun ls hl => ?_)
    refine lv_iload_n hx hb dJ6_stringSize_0f7a4_16 rfl (lv_at hl 0 rfl) ?_
    refine lv_bipush (v := 10) hx hb dJ6_stringSize_0f7a4_17 (by decide) ?_
    refine xi_cge (tgt := 42) hx hb ((by decide) : Int32.toInt 1 = (1 : Int)) ((by decide) : Int32.toInt 10 = (10 : Int)) dJ6_stringSize_0f7a4_19 (by decide) (fun c => absurd c (show ¬ ((10 : Int) ≤ (1 : Int)) by decide)) (fun _ => ?_)
    refine lv_iload_n hx hb dJ6_stringSize_0f7a4_22 rfl (lv_at hl 2 rfl) ?_
    refine lv_iload_n hx hb dJ6_stringSize_0f7a4_23 rfl (lv_at hl 1 rfl) ?_
    refine xi_cle (tgt := 31) hx hb (rfl : Int32.toInt x1 = x1.toInt) ((by decide) : Int32.toInt (-10) = (-10 : Int)) dJ6_stringSize_0f7a4_24 (by decide) (fun c4 => ?_) (fun c4 => ?_)
    · refine lv_bipush (v := 10) hx hb dJ6_stringSize_0f7a4_31 (by decide) ?_
      refine lv_iload_n hx hb dJ6_stringSize_0f7a4_33 rfl (lv_at hl 1 rfl) ?_
      refine xi_imul hx hb ((by decide) : Int32.toInt 10 = (10 : Int)) ((by decide) : Int32.toInt (-10) = (-10 : Int)) dJ6_stringSize_0f7a4_34 (fun x5 t6 => ?_)
      have e9 : ((-100) : Int32).toInt = (-100) := by decide
      have h9 : x5 = (-100) := Int32.toInt_inj.mp (by rw [e9]; omega)
      subst h9
      refine lv_istore_n (lv' := [(2, .int (-100)), (3, .int 1), (0, .int x1), (1, .int x2)]) hx hb dJ6_stringSize_0f7a4_35 rfl hl (by decide) rfl (fun ls hl => ?_)
      refine xi_iinc (n := 1) (lv' := fun z9 => [(3, .int z9), (2, .int (-100)), (0, .int x1), (1, .int x2)]) (k := 1) hx hb ((by decide) : Int32.toInt 1 = (1 : Int)) (by decide) dJ6_stringSize_0f7a4_36 hl rfl (by decide) (fun _ => rfl) (fun x7 ls t8 hl => ?_)
      have hl : lv_has ls 4 [(3, .int x7), (2, .int (-100)), (0, .int x1), (1, .int x2)] := hl
      have e9 : (2 : Int32).toInt = 2 := by decide
      have h9 : x7 = 2 := Int32.toInt_inj.mp (by rw [e9]; omega)
      subst h9
      have hl : lv_has ls 4 [(3, .int 2), (2, .int (-100)), (0, .int x1), (1, .int x2)] := hl
      refine lv_goto (tgt := 16) hx hb dJ6_stringSize_0f7a4_39 (by decide) ?_
      refine lv_iload_n hx hb dJ6_stringSize_0f7a4_16 rfl (lv_at hl 0 rfl) ?_
      refine lv_bipush (v := 10) hx hb dJ6_stringSize_0f7a4_17 (by decide) ?_
      refine xi_cge (tgt := 42) hx hb ((by decide) : Int32.toInt 2 = (2 : Int)) ((by decide) : Int32.toInt 10 = (10 : Int)) dJ6_stringSize_0f7a4_19 (by decide) (fun c => absurd c (show ¬ ((10 : Int) ≤ (2 : Int)) by decide)) (fun _ => ?_)
      refine lv_iload_n hx hb dJ6_stringSize_0f7a4_22 rfl (lv_at hl 2 rfl) ?_
      refine lv_iload_n hx hb dJ6_stringSize_0f7a4_23 rfl (lv_at hl 1 rfl) ?_
      refine xi_cle (tgt := 31) hx hb (rfl : Int32.toInt x1 = x1.toInt) ((by decide) : Int32.toInt (-100) = (-100 : Int)) dJ6_stringSize_0f7a4_24 (by decide) (fun c9 => ?_) (fun c9 => ?_)
      · refine lv_bipush (v := 10) hx hb dJ6_stringSize_0f7a4_31 (by decide) ?_
        refine lv_iload_n hx hb dJ6_stringSize_0f7a4_33 rfl (lv_at hl 1 rfl) ?_
        refine xi_imul hx hb ((by decide) : Int32.toInt 10 = (10 : Int)) ((by decide) : Int32.toInt (-100) = (-100 : Int)) dJ6_stringSize_0f7a4_34 (fun x10 t11 => ?_)
        have e9 : ((-1000) : Int32).toInt = (-1000) := by decide
        have h9 : x10 = (-1000) := Int32.toInt_inj.mp (by rw [e9]; omega)
        subst h9
        refine lv_istore_n (lv' := [(2, .int (-1000)), (3, .int 2), (0, .int x1), (1, .int x2)]) hx hb dJ6_stringSize_0f7a4_35 rfl hl (by decide) rfl (fun ls hl => ?_)
        refine xi_iinc (n := 1) (lv' := fun z9 => [(3, .int z9), (2, .int (-1000)), (0, .int x1), (1, .int x2)]) (k := 1) hx hb ((by decide) : Int32.toInt 2 = (2 : Int)) (by decide) dJ6_stringSize_0f7a4_36 hl rfl (by decide) (fun _ => rfl) (fun x12 ls t13 hl => ?_)
        have hl : lv_has ls 4 [(3, .int x12), (2, .int (-1000)), (0, .int x1), (1, .int x2)] := hl
        have e9 : (3 : Int32).toInt = 3 := by decide
        have h9 : x12 = 3 := Int32.toInt_inj.mp (by rw [e9]; omega)
        subst h9
        have hl : lv_has ls 4 [(3, .int 3), (2, .int (-1000)), (0, .int x1), (1, .int x2)] := hl
        refine lv_goto (tgt := 16) hx hb dJ6_stringSize_0f7a4_39 (by decide) ?_
        refine lv_iload_n hx hb dJ6_stringSize_0f7a4_16 rfl (lv_at hl 0 rfl) ?_
        refine lv_bipush (v := 10) hx hb dJ6_stringSize_0f7a4_17 (by decide) ?_
        refine xi_cge (tgt := 42) hx hb ((by decide) : Int32.toInt 3 = (3 : Int)) ((by decide) : Int32.toInt 10 = (10 : Int)) dJ6_stringSize_0f7a4_19 (by decide) (fun c => absurd c (show ¬ ((10 : Int) ≤ (3 : Int)) by decide)) (fun _ => ?_)
        refine lv_iload_n hx hb dJ6_stringSize_0f7a4_22 rfl (lv_at hl 2 rfl) ?_
        refine lv_iload_n hx hb dJ6_stringSize_0f7a4_23 rfl (lv_at hl 1 rfl) ?_
        refine xi_cle (tgt := 31) hx hb (rfl : Int32.toInt x1 = x1.toInt) ((by decide) : Int32.toInt (-1000) = (-1000 : Int)) dJ6_stringSize_0f7a4_24 (by decide) (fun c14 => ?_) (fun c14 => ?_)
        · refine lv_bipush (v := 10) hx hb dJ6_stringSize_0f7a4_31 (by decide) ?_
          refine lv_iload_n hx hb dJ6_stringSize_0f7a4_33 rfl (lv_at hl 1 rfl) ?_
          refine xi_imul hx hb ((by decide) : Int32.toInt 10 = (10 : Int)) ((by decide) : Int32.toInt (-1000) = (-1000 : Int)) dJ6_stringSize_0f7a4_34 (fun x15 t16 => ?_)
          have e9 : ((-10000) : Int32).toInt = (-10000) := by decide
          have h9 : x15 = (-10000) := Int32.toInt_inj.mp (by rw [e9]; omega)
          subst h9
          refine lv_istore_n (lv' := [(2, .int (-10000)), (3, .int 3), (0, .int x1), (1, .int x2)]) hx hb dJ6_stringSize_0f7a4_35 rfl hl (by decide) rfl (fun ls hl => ?_)
          refine xi_iinc (n := 1) (lv' := fun z9 => [(3, .int z9), (2, .int (-10000)), (0, .int x1), (1, .int x2)]) (k := 1) hx hb ((by decide) : Int32.toInt 3 = (3 : Int)) (by decide) dJ6_stringSize_0f7a4_36 hl rfl (by decide) (fun _ => rfl) (fun x17 ls t18 hl => ?_)
          have hl : lv_has ls 4 [(3, .int x17), (2, .int (-10000)), (0, .int x1), (1, .int x2)] := hl
          have e9 : (4 : Int32).toInt = 4 := by decide
          have h9 : x17 = 4 := Int32.toInt_inj.mp (by rw [e9]; omega)
          subst h9
          have hl : lv_has ls 4 [(3, .int 4), (2, .int (-10000)), (0, .int x1), (1, .int x2)] := hl
          refine lv_goto (tgt := 16) hx hb dJ6_stringSize_0f7a4_39 (by decide) ?_
          refine lv_iload_n hx hb dJ6_stringSize_0f7a4_16 rfl (lv_at hl 0 rfl) ?_
          refine lv_bipush (v := 10) hx hb dJ6_stringSize_0f7a4_17 (by decide) ?_
          refine xi_cge (tgt := 42) hx hb ((by decide) : Int32.toInt 4 = (4 : Int)) ((by decide) : Int32.toInt 10 = (10 : Int)) dJ6_stringSize_0f7a4_19 (by decide) (fun c => absurd c (show ¬ ((10 : Int) ≤ (4 : Int)) by decide)) (fun _ => ?_)
          refine lv_iload_n hx hb dJ6_stringSize_0f7a4_22 rfl (lv_at hl 2 rfl) ?_
          refine lv_iload_n hx hb dJ6_stringSize_0f7a4_23 rfl (lv_at hl 1 rfl) ?_
          refine xi_cle (tgt := 31) hx hb (rfl : Int32.toInt x1 = x1.toInt) ((by decide) : Int32.toInt (-10000) = (-10000 : Int)) dJ6_stringSize_0f7a4_24 (by decide) (fun c19 => ?_) (fun c19 => ?_)
          · refine lv_bipush (v := 10) hx hb dJ6_stringSize_0f7a4_31 (by decide) ?_
            refine lv_iload_n hx hb dJ6_stringSize_0f7a4_33 rfl (lv_at hl 1 rfl) ?_
            refine xi_imul hx hb ((by decide) : Int32.toInt 10 = (10 : Int)) ((by decide) : Int32.toInt (-10000) = (-10000 : Int)) dJ6_stringSize_0f7a4_34 (fun x20 t21 => ?_)
            have e9 : ((-100000) : Int32).toInt = (-100000) := by decide
            have h9 : x20 = (-100000) := Int32.toInt_inj.mp (by rw [e9]; omega)
            subst h9
            refine lv_istore_n (lv' := [(2, .int (-100000)), (3, .int 4), (0, .int x1), (1, .int x2)]) hx hb dJ6_stringSize_0f7a4_35 rfl hl (by decide) rfl (fun ls hl => ?_)
            refine xi_iinc (n := 1) (lv' := fun z9 => [(3, .int z9), (2, .int (-100000)), (0, .int x1), (1, .int x2)]) (k := 1) hx hb ((by decide) : Int32.toInt 4 = (4 : Int)) (by decide) dJ6_stringSize_0f7a4_36 hl rfl (by decide) (fun _ => rfl) (fun x22 ls t23 hl => ?_)
            have hl : lv_has ls 4 [(3, .int x22), (2, .int (-100000)), (0, .int x1), (1, .int x2)] := hl
            have e9 : (5 : Int32).toInt = 5 := by decide
            have h9 : x22 = 5 := Int32.toInt_inj.mp (by rw [e9]; omega)
            subst h9
            have hl : lv_has ls 4 [(3, .int 5), (2, .int (-100000)), (0, .int x1), (1, .int x2)] := hl
            refine lv_goto (tgt := 16) hx hb dJ6_stringSize_0f7a4_39 (by decide) ?_
            refine lv_iload_n hx hb dJ6_stringSize_0f7a4_16 rfl (lv_at hl 0 rfl) ?_
            refine lv_bipush (v := 10) hx hb dJ6_stringSize_0f7a4_17 (by decide) ?_
            refine xi_cge (tgt := 42) hx hb ((by decide) : Int32.toInt 5 = (5 : Int)) ((by decide) : Int32.toInt 10 = (10 : Int)) dJ6_stringSize_0f7a4_19 (by decide) (fun c => absurd c (show ¬ ((10 : Int) ≤ (5 : Int)) by decide)) (fun _ => ?_)
            refine lv_iload_n hx hb dJ6_stringSize_0f7a4_22 rfl (lv_at hl 2 rfl) ?_
            refine lv_iload_n hx hb dJ6_stringSize_0f7a4_23 rfl (lv_at hl 1 rfl) ?_
            refine xi_cle (tgt := 31) hx hb (rfl : Int32.toInt x1 = x1.toInt) ((by decide) : Int32.toInt (-100000) = (-100000 : Int)) dJ6_stringSize_0f7a4_24 (by decide) (fun c24 => ?_) (fun c24 => ?_)
            · refine lv_bipush (v := 10) hx hb dJ6_stringSize_0f7a4_31 (by decide) ?_
              refine lv_iload_n hx hb dJ6_stringSize_0f7a4_33 rfl (lv_at hl 1 rfl) ?_
              refine xi_imul hx hb ((by decide) : Int32.toInt 10 = (10 : Int)) ((by decide) : Int32.toInt (-100000) = (-100000 : Int)) dJ6_stringSize_0f7a4_34 (fun x25 t26 => ?_)
              have e9 : ((-1000000) : Int32).toInt = (-1000000) := by decide
              have h9 : x25 = (-1000000) := Int32.toInt_inj.mp (by rw [e9]; omega)
              subst h9
              refine lv_istore_n (lv' := [(2, .int (-1000000)), (3, .int 5), (0, .int x1), (1, .int x2)]) hx hb dJ6_stringSize_0f7a4_35 rfl hl (by decide) rfl (fun ls hl => ?_)
              refine xi_iinc (n := 1) (lv' := fun z9 => [(3, .int z9), (2, .int (-1000000)), (0, .int x1), (1, .int x2)]) (k := 1) hx hb ((by decide) : Int32.toInt 5 = (5 : Int)) (by decide) dJ6_stringSize_0f7a4_36 hl rfl (by decide) (fun _ => rfl) (fun x27 ls t28 hl => ?_)
              have hl : lv_has ls 4 [(3, .int x27), (2, .int (-1000000)), (0, .int x1), (1, .int x2)] := hl
              have e9 : (6 : Int32).toInt = 6 := by decide
              have h9 : x27 = 6 := Int32.toInt_inj.mp (by rw [e9]; omega)
              subst h9
              have hl : lv_has ls 4 [(3, .int 6), (2, .int (-1000000)), (0, .int x1), (1, .int x2)] := hl
              refine lv_goto (tgt := 16) hx hb dJ6_stringSize_0f7a4_39 (by decide) ?_
              refine lv_iload_n hx hb dJ6_stringSize_0f7a4_16 rfl (lv_at hl 0 rfl) ?_
              refine lv_bipush (v := 10) hx hb dJ6_stringSize_0f7a4_17 (by decide) ?_
              refine xi_cge (tgt := 42) hx hb ((by decide) : Int32.toInt 6 = (6 : Int)) ((by decide) : Int32.toInt 10 = (10 : Int)) dJ6_stringSize_0f7a4_19 (by decide) (fun c => absurd c (show ¬ ((10 : Int) ≤ (6 : Int)) by decide)) (fun _ => ?_)
              refine lv_iload_n hx hb dJ6_stringSize_0f7a4_22 rfl (lv_at hl 2 rfl) ?_
              refine lv_iload_n hx hb dJ6_stringSize_0f7a4_23 rfl (lv_at hl 1 rfl) ?_
              refine xi_cle (tgt := 31) hx hb (rfl : Int32.toInt x1 = x1.toInt) ((by decide) : Int32.toInt (-1000000) = (-1000000 : Int)) dJ6_stringSize_0f7a4_24 (by decide) (fun c29 => ?_) (fun c29 => ?_)
              · refine lv_bipush (v := 10) hx hb dJ6_stringSize_0f7a4_31 (by decide) ?_
                refine lv_iload_n hx hb dJ6_stringSize_0f7a4_33 rfl (lv_at hl 1 rfl) ?_
                refine xi_imul hx hb ((by decide) : Int32.toInt 10 = (10 : Int)) ((by decide) : Int32.toInt (-1000000) = (-1000000 : Int)) dJ6_stringSize_0f7a4_34 (fun x30 t31 => ?_)
                have e9 : ((-10000000) : Int32).toInt = (-10000000) := by decide
                have h9 : x30 = (-10000000) := Int32.toInt_inj.mp (by rw [e9]; omega)
                subst h9
                refine lv_istore_n (lv' := [(2, .int (-10000000)), (3, .int 6), (0, .int x1), (1, .int x2)]) hx hb dJ6_stringSize_0f7a4_35 rfl hl (by decide) rfl (fun ls hl => ?_)
                refine xi_iinc (n := 1) (lv' := fun z9 => [(3, .int z9), (2, .int (-10000000)), (0, .int x1), (1, .int x2)]) (k := 1) hx hb ((by decide) : Int32.toInt 6 = (6 : Int)) (by decide) dJ6_stringSize_0f7a4_36 hl rfl (by decide) (fun _ => rfl) (fun x32 ls t33 hl => ?_)
                have hl : lv_has ls 4 [(3, .int x32), (2, .int (-10000000)), (0, .int x1), (1, .int x2)] := hl
                have e9 : (7 : Int32).toInt = 7 := by decide
                have h9 : x32 = 7 := Int32.toInt_inj.mp (by rw [e9]; omega)
                subst h9
                have hl : lv_has ls 4 [(3, .int 7), (2, .int (-10000000)), (0, .int x1), (1, .int x2)] := hl
                refine lv_goto (tgt := 16) hx hb dJ6_stringSize_0f7a4_39 (by decide) ?_
                refine lv_iload_n hx hb dJ6_stringSize_0f7a4_16 rfl (lv_at hl 0 rfl) ?_
                refine lv_bipush (v := 10) hx hb dJ6_stringSize_0f7a4_17 (by decide) ?_
                refine xi_cge (tgt := 42) hx hb ((by decide) : Int32.toInt 7 = (7 : Int)) ((by decide) : Int32.toInt 10 = (10 : Int)) dJ6_stringSize_0f7a4_19 (by decide) (fun c => absurd c (show ¬ ((10 : Int) ≤ (7 : Int)) by decide)) (fun _ => ?_)
                refine lv_iload_n hx hb dJ6_stringSize_0f7a4_22 rfl (lv_at hl 2 rfl) ?_
                refine lv_iload_n hx hb dJ6_stringSize_0f7a4_23 rfl (lv_at hl 1 rfl) ?_
                refine xi_cle (tgt := 31) hx hb (rfl : Int32.toInt x1 = x1.toInt) ((by decide) : Int32.toInt (-10000000) = (-10000000 : Int)) dJ6_stringSize_0f7a4_24 (by decide) (fun c34 => ?_) (fun c34 => ?_)
                · refine lv_bipush (v := 10) hx hb dJ6_stringSize_0f7a4_31 (by decide) ?_
                  refine lv_iload_n hx hb dJ6_stringSize_0f7a4_33 rfl (lv_at hl 1 rfl) ?_
                  refine xi_imul hx hb ((by decide) : Int32.toInt 10 = (10 : Int)) ((by decide) : Int32.toInt (-10000000) = (-10000000 : Int)) dJ6_stringSize_0f7a4_34 (fun x35 t36 => ?_)
                  have e9 : ((-100000000) : Int32).toInt = (-100000000) := by decide
                  have h9 : x35 = (-100000000) := Int32.toInt_inj.mp (by rw [e9]; omega)
                  subst h9
                  refine lv_istore_n (lv' := [(2, .int (-100000000)), (3, .int 7), (0, .int x1), (1, .int x2)]) hx hb dJ6_stringSize_0f7a4_35 rfl hl (by decide) rfl (fun ls hl => ?_)
                  refine xi_iinc (n := 1) (lv' := fun z9 => [(3, .int z9), (2, .int (-100000000)), (0, .int x1), (1, .int x2)]) (k := 1) hx hb ((by decide) : Int32.toInt 7 = (7 : Int)) (by decide) dJ6_stringSize_0f7a4_36 hl rfl (by decide) (fun _ => rfl) (fun x37 ls t38 hl => ?_)
                  have hl : lv_has ls 4 [(3, .int x37), (2, .int (-100000000)), (0, .int x1), (1, .int x2)] := hl
                  have e9 : (8 : Int32).toInt = 8 := by decide
                  have h9 : x37 = 8 := Int32.toInt_inj.mp (by rw [e9]; omega)
                  subst h9
                  have hl : lv_has ls 4 [(3, .int 8), (2, .int (-100000000)), (0, .int x1), (1, .int x2)] := hl
                  refine lv_goto (tgt := 16) hx hb dJ6_stringSize_0f7a4_39 (by decide) ?_
                  refine lv_iload_n hx hb dJ6_stringSize_0f7a4_16 rfl (lv_at hl 0 rfl) ?_
                  refine lv_bipush (v := 10) hx hb dJ6_stringSize_0f7a4_17 (by decide) ?_
                  refine xi_cge (tgt := 42) hx hb ((by decide) : Int32.toInt 8 = (8 : Int)) ((by decide) : Int32.toInt 10 = (10 : Int)) dJ6_stringSize_0f7a4_19 (by decide) (fun c => absurd c (show ¬ ((10 : Int) ≤ (8 : Int)) by decide)) (fun _ => ?_)
                  refine lv_iload_n hx hb dJ6_stringSize_0f7a4_22 rfl (lv_at hl 2 rfl) ?_
                  refine lv_iload_n hx hb dJ6_stringSize_0f7a4_23 rfl (lv_at hl 1 rfl) ?_
                  refine xi_cle (tgt := 31) hx hb (rfl : Int32.toInt x1 = x1.toInt) ((by decide) : Int32.toInt (-100000000) = (-100000000 : Int)) dJ6_stringSize_0f7a4_24 (by decide) (fun c39 => ?_) (fun c39 => ?_)
                  · refine lv_bipush (v := 10) hx hb dJ6_stringSize_0f7a4_31 (by decide) ?_
                    refine lv_iload_n hx hb dJ6_stringSize_0f7a4_33 rfl (lv_at hl 1 rfl) ?_
                    refine xi_imul hx hb ((by decide) : Int32.toInt 10 = (10 : Int)) ((by decide) : Int32.toInt (-100000000) = (-100000000 : Int)) dJ6_stringSize_0f7a4_34 (fun x40 t41 => ?_)
                    have e9 : ((-1000000000) : Int32).toInt = (-1000000000) := by decide
                    have h9 : x40 = (-1000000000) := Int32.toInt_inj.mp (by rw [e9]; omega)
                    subst h9
                    refine lv_istore_n (lv' := [(2, .int (-1000000000)), (3, .int 8), (0, .int x1), (1, .int x2)]) hx hb dJ6_stringSize_0f7a4_35 rfl hl (by decide) rfl (fun ls hl => ?_)
                    refine xi_iinc (n := 1) (lv' := fun z9 => [(3, .int z9), (2, .int (-1000000000)), (0, .int x1), (1, .int x2)]) (k := 1) hx hb ((by decide) : Int32.toInt 8 = (8 : Int)) (by decide) dJ6_stringSize_0f7a4_36 hl rfl (by decide) (fun _ => rfl) (fun x42 ls t43 hl => ?_)
                    have hl : lv_has ls 4 [(3, .int x42), (2, .int (-1000000000)), (0, .int x1), (1, .int x2)] := hl
                    have e9 : (9 : Int32).toInt = 9 := by decide
                    have h9 : x42 = 9 := Int32.toInt_inj.mp (by rw [e9]; omega)
                    subst h9
                    have hl : lv_has ls 4 [(3, .int 9), (2, .int (-1000000000)), (0, .int x1), (1, .int x2)] := hl
                    refine lv_goto (tgt := 16) hx hb dJ6_stringSize_0f7a4_39 (by decide) ?_
                    refine lv_iload_n hx hb dJ6_stringSize_0f7a4_16 rfl (lv_at hl 0 rfl) ?_
                    refine lv_bipush (v := 10) hx hb dJ6_stringSize_0f7a4_17 (by decide) ?_
                    refine xi_cge (tgt := 42) hx hb ((by decide) : Int32.toInt 9 = (9 : Int)) ((by decide) : Int32.toInt 10 = (10 : Int)) dJ6_stringSize_0f7a4_19 (by decide) (fun c => absurd c (show ¬ ((10 : Int) ≤ (9 : Int)) by decide)) (fun _ => ?_)
                    refine lv_iload_n hx hb dJ6_stringSize_0f7a4_22 rfl (lv_at hl 2 rfl) ?_
                    refine lv_iload_n hx hb dJ6_stringSize_0f7a4_23 rfl (lv_at hl 1 rfl) ?_
                    refine xi_cle (tgt := 31) hx hb (rfl : Int32.toInt x1 = x1.toInt) ((by decide) : Int32.toInt (-1000000000) = (-1000000000 : Int)) dJ6_stringSize_0f7a4_24 (by decide) (fun c44 => ?_) (fun c44 => ?_)
                    · refine lv_bipush (v := 10) hx hb dJ6_stringSize_0f7a4_31 (by decide) ?_
                      refine lv_iload_n hx hb dJ6_stringSize_0f7a4_33 rfl (lv_at hl 1 rfl) ?_
                      refine xi_imul hx hb ((by decide) : Int32.toInt 10 = (10 : Int)) ((by decide) : Int32.toInt (-1000000000) = (-1000000000 : Int)) dJ6_stringSize_0f7a4_34 (fun x45 t46 => ?_)
                      refine lv_istore_n (lv' := [(2, .int x45), (3, .int 9), (0, .int x1), (1, .int x2)]) hx hb dJ6_stringSize_0f7a4_35 rfl hl (by decide) rfl (fun ls hl => ?_)
                      refine xi_iinc (n := 1) (lv' := fun z9 => [(3, .int z9), (2, .int x45), (0, .int x1), (1, .int x2)]) (k := 1) hx hb ((by decide) : Int32.toInt 9 = (9 : Int)) (by decide) dJ6_stringSize_0f7a4_36 hl rfl (by decide) (fun _ => rfl) (fun x47 ls t48 hl => ?_)
                      have hl : lv_has ls 4 [(3, .int x47), (2, .int x45), (0, .int x1), (1, .int x2)] := hl
                      have e9 : (10 : Int32).toInt = 10 := by decide
                      have h9 : x47 = 10 := Int32.toInt_inj.mp (by rw [e9]; omega)
                      subst h9
                      have hl : lv_has ls 4 [(3, .int 10), (2, .int x45), (0, .int x1), (1, .int x2)] := hl
                      refine lv_goto (tgt := 16) hx hb dJ6_stringSize_0f7a4_39 (by decide) ?_
                      refine lv_iload_n hx hb dJ6_stringSize_0f7a4_16 rfl (lv_at hl 0 rfl) ?_
                      refine lv_bipush (v := 10) hx hb dJ6_stringSize_0f7a4_17 (by decide) ?_
                      refine xi_cge (tgt := 42) hx hb ((by decide) : Int32.toInt 10 = (10 : Int)) ((by decide) : Int32.toInt 10 = (10 : Int)) dJ6_stringSize_0f7a4_19 (by decide) (fun _ => ?_) (fun c => absurd (show (10 : Int) ≤ (10 : Int) by decide) c)
                      refine lv_bipush (v := 10) hx hb dJ6_stringSize_0f7a4_42 (by decide) ?_
                      refine lv_iload_n hx hb dJ6_stringSize_0f7a4_44 rfl (lv_at hl 3 rfl) ?_
                      refine xi_iadd hx hb ((by decide) : Int32.toInt 10 = (10 : Int)) (rfl : Int32.toInt x2 = x2.toInt) dJ6_stringSize_0f7a4_45 (fun x49 t50 => ?_)
                      exact x_ri hx hb hr hlk hQ (Nat.le_of_ble_eq_true rfl) (Nat.le_of_ble_eq_true rfl) hS dJ6_stringSize_0f7a4_46 () ⟨_, rfl, (z_J6_stringSize_0f7a4_1 p0.toInt x1.toInt x2.toInt x49.toInt hf3 t50)⟩ hh
                    · refine lv_iload_n hx hb dJ6_stringSize_0f7a4_27 rfl (lv_at hl 0 rfl) ?_
                      refine lv_iload_n hx hb dJ6_stringSize_0f7a4_28 rfl (lv_at hl 3 rfl) ?_
                      refine xi_iadd hx hb ((by decide) : Int32.toInt 9 = (9 : Int)) (rfl : Int32.toInt x2 = x2.toInt) dJ6_stringSize_0f7a4_29 (fun x51 t52 => ?_)
                      exact x_ri hx hb hr hlk hQ (Nat.le_of_ble_eq_true rfl) (Nat.le_of_ble_eq_true rfl) hS dJ6_stringSize_0f7a4_30 () ⟨_, rfl, (z_J6_stringSize_0f7a4_2 p0.toInt x1.toInt x2.toInt x51.toInt hf3 c44 t52)⟩ hh
                  · refine lv_iload_n hx hb dJ6_stringSize_0f7a4_27 rfl (lv_at hl 0 rfl) ?_
                    refine lv_iload_n hx hb dJ6_stringSize_0f7a4_28 rfl (lv_at hl 3 rfl) ?_
                    refine xi_iadd hx hb ((by decide) : Int32.toInt 8 = (8 : Int)) (rfl : Int32.toInt x2 = x2.toInt) dJ6_stringSize_0f7a4_29 (fun x53 t54 => ?_)
                    exact x_ri hx hb hr hlk hQ (Nat.le_of_ble_eq_true rfl) (Nat.le_of_ble_eq_true rfl) hS dJ6_stringSize_0f7a4_30 () ⟨_, rfl, (z_J6_stringSize_0f7a4_3 p0.toInt x1.toInt x2.toInt x53.toInt hf3 c39 t54)⟩ hh
                · refine lv_iload_n hx hb dJ6_stringSize_0f7a4_27 rfl (lv_at hl 0 rfl) ?_
                  refine lv_iload_n hx hb dJ6_stringSize_0f7a4_28 rfl (lv_at hl 3 rfl) ?_
                  refine xi_iadd hx hb ((by decide) : Int32.toInt 7 = (7 : Int)) (rfl : Int32.toInt x2 = x2.toInt) dJ6_stringSize_0f7a4_29 (fun x55 t56 => ?_)
                  exact x_ri hx hb hr hlk hQ (Nat.le_of_ble_eq_true rfl) (Nat.le_of_ble_eq_true rfl) hS dJ6_stringSize_0f7a4_30 () ⟨_, rfl, (z_J6_stringSize_0f7a4_4 p0.toInt x1.toInt x2.toInt x55.toInt hf3 c34 t56)⟩ hh
              · refine lv_iload_n hx hb dJ6_stringSize_0f7a4_27 rfl (lv_at hl 0 rfl) ?_
                refine lv_iload_n hx hb dJ6_stringSize_0f7a4_28 rfl (lv_at hl 3 rfl) ?_
                refine xi_iadd hx hb ((by decide) : Int32.toInt 6 = (6 : Int)) (rfl : Int32.toInt x2 = x2.toInt) dJ6_stringSize_0f7a4_29 (fun x57 t58 => ?_)
                exact x_ri hx hb hr hlk hQ (Nat.le_of_ble_eq_true rfl) (Nat.le_of_ble_eq_true rfl) hS dJ6_stringSize_0f7a4_30 () ⟨_, rfl, (z_J6_stringSize_0f7a4_5 p0.toInt x1.toInt x2.toInt x57.toInt hf3 c29 t58)⟩ hh
            · refine lv_iload_n hx hb dJ6_stringSize_0f7a4_27 rfl (lv_at hl 0 rfl) ?_
              refine lv_iload_n hx hb dJ6_stringSize_0f7a4_28 rfl (lv_at hl 3 rfl) ?_
              refine xi_iadd hx hb ((by decide) : Int32.toInt 5 = (5 : Int)) (rfl : Int32.toInt x2 = x2.toInt) dJ6_stringSize_0f7a4_29 (fun x59 t60 => ?_)
              exact x_ri hx hb hr hlk hQ (Nat.le_of_ble_eq_true rfl) (Nat.le_of_ble_eq_true rfl) hS dJ6_stringSize_0f7a4_30 () ⟨_, rfl, (z_J6_stringSize_0f7a4_6 p0.toInt x1.toInt x2.toInt x59.toInt hf3 c24 t60)⟩ hh
          · refine lv_iload_n hx hb dJ6_stringSize_0f7a4_27 rfl (lv_at hl 0 rfl) ?_
            refine lv_iload_n hx hb dJ6_stringSize_0f7a4_28 rfl (lv_at hl 3 rfl) ?_
            refine xi_iadd hx hb ((by decide) : Int32.toInt 4 = (4 : Int)) (rfl : Int32.toInt x2 = x2.toInt) dJ6_stringSize_0f7a4_29 (fun x61 t62 => ?_)
            exact x_ri hx hb hr hlk hQ (Nat.le_of_ble_eq_true rfl) (Nat.le_of_ble_eq_true rfl) hS dJ6_stringSize_0f7a4_30 () ⟨_, rfl, (z_J6_stringSize_0f7a4_7 p0.toInt x1.toInt x2.toInt x61.toInt hf3 c19 t62)⟩ hh
        · refine lv_iload_n hx hb dJ6_stringSize_0f7a4_27 rfl (lv_at hl 0 rfl) ?_
          refine lv_iload_n hx hb dJ6_stringSize_0f7a4_28 rfl (lv_at hl 3 rfl) ?_
          refine xi_iadd hx hb ((by decide) : Int32.toInt 3 = (3 : Int)) (rfl : Int32.toInt x2 = x2.toInt) dJ6_stringSize_0f7a4_29 (fun x63 t64 => ?_)
          exact x_ri hx hb hr hlk hQ (Nat.le_of_ble_eq_true rfl) (Nat.le_of_ble_eq_true rfl) hS dJ6_stringSize_0f7a4_30 () ⟨_, rfl, (z_J6_stringSize_0f7a4_8 p0.toInt x1.toInt x2.toInt x63.toInt hf3 c14 t64)⟩ hh
      · refine lv_iload_n hx hb dJ6_stringSize_0f7a4_27 rfl (lv_at hl 0 rfl) ?_
        refine lv_iload_n hx hb dJ6_stringSize_0f7a4_28 rfl (lv_at hl 3 rfl) ?_
        refine xi_iadd hx hb ((by decide) : Int32.toInt 2 = (2 : Int)) (rfl : Int32.toInt x2 = x2.toInt) dJ6_stringSize_0f7a4_29 (fun x65 t66 => ?_)
        exact x_ri hx hb hr hlk hQ (Nat.le_of_ble_eq_true rfl) (Nat.le_of_ble_eq_true rfl) hS dJ6_stringSize_0f7a4_30 () ⟨_, rfl, (z_J6_stringSize_0f7a4_9 p0.toInt x1.toInt x2.toInt x65.toInt hf3 c9 t66)⟩ hh
    · refine lv_iload_n hx hb dJ6_stringSize_0f7a4_27 rfl (lv_at hl 0 rfl) ?_
      refine lv_iload_n hx hb dJ6_stringSize_0f7a4_28 rfl (lv_at hl 3 rfl) ?_
      refine xi_iadd hx hb ((by decide) : Int32.toInt 1 = (1 : Int)) (rfl : Int32.toInt x2 = x2.toInt) dJ6_stringSize_0f7a4_29 (fun x67 t68 => ?_)
      exact x_ri hx hb hr hlk hQ (Nat.le_of_ble_eq_true rfl) (Nat.le_of_ble_eq_true rfl) hS dJ6_stringSize_0f7a4_30 () ⟨_, rfl, (z_J6_stringSize_0f7a4_10 p0.toInt x1.toInt x2.toInt x67.toInt hf3 c4 t68)⟩ hh
  refine xi_zlt (tgt := 11) hx hb (rfl : Int32.toInt p0 = p0.toInt) dJ6_stringSize_0f7a4_3 (by decide) (fun c69 => ?_) (fun c69 => ?_)
  · exact J11 p0 1 _ _ (z_J6_stringSize_0f7a4_11 p0.toInt c69) hT hS (lv_sub hl [1, 0] rfl)
  · refine lv_iconst (v := 0) hx hb dJ6_stringSize_0f7a4_6 (by decide) ?_
    refine lv_istore_n (lv' := [(1, .int 0), (0, .int p0)]) hx hb dJ6_stringSize_0f7a4_7 rfl hl (by decide) rfl (fun ls hl => ?_)
    refine lv_iload_n hx hb dJ6_stringSize_0f7a4_8 rfl (lv_at hl 1 rfl) ?_
    refine xi_ineg hx hb (rfl : Int32.toInt p0 = p0.toInt) dJ6_stringSize_0f7a4_9 (fun x70 t71 => ?_)
    refine lv_istore_n (lv' := [(0, .int x70), (1, .int 0)]) hx hb dJ6_stringSize_0f7a4_10 rfl hl (by decide) rfl (fun ls hl => ?_)
    exact J11 x70 0 _ _ (z_J6_stringSize_0f7a4_12 p0.toInt x70.toInt c69 t71 (xr p0)) hT hS (lv_sub hl [0, 1] rfl)
def XPb (E : XE) (K : Nat → Nat) (F : Nat → Nat → Nat) (G : XG) (v n : Nat) (cnt : Int32) (U : State) : Prop := E.2.2.1 ≤ U.heap.size ∧ XK E U ∧ TWb E K F G v n cnt U.heap
theorem XPb.at {E : XE} {K : Nat → Nat} {F : Nat → Nat → Nat} {G : XG} {v n : Nat} {cnt : Int32} {s U : State} {locs : List Loc} {H : Heap} (hK : XK E s) (hz : E.2.2.1 ≤ s.heap.size) (hS : va_S (xA E) s.heap H locs) (hT : TWb E K F G v n cnt H) (hU : U.heap = H) (hW : s.WarmedH U.vm) : XPb E K F G v n cnt U := ⟨by rw [hU]; exact Nat.le_trans hz hS.1, hK.at hS hU hW, by rw [hU]; exact hT⟩
theorem XPb.blind {E : XE} {K : Nat → Nat} {F : Nat → Nat → Nat} {G : XG} {v n : Nat} {cnt : Int32} {av : List Value} : FrameBlind (va_Pc av (XPb E K F G v n cnt)) := fun a U g mk h => ⟨h.1, h.2.1, h.2.2.1.same (u := U) rfl rfl, h.2.2.2⟩
def XPbh (E : XE) (K : Nat → Nat) (F : Nat → Nat → Nat) (G : XG) (v n : Nat) (cnt : Int32) (h0 : Heap) (U : State) : Prop := XPb E K F G v n cnt U ∧ U.heap = h0
theorem XPbh.blind {E : XE} {K : Nat → Nat} {F : Nat → Nat → Nat} {G : XG} {v n : Nat} {cnt : Int32} {h0 : Heap} {av : List Value} : FrameBlind (va_Pc av (XPbh E K F G v n cnt h0)) := fun a U g mk h => ⟨h.1, ⟨h.2.1.1, h.2.1.2.1.same (u := U) rfl rfl, h.2.1.2.2⟩, h.2.2⟩
theorem XPbh.at {E : XE} {K : Nat → Nat} {F : Nat → Nat → Nat} {G : XG} {v n : Nat} {cnt : Int32} {s U : State} {locs : List Loc} {H : Heap} (hK : XK E s) (hz : E.2.2.1 ≤ s.heap.size) (hS : va_S (xA E) s.heap H locs) (hT : TWb E K F G v n cnt H) (hU : U.heap = H) (hW : s.WarmedH U.vm) : XPbh E K F G v n cnt H U := ⟨XPb.at hK hz hS hT hU hW, hU⟩

theorem z_J5_length_8abf5_1 (a0 : Int) : a0 = a0 := by omega
abbrev rm_J5_length_8abf5 : Room := { frames := 0, cells := 0, slots := 0, locals := 0 }
set_option maxHeartbeats 4000000 in
set_option maxRecDepth 100000 in
theorem c_J5_length_8abf5 (l : Launch) (E : XE) (K : Nat → Nat) (F : Nat → Nat → Nat) (G : XG) (v n : Nat) (cnt : Int32) (h0 : Heap)   : Met l yJ5_length_8abf5 (xw yJ5_length_8abf5 cJ5_length_8abf5 1 (some .int)) rm_J5_length_8abf5 (va_Pc [.ref E.2.2.2.1] (XPbh E K F G v n cnt h0)) (XQ E (fun v (u : Unit) => ∃ r : Int32, v = .int r ∧ (r.toInt = cnt.toInt)) (fun _ H => H = h0)) 0 0 (xA E) := by
  refine x_enter (by decide) (Nat.le_of_ble_eq_true rfl) ?_
  intro p e s m args below meth c Q S hr hlk hnm hQ hP ls hl
  obtain ⟨⟨hz, hK, hT⟩, hh⟩ := hP
  obtain ⟨hx, hb, -, -, -⟩ := id S
  have hS : va_S (xA E) s.heap s.heap [] := va_S.rf
  have hl : lv_has ls 1 [(0, .ref E.2.2.2.1)] := hl
  have e9 := hT.inv
  refine lv_aload_n hx hb dJ5_length_8abf5_0 rfl (lv_at hl 0 rfl) ?_
  refine sbg_count S hK hT kf_J5_79 dJ5_length_8abf5_1 ?_
  exact x_ri hx hb hr hlk hQ (Nat.le_of_ble_eq_true rfl) (Nat.le_of_ble_eq_true rfl) hS dJ5_length_8abf5_4 () ⟨_, rfl, (z_J5_length_8abf5_1 cnt.toInt)⟩ hh

theorem z_J5_newCapacity_0f7a4_1 (a0 : Int) (a1 : Int) (a2 : Nat) (h0 : ((a2 : Nat) : Int) < a0 ∧ a0 ≤ 48) (h1 : a1 = ((a2 : Nat) : Int)) : 0 ≤ a1 ∧ a1 ≤ 100 := by omega
theorem z_J5_newCapacity_0f7a4_2 (a0 : Int) (a1 : Int) (a2 : Int) (a3 : Nat) (h0 : ((a3 : Nat) : Int) < a0 ∧ a0 ≤ 48) (h1 : a1 = ((a3 : Nat) : Int)) (h2 : a2 = a0 - a1 ∨ a0 - a1 < -2147483648 ∨ 2147483648 ≤ a0 - a1) : 0 ≤ a2 ∧ a2 ≤ 100 := by omega
theorem z_J5_newCapacity_0f7a4_3 (a0 : Int) (a1 : Int) (a2 : Int) (a3 : Nat) (h0 : ((a3 : Nat) : Int) < a0 ∧ a0 ≤ 48) (h1 : a1 = ((a3 : Nat) : Int)) (h2 : a2 = a1 + (2 : Int) ∨ a1 + (2 : Int) < -2147483648 ∨ 2147483648 ≤ a1 + (2 : Int)) : 1 ≤ a2 ∧ a2 ≤ 200 := by omega
theorem z_J5_newCapacity_0f7a4_4 (a0 : Int) (a1 : Int) (a2 : Int) (a3 : Int) (a4 : Int) (a5 : Nat) (h0 : ((a5 : Nat) : Int) < a0 ∧ a0 ≤ 48) (h1 : a1 = ((a5 : Nat) : Int)) (h2 : a2 = a0 - a1 ∨ a0 - a1 < -2147483648 ∨ 2147483648 ≤ a0 - a1) (h3 : a3 = a1 + (2 : Int) ∨ a1 + (2 : Int) < -2147483648 ∨ 2147483648 ≤ a1 + (2 : Int)) (h4 : (a3 ≤ a2 ∧ a4 = a1 + a2) ∨ (a2 < a3 ∧ a4 = a1 + a3)) : a0 ≤ a4 ∧ a4 ≤ 100 := by omega
theorem z_J5_newCapacity_0f7a4_5 (a0 : Int) (a1 : Int) (a2 : Int) (a3 : Int) (a4 : Int) (a5 : Nat) (h0 : ((a5 : Nat) : Int) < a0 ∧ a0 ≤ 48) (h1 : a1 = ((a5 : Nat) : Int)) (h2 : a2 = a0 - a1 ∨ a0 - a1 < -2147483648 ∨ 2147483648 ≤ a0 - a1) (h3 : a3 = a1 + (2 : Int) ∨ a1 + (2 : Int) < -2147483648 ∨ 2147483648 ≤ a1 + (2 : Int)) (h4 : (a3 ≤ a2 ∧ a4 = a1 + a2) ∨ (a2 < a3 ∧ a4 = a1 + a3)) (h5 : ¬ (a4 ≠ (2147483647 : Int))) : (0 : Int) = 1 ∧ a4 = a4 := by omega
abbrev rm_J5_newCapacity_0f7a4 : Room := { frames := 2, cells := 0, slots := 0, locals := 44 }
set_option maxHeartbeats 4000000 in
set_option maxRecDepth 100000 in
theorem c_J5_newCapacity_0f7a4 (l : Launch) (E : XE) (K : Nat → Nat) (F : Nat → Nat → Nat) (G : XG) (v n : Nat) (cnt : Int32) (h0 : Heap) (p0 : Int32) (e1 : ((n : Nat) : Int) < p0.toInt ∧ p0.toInt ≤ 48) : Met l yJ5_newCapacity_0f7a4 (xw yJ5_newCapacity_0f7a4 cJ5_newCapacity_0f7a4 6 (some .int)) rm_J5_newCapacity_0f7a4 (va_Pc [.ref E.2.2.2.1, .int p0] (XPbh E K F G v n cnt h0)) (XQ E (fun v (u : Unit) => ∃ r : Int32, v = .int r ∧ (p0.toInt ≤ r.toInt ∧ r.toInt ≤ 100)) (fun _ H => H = h0)) 0 0 (xA E) := by
  refine x_enter (by decide) (Nat.le_of_ble_eq_true rfl) ?_
  intro p e s m args below meth c Q S hr hlk hnm hQ hP ls hl
  obtain ⟨⟨hz, hK, hT⟩, hh⟩ := hP
  obtain ⟨hx, hb, -, -, -⟩ := id S
  have hS : va_S (xA E) s.heap s.heap [] := va_S.rf
  have hl : lv_has ls 6 [(0, .ref E.2.2.2.1), (1, .int p0)] := hl
  have e9 := hT.inv
  refine lv_aload_n hx hb dJ5_newCapacity_0f7a4_0 rfl (lv_at hl 0 rfl) ?_
  refine sbg_value S hK hT kf_J5_15 dJ5_newCapacity_0f7a4_1 ?_
  refine sb_len S hK hT dJ5_newCapacity_0f7a4_4 (fun x1 t2 => ?_)
  refine lv_istore_n (lv' := [(2, .int x1), (0, .ref E.2.2.2.1), (1, .int p0)]) hx hb dJ5_newCapacity_0f7a4_5 rfl hl (by decide) rfl (fun ls hl => ?_)
  refine lv_iload_n hx hb dJ5_newCapacity_0f7a4_6 rfl (lv_at hl 2 rfl) ?_
  refine lv_aload_n hx hb dJ5_newCapacity_0f7a4_7 rfl (lv_at hl 1 rfl) ?_
  refine sbg_coder S hK hT kf_J5_22 dJ5_newCapacity_0f7a4_8 ?_
  refine lv_ishl hx hb dJ5_newCapacity_0f7a4_11 ?_
  rw [sb_shl0]
  refine lv_istore_n (lv' := [(3, .int p0), (2, .int x1), (0, .ref E.2.2.2.1), (1, .int p0)]) hx hb dJ5_newCapacity_0f7a4_12 rfl hl (by decide) rfl (fun ls hl => ?_)
  refine lv_iload_n hx hb dJ5_newCapacity_0f7a4_13 rfl (lv_at hl 0 rfl) ?_
  refine lv_iload_n hx hb dJ5_newCapacity_0f7a4_14 rfl (lv_at hl 1 rfl) ?_
  refine xi_isub hx hb (rfl : Int32.toInt p0 = p0.toInt) (rfl : Int32.toInt x1 = x1.toInt) dJ5_newCapacity_0f7a4_15 (fun x3 t4 => ?_)
  refine lv_istore (lv' := [(4, .int x3), (3, .int p0), (2, .int x1), (0, .ref E.2.2.2.1), (1, .int p0)]) hx hb dJ5_newCapacity_0f7a4_16 hl (by decide) rfl (fun ls hl => ?_)
  refine lv_iload_n hx hb dJ5_newCapacity_0f7a4_18 rfl (lv_at hl 2 rfl) ?_
  refine lv_iload hx hb dJ5_newCapacity_0f7a4_19 (lv_at hl 0 rfl) ?_
  refine lv_iload_n hx hb dJ5_newCapacity_0f7a4_21 rfl (lv_at hl 2 rfl) ?_
  refine lv_iconst (v := 2) hx hb dJ5_newCapacity_0f7a4_22 (by decide) ?_
  refine lv_aload_n hx hb dJ5_newCapacity_0f7a4_23 rfl (lv_at hl 3 rfl) ?_
  refine sbg_coder S hK hT kf_J5_22 dJ5_newCapacity_0f7a4_24 ?_
  refine lv_ishl hx hb dJ5_newCapacity_0f7a4_27 ?_
  rw [sb_shl0]
  refine xi_iadd hx hb (rfl : Int32.toInt x1 = x1.toInt) ((by decide) : Int32.toInt 2 = (2 : Int)) dJ5_newCapacity_0f7a4_28 (fun x5 t6 => ?_)
  refine x_clp (x_runS (As := [.int x1, .int x3, .int x5]) (rest := []) S (c_J8_newLength_cabcc l E K F G s.heap x1 x3 x5 (z_J5_newCapacity_0f7a4_1 p0.toInt x1.toInt n e1 t2) (z_J5_newCapacity_0f7a4_2 p0.toInt x1.toInt x3.toInt n e1 t2 t4) (z_J5_newCapacity_0f7a4_3 p0.toInt x1.toInt x5.toInt n e1 t2 t6)) ms_J8_newLength_cabcc km_J5_114 rfl rfl ⟨Nat.le_of_ble_eq_true rfl, Nat.le_of_ble_eq_true rfl⟩ hK (fun _ => XPh.blind) (fun U hU hW => XPh.at hK hz hS hT.cl hU hW) rfl hl.1 (Nat.le_of_ble_eq_true rfl) dJ5_newCapacity_0f7a4_29 ⟨Nat.le_of_ble_eq_true rfl, Nat.le_of_ble_eq_true rfl⟩) hS ?_
  rintro _ _ locs ⟨x7, rfl, t8⟩ hS
  have t8 : (x5.toInt ≤ x3.toInt ∧ x7.toInt = x1.toInt + x3.toInt) ∨ (x3.toInt < x5.toInt ∧ x7.toInt = x1.toInt + x5.toInt) := t8
  refine lv_istore (lv' := [(5, .int x7), (4, .int x3), (3, .int p0), (2, .int x1), (0, .ref E.2.2.2.1), (1, .int p0)]) hx hb dJ5_newCapacity_0f7a4_32 hl (by decide) rfl (fun ls hl => ?_)
  refine lv_iload hx hb dJ5_newCapacity_0f7a4_34 (lv_at hl 0 rfl) ?_
  refine lv_ldc (v := 2147483647) hx hb S.2.2.2.1 (S.2.2.2.2 _ (List.mem_cons_of_mem _ kc_J5_39)) dJ5_newCapacity_0f7a4_36 ?_
  refine xi_cne (tgt := 51) hx hb (rfl : Int32.toInt x7 = x7.toInt) ((by decide) : Int32.toInt 2147483647 = (2147483647 : Int)) dJ5_newCapacity_0f7a4_38 (by decide) (fun c9 => ?_) (fun c9 => ?_)
  · refine lv_iload hx hb dJ5_newCapacity_0f7a4_51 (lv_at hl 0 rfl) ?_
    refine lv_aload_n hx hb dJ5_newCapacity_0f7a4_53 rfl (lv_at hl 4 rfl) ?_
    refine sbg_coder S hK hT kf_J5_22 dJ5_newCapacity_0f7a4_54 ?_
    refine lv_ishr hx hb dJ5_newCapacity_0f7a4_57 ?_
    rw [sb_shr0]
    exact x_ri hx hb hr hlk hQ (Nat.le_of_ble_eq_true rfl) (Nat.le_of_ble_eq_true rfl) hS dJ5_newCapacity_0f7a4_58 () ⟨_, rfl, (z_J5_newCapacity_0f7a4_4 p0.toInt x1.toInt x3.toInt x5.toInt x7.toInt n e1 t2 t4 t6 t8)⟩ hh
  · exact absurd ((z_J5_newCapacity_0f7a4_5 p0.toInt x1.toInt x3.toInt x5.toInt x7.toInt n e1 t2 t4 t6 t8 c9)).1 (by decide)

abbrev rm_J5_isLatin1_aae02 : Room := { frames := 0, cells := 0, slots := 0, locals := 0 }
set_option maxHeartbeats 4000000 in
set_option maxRecDepth 100000 in
theorem c_J5_isLatin1_aae02 (l : Launch) (E : XE) (K : Nat → Nat) (F : Nat → Nat → Nat) (G : XG) (v n : Nat) (cnt : Int32) (h0 : Heap)   : Met l yJ5_isLatin1_aae02 (xw yJ5_isLatin1_aae02 cJ5_isLatin1_aae02 1 (some .boolean)) rm_J5_isLatin1_aae02 (va_Pc [.ref E.2.2.2.1] (XPbh E K F G v n cnt h0)) (XQ E (fun v (u : Unit) => ∃ r : Int32, v = .int r ∧ r = 1) (fun _ H => H = h0)) 0 0 (xA E) := by
  refine x_enter (by decide) (Nat.le_of_ble_eq_true rfl) ?_
  intro p e s m args below meth c Q S hr hlk hnm hQ hP ls hl
  obtain ⟨⟨hz, hK, hT⟩, hh⟩ := hP
  obtain ⟨hx, hb, -, -, -⟩ := id S
  have hS : va_S (xA E) s.heap s.heap [] := va_S.rf
  have hl : lv_has ls 1 [(0, .ref E.2.2.2.1)] := hl
  have e9 := hT.inv
  refine va_gets hx hb hK.2.2.2.2.1 hS S.2.2.2.1 (S.2.2.2.2 _ (List.mem_cons_of_mem _ kf_J5_18)) (fun _ h => h) dJ5_isLatin1_aae02_0 ?_
  refine xi_zeq (tgt := 17) hx hb ((by decide) : Int32.toInt 1 = (1 : Int)) dJ5_isLatin1_aae02_3 (by decide) (fun c => absurd c (show ¬ ((1 : Int) = 0) by decide)) (fun _ => ?_)
  refine lv_aload_n hx hb dJ5_isLatin1_aae02_6 rfl (lv_at hl 0 rfl) ?_
  refine sbg_coder S hK hT kf_J5_22 dJ5_isLatin1_aae02_7 ?_
  refine xi_zne (tgt := 17) hx hb ((by decide) : Int32.toInt 0 = (0 : Int)) dJ5_isLatin1_aae02_10 (by decide) (fun c => absurd c (show ¬ ((0 : Int) ≠ 0) by decide)) (fun _ => ?_)
  refine lv_iconst (v := 1) hx hb dJ5_isLatin1_aae02_13 (by decide) ?_
  refine lv_goto (tgt := 18) hx hb dJ5_isLatin1_aae02_14 (by decide) ?_
  exact x_rz hx hb hr (xnz (Or.inr rfl)) hlk hQ (Nat.le_of_ble_eq_true rfl) (Nat.le_of_ble_eq_true rfl) hS dJ5_isLatin1_aae02_18 () ⟨_, rfl, rfl⟩ hh

theorem z_J5_charAt_5068e_1 (a0 : Int) (a1 : Int) (a2 : Int) (a3 : Int) (a4 : Nat) (h0 : 0 ≤ a0 ∧ a0 ≤ ((a4 : Nat) : Int) ∧ ((a4 : Nat) : Int) ≤ 100) (h1 : 0 ≤ a1 ∧ a1 < a0) (h2 : a2 = ((a4 : Nat) : Int)) (h3 : (a0 ≤ a2 ∧ a3 = a0) ∨ (a2 < a0 ∧ a3 = a2)) : 0 ≤ a1 ∧ a1 < a3 := by omega
theorem z_J5_charAt_5068e_2 (a0 : Int) (a1 : Int) (a2 : Nat) (h0 : 0 ≤ a0 ∧ a0 ≤ ((a2 : Nat) : Int) ∧ ((a2 : Nat) : Int) ≤ 100) (h1 : 0 ≤ a1 ∧ a1 < a0) : 0 ≤ a1 ∧ a1 < ((a2 : Nat) : Int) := by omega
abbrev rm_J5_charAt_5068e : Room := { frames := 2, cells := 0, slots := 0, locals := 43 }
set_option maxHeartbeats 4000000 in
set_option maxRecDepth 100000 in
theorem c_J5_charAt_5068e (l : Launch) (E : XE) (K : Nat → Nat) (F : Nat → Nat → Nat) (G : XG) (v n : Nat) (cnt : Int32) (h0 : Heap) (p0 : Int32) (e1 : 0 ≤ p0.toInt ∧ p0.toInt < cnt.toInt) : Met l yJ5_charAt_5068e (xw yJ5_charAt_5068e cJ5_charAt_5068e 5 (some .char)) rm_J5_charAt_5068e (va_Pc [.ref E.2.2.2.1, .int p0] (XPbh E K F G v n cnt h0)) (XQ E (fun v (u : Unit) => ∃ r : Int32, v = .int r ∧ xok 1 r) (fun _ H => H = h0)) 0 0 (xA E) := by
  refine x_enter (by decide) (Nat.le_of_ble_eq_true rfl) ?_
  intro p e s m args below meth c Q S hr hlk hnm hQ hP ls hl
  obtain ⟨⟨hz, hK, hT⟩, hh⟩ := hP
  obtain ⟨hx, hb, -, -, -⟩ := id S
  have hS : va_S (xA E) s.heap s.heap [] := va_S.rf
  have hl : lv_has ls 5 [(0, .ref E.2.2.2.1), (1, .int p0)] := hl
  have e9 := hT.inv
  refine lv_aload_n hx hb dJ5_charAt_5068e_0 rfl (lv_at hl 0 rfl) ?_
  refine sbg_coder S hK hT kf_J5_22 dJ5_charAt_5068e_1 ?_
  refine lv_istore_n (lv' := [(2, .int 0), (0, .ref E.2.2.2.1), (1, .int p0)]) hx hb dJ5_charAt_5068e_4 rfl hl (by decide) rfl (fun ls hl => ?_)
  refine lv_aload_n hx hb dJ5_charAt_5068e_5 rfl (lv_at hl 1 rfl) ?_
  refine sbg_value S hK hT kf_J5_15 dJ5_charAt_5068e_6 ?_
  refine lv_astore_n (lv' := [(3, .ref v), (2, .int 0), (0, .ref E.2.2.2.1), (1, .int p0)]) hx hb dJ5_charAt_5068e_9 rfl hl (by decide) rfl (fun ls hl => ?_)
  refine lv_aload_n hx hb dJ5_charAt_5068e_10 rfl (lv_at hl 2 rfl) ?_
  refine sbg_count S hK hT kf_J5_79 dJ5_charAt_5068e_11 ?_
  refine lv_aload_n hx hb dJ5_charAt_5068e_14 rfl (lv_at hl 0 rfl) ?_
  refine sb_len S hK hT dJ5_charAt_5068e_15 (fun x1 t2 => ?_)
  refine lv_iload_n hx hb dJ5_charAt_5068e_16 rfl (lv_at hl 1 rfl) ?_
  refine lv_ishr hx hb dJ5_charAt_5068e_17 ?_
  rw [sb_shr0]
  refine x_clp (x_runS (As := [.int cnt, .int x1]) (rest := []) S (c_J9_min_7cf53 l E K F G s.heap cnt x1) ms_J9_min_7cf53 km_J5_138 rfl rfl ⟨Nat.le_of_ble_eq_true rfl, Nat.le_of_ble_eq_true rfl⟩ hK (fun _ => XPh.blind) (fun U hU hW => XPh.at hK hz hS hT.cl hU hW) rfl hl.1 (Nat.le_of_ble_eq_true rfl) dJ5_charAt_5068e_18 ⟨Nat.le_of_ble_eq_true rfl, Nat.le_of_ble_eq_true rfl⟩) hS ?_
  rintro _ _ locs ⟨x3, rfl, t4⟩ hS
  have t4 : (cnt.toInt ≤ x1.toInt ∧ x3.toInt = cnt.toInt) ∨ (x1.toInt < cnt.toInt ∧ x3.toInt = x1.toInt) := t4
  refine lv_istore (lv' := [(4, .int x3), (3, .ref v), (2, .int 0), (0, .ref E.2.2.2.1), (1, .int p0)]) hx hb dJ5_charAt_5068e_21 hl (by decide) rfl (fun ls hl => ?_)
  refine lv_iload_n hx hb dJ5_charAt_5068e_23 rfl (lv_at hl 4 rfl) ?_
  refine lv_iload hx hb dJ5_charAt_5068e_24 (lv_at hl 0 rfl) ?_
  refine x_cvp (x_runS (As := [.int p0, .int x3]) (rest := []) S (c_J0_checkIndex_df160 l E K F G s.heap p0 x3 (z_J5_charAt_5068e_1 cnt.toInt p0.toInt x1.toInt x3.toInt n e9 e1 t2 t4)) ms_J0_checkIndex_df160 km_J5_144 rfl rfl ⟨Nat.le_of_ble_eq_true rfl, Nat.le_of_ble_eq_true rfl⟩ hK (fun _ => XPh.blind) (fun U hU hW => XPh.at hK hz hS hT.cl hU hW) rfl hl.1 (Nat.le_of_ble_eq_true rfl) dJ5_charAt_5068e_26 ⟨Nat.le_of_ble_eq_true rfl, Nat.le_of_ble_eq_true rfl⟩) hS ?_
  rintro _ locs - hS
  refine lv_iload_n hx hb dJ5_charAt_5068e_29 rfl (lv_at hl 2 rfl) ?_
  refine xi_zne (tgt := 42) hx hb ((by decide) : Int32.toInt 0 = (0 : Int)) dJ5_charAt_5068e_30 (by decide) (fun c => absurd c (show ¬ ((0 : Int) ≠ 0) by decide)) (fun _ => ?_)
  refine lv_aload_n hx hb dJ5_charAt_5068e_33 rfl (lv_at hl 1 rfl) ?_
  refine lv_iload_n hx hb dJ5_charAt_5068e_34 rfl (lv_at hl 4 rfl) ?_
  refine sb_ld S hK hT (z_J5_charAt_5068e_2 cnt.toInt p0.toInt n e9 e1) dJ5_charAt_5068e_35 (fun x5 => ?_)
  refine lv_sipush (v := 255) hx hb dJ5_charAt_5068e_36 (by decide) ?_
  refine lv_iand hx hb dJ5_charAt_5068e_39 (lv_topi (fun x6 _ => ?_))
  refine lv_i2c hx hb dJ5_charAt_5068e_40 rfl (lv_topi (fun x7 ec8 => ?_))
  exact x_rz hx hb hr (by rw [ec8]; exact pk_nc _) hlk hQ (Nat.le_of_ble_eq_true rfl) (Nat.le_of_ble_eq_true rfl) hS dJ5_charAt_5068e_41 () ⟨_, rfl, (by rw [ec8]; exact pk_nc _)⟩ hh

theorem z_J7_copyOf_9075b_1 (a0 : Int) (a1 : Int) (a2 : Int) (a3 : Nat) (a4 : Nat) (h0 : ((a4 : Nat) : Int) = a0) (h1 : a1 = ((a3 : Nat) : Int)) (h2 : (a1 ≤ a0 ∧ a2 = a1) ∨ (a0 < a1 ∧ a2 = a0)) : 0 ≤ a2 ∧ a2 ≤ ((a3 : Nat) : Int) ∧ a2 ≤ ((a4 : Nat) : Int) := by omega
theorem z_J7_copyOf_9075b_2 (a0 : Int) (a1 : Int) (a2 : Nat) (h0 : ((a2 : Nat) : Int) < a0 ∧ a0 ≤ 100) (h1 : a1 = ((a2 : Nat) : Int)) (h2 : ¬ (a0 ≠ a1)) : (0 : Int) = 1 ∧ a0 = a0 := by omega
abbrev rm_J7_copyOf_9075b : Room := { frames := 1, cells := 1, slots := 100, locals := 60 }
set_option maxHeartbeats 4000000 in
set_option maxRecDepth 100000 in
theorem c_J7_copyOf_9075b (l : Launch) (E : XE) (K : Nat → Nat) (F : Nat → Nat → Nat) (G : XG) (v n : Nat) (cnt : Int32) (p1 : Int32) (e1 : ((n : Nat) : Int) < p1.toInt ∧ p1.toInt ≤ 100) : Met l yJ7_copyOf_9075b (xw yJ7_copyOf_9075b cJ7_copyOf_9075b 3 (some (.array .byte))) rm_J7_copyOf_9075b (va_Pc [.ref v, .int p1] (XPb E K F G v n cnt)) (XQ E (fun v (u : Nat) => v = .ref u) (fun u H => TWc E K F G v n cnt u p1.toInt.toNat H)) 1 100 (xA E) := by
  refine x_enter (by decide) (Nat.le_of_ble_eq_true rfl) ?_
  intro p e s m args below meth c Q S hr hlk hnm hQ hP ls hl
  obtain ⟨hz, hK, hT⟩ := hP
  obtain ⟨hx, hb, -, -, -⟩ := id S
  obtain ⟨H, hT, hS, hgo⟩ : ∃ H : Heap, TWb E K F G v n cnt H ∧ va_S (xA E) s.heap H [] ∧ H = s.heap := ⟨_, hT, va_S.rf, rfl⟩
  rw [← hgo]
  have hl : lv_has ls 3 [(0, .ref v), (1, .int p1)] := hl
  have e9 := hT.inv
  refine lv_iload_n hx hb dJ7_copyOf_9075b_0 rfl (lv_at hl 1 rfl) ?_
  refine lv_aload_n hx hb dJ7_copyOf_9075b_1 rfl (lv_at hl 0 rfl) ?_
  refine sb_len S hK hT dJ7_copyOf_9075b_2 (fun x1 t2 => ?_)
  refine xi_cne (tgt := 14) hx hb (rfl : Int32.toInt p1 = p1.toInt) (rfl : Int32.toInt x1 = x1.toInt) dJ7_copyOf_9075b_3 (by decide) (fun c3 => ?_) (fun c3 => ?_)
  · refine lv_iload_n hx hb dJ7_copyOf_9075b_14 rfl (lv_at hl 1 rfl) ?_
    have e8 : ((p1.toInt.toNat : Nat) : Int) = p1.toInt := Int.toNat_of_nonneg (by omega)
    refine sb_new (N := p1.toInt.toNat) S hK hz hT hS e8.symm (by omega) (Nat.le_of_ble_eq_true rfl) (Nat.le_of_ble_eq_true rfl) dJ7_copyOf_9075b_15 (fun q9 H hT hS => ?_)
    refine lv_astore_n (lv' := [(2, .ref q9), (0, .ref v), (1, .int p1)]) hx hb dJ7_copyOf_9075b_17 rfl hl (by decide) rfl (fun ls hl => ?_)
    refine lv_aload_n hx hb dJ7_copyOf_9075b_18 rfl (lv_at hl 1 rfl) ?_
    refine lv_iconst (v := 0) hx hb dJ7_copyOf_9075b_19 (by decide) ?_
    refine lv_aload_n hx hb dJ7_copyOf_9075b_20 rfl (lv_at hl 0 rfl) ?_
    refine lv_iconst (v := 0) hx hb dJ7_copyOf_9075b_21 (by decide) ?_
    refine lv_aload_n hx hb dJ7_copyOf_9075b_22 rfl (lv_at hl 1 rfl) ?_
    refine sc_len S hK hT dJ7_copyOf_9075b_23 (fun x4 t5 => ?_)
    refine lv_iload_n hx hb dJ7_copyOf_9075b_24 rfl (lv_at hl 2 rfl) ?_
    refine x_clp (x_runS (As := [.int x4, .int p1]) (rest := [.int 0, .ref q9, .int 0, .ref v]) S (c_J9_min_7cf53 l E K F G H x4 p1) ms_J9_min_7cf53 km_J7_304 rfl rfl ⟨Nat.le_of_ble_eq_true rfl, Nat.le_of_ble_eq_true rfl⟩ hK (fun _ => XPh.blind) (fun U hU hW => XPh.at hK hz hS hT.cl hU hW) rfl hl.1 (Nat.le_of_ble_eq_true rfl) dJ7_copyOf_9075b_25 ⟨Nat.le_of_ble_eq_true rfl, Nat.le_of_ble_eq_true rfl⟩) hS ?_
    rintro _ _ locs ⟨x6, rfl, t7⟩ hS
    have t7 : (x4.toInt ≤ p1.toInt ∧ x6.toInt = x4.toInt) ∨ (p1.toInt < x4.toInt ∧ x6.toInt = p1.toInt) := t7
    refine sc_copy S hK hT hS kac km_J7_150 (z_J7_copyOf_9075b_1 p1.toInt x4.toInt x6.toInt n p1.toInt.toNat e8 t5 t7) hl.1 (Nat.le_of_ble_eq_true rfl) (Nat.le_of_ble_eq_true rfl) dJ7_copyOf_9075b_28 (fun H locs hT hS => ?_)
    refine lv_aload_n hx hb dJ7_copyOf_9075b_31 rfl (lv_at hl 0 rfl) ?_
    exact x_ra hx hb hr (by first | exact Or.inl ⟨_, rfl⟩ | exact Or.inr ⟨_, rfl⟩) (by first | exact Or.inl rfl | exact Or.inr ⟨_, rfl⟩) hlk hQ (Nat.le_of_ble_eq_true rfl) (Nat.le_of_ble_eq_true rfl) hS dJ7_copyOf_9075b_32 q9 rfl hT
  · exact absurd ((z_J7_copyOf_9075b_2 p1.toInt x1.toInt n e1 t2 c3)).1 (by decide)

theorem z_J5_ensureCapacityInternal_d00df_1 (a0 : Int) (a1 : Int) (a2 : Int) (a3 : Nat) (h0 : 0 ≤ a0 ∧ a0 ≤ 48) (h1 : a1 = ((a3 : Nat) : Int)) (h2 : a2 = a0 - a1 ∨ a0 - a1 < -2147483648 ∨ 2147483648 ≤ a0 - a1) (h3 : a2 ≤ 0) : a0 ≤ ((a3 : Nat) : Int) ∧ ((a3 : Nat) : Int) ≤ ((a3 : Nat) : Int) := by omega
theorem z_J5_ensureCapacityInternal_d00df_2 (a0 : Int) (a1 : Int) (a2 : Int) (a3 : Int) (a4 : Nat) (h0 : 0 ≤ a0 ∧ a0 ≤ ((a4 : Nat) : Int) ∧ ((a4 : Nat) : Int) ≤ 100) (h1 : 0 ≤ a1 ∧ a1 ≤ 48) (h2 : a2 = ((a4 : Nat) : Int)) (h3 : a3 = a1 - a2 ∨ a1 - a2 < -2147483648 ∨ 2147483648 ≤ a1 - a2) (h4 : ¬ (a3 ≤ 0)) : ((a4 : Nat) : Int) < a1 ∧ a1 ≤ 48 := by omega
theorem z_J5_ensureCapacityInternal_d00df_3 (a0 : Int) (a1 : Int) (a2 : Int) (a3 : Int) (a4 : Int) (a5 : Nat) (h0 : 0 ≤ a0 ∧ a0 ≤ ((a5 : Nat) : Int) ∧ ((a5 : Nat) : Int) ≤ 100) (h1 : 0 ≤ a1 ∧ a1 ≤ 48) (h2 : a2 = ((a5 : Nat) : Int)) (h3 : a3 = a1 - a2 ∨ a1 - a2 < -2147483648 ∨ 2147483648 ≤ a1 - a2) (h4 : ¬ (a3 ≤ 0)) (h5 : a1 ≤ a4 ∧ a4 ≤ 100) : ((a5 : Nat) : Int) < a4 ∧ a4 ≤ 100 := by omega
theorem z_J5_ensureCapacityInternal_d00df_5 (a0 : Int) (a1 : Int) (a2 : Int) (a3 : Int) (a4 : Int) (a5 : Nat) (a6 : Nat) (h0 : 0 ≤ a0 ∧ a0 ≤ ((a5 : Nat) : Int) ∧ ((a5 : Nat) : Int) ≤ 100) (h1 : 0 ≤ a1 ∧ a1 ≤ 48) (h2 : a2 = ((a5 : Nat) : Int)) (h3 : a3 = a1 - a2 ∨ a1 - a2 < -2147483648 ∨ 2147483648 ≤ a1 - a2) (h4 : ¬ (a3 ≤ 0)) (h5 : a1 ≤ a4 ∧ a4 ≤ 100) (h6 : ((a6 : Nat) : Int) = a4) : a1 ≤ ((a6 : Nat) : Int) ∧ ((a5 : Nat) : Int) ≤ ((a6 : Nat) : Int) := by omega
abbrev rm_J5_ensureCapacityInternal_d00df : Room := { frames := 3, cells := 1, slots := 100, locals := 82 }
set_option maxHeartbeats 4000000 in
set_option maxRecDepth 100000 in
theorem c_J5_ensureCapacityInternal_d00df (l : Launch) (E : XE) (K : Nat → Nat) (F : Nat → Nat → Nat) (G : XG) (v n : Nat) (cnt : Int32) (p0 : Int32) (e1 : 0 ≤ p0.toInt ∧ p0.toInt ≤ 48) : Met l yJ5_ensureCapacityInternal_d00df (xw yJ5_ensureCapacityInternal_d00df cJ5_ensureCapacityInternal_d00df 3 none) rm_J5_ensureCapacityInternal_d00df (va_Pc [.ref E.2.2.2.1, .int p0] (XPb E K F G v n cnt)) (XQv E (fun (u : Nat × Nat) => p0.toInt ≤ ((u.2 : Nat) : Int) ∧ ((n : Nat) : Int) ≤ ((u.2 : Nat) : Int)) (fun u H => TWb E K F G u.1 u.2 cnt H)) 1 100 (xA E) := by
  refine x_enter (by decide) (Nat.le_of_ble_eq_true rfl) ?_
  intro p e s m args below meth c Q S hr hlk hnm hQ hP ls hl
  obtain ⟨hz, hK, hT⟩ := hP
  obtain ⟨hx, hb, -, -, -⟩ := id S
  obtain ⟨H, hT, hS, hgo⟩ : ∃ H : Heap, TWb E K F G v n cnt H ∧ va_S (xA E) s.heap H [] ∧ H = s.heap := ⟨_, hT, va_S.rf, rfl⟩
  rw [← hgo]
  have hl : lv_has ls 3 [(0, .ref E.2.2.2.1), (1, .int p0)] := hl
  have e9 := hT.inv
  refine lv_aload_n hx hb dJ5_ensureCapacityInternal_d00df_0 rfl (lv_at hl 0 rfl) ?_
  refine sbg_value S hK hT kf_J5_15 dJ5_ensureCapacityInternal_d00df_1 ?_
  refine sb_len S hK hT dJ5_ensureCapacityInternal_d00df_4 (fun x1 t2 => ?_)
  refine lv_aload_n hx hb dJ5_ensureCapacityInternal_d00df_5 rfl (lv_at hl 0 rfl) ?_
  refine sbg_coder S hK hT kf_J5_22 dJ5_ensureCapacityInternal_d00df_6 ?_
  refine lv_ishr hx hb dJ5_ensureCapacityInternal_d00df_9 ?_
  rw [sb_shr0]
  refine lv_istore_n (lv' := [(2, .int x1), (0, .ref E.2.2.2.1), (1, .int p0)]) hx hb dJ5_ensureCapacityInternal_d00df_10 rfl hl (by decide) rfl (fun ls hl => ?_)
  refine lv_iload_n hx hb dJ5_ensureCapacityInternal_d00df_11 rfl (lv_at hl 2 rfl) ?_
  refine lv_iload_n hx hb dJ5_ensureCapacityInternal_d00df_12 rfl (lv_at hl 0 rfl) ?_
  refine xi_isub hx hb (rfl : Int32.toInt p0 = p0.toInt) (rfl : Int32.toInt x1 = x1.toInt) dJ5_ensureCapacityInternal_d00df_13 (fun x3 t4 => ?_)
  refine xi_zle (tgt := 38) hx hb (rfl : Int32.toInt x3 = x3.toInt) dJ5_ensureCapacityInternal_d00df_14 (by decide) (fun c5 => ?_) (fun c5 => ?_)
  · exact x_rv hx hb hr hlk hQ (Nat.le_of_ble_eq_true rfl) (Nat.le_of_ble_eq_true rfl) hS dJ5_ensureCapacityInternal_d00df_38 (v, n) (z_J5_ensureCapacityInternal_d00df_1 p0.toInt x1.toInt x3.toInt n e1 t2 t4 c5) hT
  · refine lv_aload_n hx hb dJ5_ensureCapacityInternal_d00df_17 rfl (lv_at hl 1 rfl) ?_
    refine lv_aload_n hx hb dJ5_ensureCapacityInternal_d00df_18 rfl (lv_at hl 1 rfl) ?_
    refine sbg_value S hK hT kf_J5_15 dJ5_ensureCapacityInternal_d00df_19 ?_
    refine lv_aload_n hx hb dJ5_ensureCapacityInternal_d00df_22 rfl (lv_at hl 1 rfl) ?_
    refine lv_iload_n hx hb dJ5_ensureCapacityInternal_d00df_23 rfl (lv_at hl 2 rfl) ?_
    refine x_clp (x_runV (b := E.2.2.2.1) (As := [.int p0]) (rest := [.ref v, .ref E.2.2.2.1]) S (c_J5_newCapacity_0f7a4 l E K F G v n cnt H p0 (z_J5_ensureCapacityInternal_d00df_2 cnt.toInt p0.toInt x1.toInt x3.toInt n e9 e1 t2 t4 c5)) mw_J5_newCapacity_0f7a4 km_J5_104 rfl rfl ⟨Nat.le_of_ble_eq_true rfl, Nat.le_of_ble_eq_true rfl⟩ (rc_sb hK hT) hK (fun _ => XPbh.blind) (fun U hU hW => XPbh.at hK hz hS hT hU hW) rfl hl.1 (Nat.le_of_ble_eq_true rfl) dJ5_ensureCapacityInternal_d00df_24 ⟨Nat.le_of_ble_eq_true rfl, Nat.le_of_ble_eq_true rfl⟩) hS ?_
    rintro _ _ locs ⟨x6, rfl, t7⟩ hS
    have t7 : p0.toInt ≤ x6.toInt ∧ x6.toInt ≤ 100 := t7
    refine lv_aload_n hx hb dJ5_ensureCapacityInternal_d00df_27 rfl (lv_at hl 1 rfl) ?_
    refine sbg_coder S hK hT kf_J5_22 dJ5_ensureCapacityInternal_d00df_28 ?_
    refine lv_ishl hx hb dJ5_ensureCapacityInternal_d00df_31 ?_
    rw [sb_shl0]
    refine x_cl (x_runS (As := [.ref v, .int x6]) (rest := [.ref E.2.2.2.1]) S (c_J7_copyOf_9075b l E K F G v n cnt x6 (z_J5_ensureCapacityInternal_d00df_3 cnt.toInt p0.toInt x1.toInt x3.toInt x6.toInt n e9 e1 t2 t4 c5 t7)) ms_J7_copyOf_9075b km_J5_108 rfl rfl ⟨Nat.le_of_ble_eq_true rfl, Nat.le_of_ble_eq_true rfl⟩ hK (fun _ => XPb.blind) (fun U hU hW => XPb.at hK hz hS hT hU hW) rfl hl.1 (Nat.le_of_ble_eq_true rfl) dJ5_ensureCapacityInternal_d00df_32 ⟨Nat.le_of_ble_eq_true rfl, Nat.le_of_ble_eq_true rfl⟩) hS ?_
    rintro _ u9 H locs rfl hT hS
    have e7 : ((x6.toInt.toNat : Nat) : Int) = x6.toInt := Int.toNat_of_nonneg (by have := (z_J5_ensureCapacityInternal_d00df_3 cnt.toInt p0.toInt x1.toInt x3.toInt x6.toInt n e9 e1 t2 t4 c5 t7); omega)
    refine sbp_value S hK hT hS kf_J5_15 (by have := (z_J5_ensureCapacityInternal_d00df_3 cnt.toInt p0.toInt x1.toInt x3.toInt x6.toInt n e9 e1 t2 t4 c5 t7); omega) dJ5_ensureCapacityInternal_d00df_35 (fun H locs hT hS => ?_)
    exact x_rv hx hb hr hlk hQ (Nat.le_of_ble_eq_true rfl) (Nat.le_of_ble_eq_true rfl) hS dJ5_ensureCapacityInternal_d00df_38 (u9, x6.toInt.toNat) (z_J5_ensureCapacityInternal_d00df_5 cnt.toInt p0.toInt x1.toInt x3.toInt x6.toInt n x6.toInt.toNat e9 e1 t2 t4 c5 t7 e7) hT
section
section XSE
variable {p : Program} {l : Launch} {e : Env} {R : Room} {s : State} {m : MethodId} {args : Array Value} {below : List Frame} {meth : Method} {c : Code} {H : Heap} {locs : List Loc} {cells slots : Nat} {Q : State → Prop}
variable {pc : Nat} {ls : Array Slot} {rest : List Value} {cc : ByteArray} {nL : Nat} {X Y : Int}
theorem xi_idivn (hx : p.tables.exec = Jvm.exec) (hb : c.code = cc) {x y : Int32} (hX : x.toInt = X) (hY : y.toInt = Y) (hpos : 0 < y.toInt) (hdg : decode cc pc = .ok (.idiv, 1)) (kk : ∀ z : Int32, (X ≤ 0 → z.toInt = -((-X) / Y)) → W p l e R s m args below meth c H locs cells slots Q (F0 m (pc + 1) ls (.int z :: rest))) : W p l e R s m args below meth c H locs cells slots Q (F0 m pc ls (.int y :: .int x :: rest)) :=
  lv_idiv hx hb hdg (fun q => by rw [q] at hpos; exact absurd hpos (by decide)) (kk _ (fun h0 => by subst hX hY; exact xdivn x y h0 hpos))
end XSE
theorem xlen_le {i : Nat} (h : i < 13) : ((xlen.getD i 0 : Nat) : Int) ≤ 29 := by
  have : ∀ j, j < 13 → xlen.getD j 0 ≤ 29 := by decide
  have := this i h
  omega

theorem z_J6_getChars_ba4f3_1 (a0 : Int) (a1 : Int) (a2 : Int) (a3 : Int) (h0 : (a1 = 0 ∨ a1 = 1) ∧ a3 ≤ 0 ∧ a1 + 1 ≤ a0 ∧ a0 ≤ a0) (h1 : (-100 : Int) < a3) (h2 : a2 = -a3 ∨ -a3 < -2147483648 ∨ 2147483648 ≤ -a3) : 0 ≤ a2 ∧ a2 < ((100 : Nat) : Int) := by omega
theorem z_J6_getChars_ba4f3_2 (a0 : Int) (a1 : Int) (a2 : Nat) (h0 : 1 ≤ a0 ∧ a0 ≤ ((a2 : Nat) : Int)) (h1 : a1 = a0 + (-1) ∨ a0 + (-1) < -2147483648 ∨ 2147483648 ≤ a0 + (-1)) (h2 : -2147483648 ≤ a0 ∧ a0 < 2147483648) : 0 ≤ a1 ∧ a1 < ((a2 : Nat) : Int) := by omega
theorem z_J6_getChars_ba4f3_3 (a0 : Int) (a1 : Nat) : a0 = a0 ∧ ((a1 : Nat) : Int) = ((a1 : Nat) : Int) := by omega
theorem z_J6_getChars_ba4f3_4 (a0 : Int) (a1 : Int) (a2 : Int) (a3 : Int) (a4 : Nat) (h0 : 1 ≤ a0 ∧ a0 ≤ ((a4 : Nat) : Int)) (h1 : a1 ≤ a2 ∧ a2 ≤ a0 ∧ (a1 = 0 ∨ a1 = 1)) (h2 : ¬ (a1 = 0)) (h3 : a3 = a2 + (-1) ∨ a2 + (-1) < -2147483648 ∨ 2147483648 ≤ a2 + (-1)) (h4 : -2147483648 ≤ a2 ∧ a2 < 2147483648) : 0 ≤ a3 ∧ a3 < ((a4 : Nat) : Int) := by omega
theorem z_J6_getChars_ba4f3_6 (a0 : Int) (a1 : Int) (a2 : Int) (a3 : Int) (h0 : (a1 = 0 ∨ a1 = 1) ∧ a3 ≤ 0 ∧ a1 + 1 ≤ a0 ∧ a0 ≤ a0) (h1 : a2 = a0 + (-1) ∨ a0 + (-1) < -2147483648 ∨ 2147483648 ≤ a0 + (-1)) (h2 : -2147483648 ≤ a0 ∧ a0 < 2147483648) : a1 ≤ a2 ∧ a2 ≤ a0 ∧ (a1 = 0 ∨ a1 = 1) := by omega
theorem z_J6_getChars_ba4f3_7 (a0 : Int) (a1 : Int) (h0 : (-100 : Int) < a0) (h1 : ¬ ((-9 : Int) ≤ a0)) (h2 : a1 = -a0 ∨ -a0 < -2147483648 ∨ 2147483648 ≤ -a0) : 0 ≤ a1 ∧ a1 < ((100 : Nat) : Int) := by omega
theorem z_J6_getChars_ba4f3_8 (a0 : Int) (a1 : Int) (a2 : Int) (a3 : Int) (a4 : Int) (a5 : Int) (a6 : Nat) (h0 : 1 ≤ a1 ∧ a1 ≤ ((a6 : Nat) : Int)) (h1 : (a0 < 0 ∧ a2 = 1) ∨ (0 ≤ a0 ∧ a2 = 0)) (h2 : (a4 ≤ -10 → a2 + 2 ≤ a1)) (h3 : a3 = a1 + (-1) ∨ a1 + (-1) < -2147483648 ∨ 2147483648 ≤ a1 + (-1)) (h4 : ¬ ((-9 : Int) ≤ a4)) (h5 : a5 = a3 + (-1) ∨ a3 + (-1) < -2147483648 ∨ 2147483648 ≤ a3 + (-1)) (h6 : -2147483648 ≤ a1 ∧ a1 < 2147483648) : 0 ≤ a5 ∧ a5 < ((a6 : Nat) : Int) := by omega
theorem z_J6_getChars_ba4f3_9 (a0 : Int) (a1 : Int) (a2 : Int) (a3 : Int) (a4 : Int) (a5 : Int) (h0 : (a0 < 0 ∧ a2 = 1) ∨ (0 ≤ a0 ∧ a2 = 0)) (h1 : (a4 ≤ -10 → a2 + 2 ≤ a1)) (h2 : a3 = a1 + (-1) ∨ a1 + (-1) < -2147483648 ∨ 2147483648 ≤ a1 + (-1)) (h3 : ¬ ((-9 : Int) ≤ a4)) (h4 : a5 = a3 + (-1) ∨ a3 + (-1) < -2147483648 ∨ 2147483648 ≤ a3 + (-1)) (h5 : -2147483648 ≤ a1 ∧ a1 < 2147483648) : a2 ≤ a5 ∧ a5 ≤ a1 ∧ (a2 = 0 ∨ a2 = 1) := by omega
theorem z_J6_getChars_ba4f3_10 (a0 : Int) (a1 : Int) (a2 : Int) (a3 : Int) (h0 : ¬ ((-100 : Int) < a0)) (h1 : a0 ≤ 0 → a1 = -((-a0) / (100 : Int))) (h2 : a2 = a1 * (100 : Int) ∨ a1 * (100 : Int) < -2147483648 ∨ 2147483648 ≤ a1 * (100 : Int)) (h3 : a3 = a2 - a0 ∨ a2 - a0 < -2147483648 ∨ 2147483648 ≤ a2 - a0) (h4 : -2147483648 ≤ a0 ∧ a0 < 2147483648) : 0 ≤ a3 ∧ a3 < ((100 : Nat) : Int) := by omega
theorem z_J6_getChars_ba4f3_13 (a0 : Int) (a1 : Int) (a2 : Int) (a3 : Int) (a4 : Int) (a5 : Int) (a6 : Nat) (h0 : 1 ≤ a1 ∧ a1 ≤ ((a6 : Nat) : Int)) (h1 : (a0 < 0 ∧ a2 = 1) ∨ (0 ≤ a0 ∧ a2 = 0)) (h2 : (a3 ≤ -100 → a2 + 3 ≤ a1)) (h3 : ¬ ((-100 : Int) < a3)) (h4 : a4 = a1 + (-1) ∨ a1 + (-1) < -2147483648 ∨ 2147483648 ≤ a1 + (-1)) (h5 : a5 = a4 + (-1) ∨ a4 + (-1) < -2147483648 ∨ 2147483648 ≤ a4 + (-1)) (h6 : -2147483648 ≤ a1 ∧ a1 < 2147483648) : 0 ≤ a5 ∧ a5 < ((a6 : Nat) : Int) := by omega
theorem z_J6_getChars_ba4f3_14 (a0 : Int) (a1 : Int) (a2 : Int) (a3 : Int) (h0 : (a1 = 0 ∨ a1 = 1) ∧ a2 ≤ 0 ∧ a1 + 1 ≤ a3 ∧ a3 ≤ a0) : ¬ (-a2 < ((0 : Nat) : Int)) := by omega
theorem z_J6_getChars_ba4f3_15 (a0 : Int) (a1 : Int) (a2 : Int) (a3 : Int) (a4 : Int) (h0 : (a1 = 0 ∨ a1 = 1) ∧ a2 ≤ 0 ∧ a1 + 1 ≤ a3 ∧ a3 ≤ a0) (h1 : (-100 : Int) < a2) (h2 : a4 = -a2 ∨ -a2 < -2147483648 ∨ 2147483648 ≤ -a2) : 0 ≤ a4 ∧ a4 < ((100 : Nat) : Int) := by omega
theorem z_J6_getChars_ba4f3_16 (a0 : Int) (a1 : Int) (a2 : Int) (a3 : Int) (a4 : Int) (a5 : Nat) (h0 : 1 ≤ a0 ∧ a0 ≤ ((a5 : Nat) : Int)) (h1 : (a1 = 0 ∨ a1 = 1) ∧ a2 ≤ 0 ∧ a1 + 1 ≤ a3 ∧ a3 ≤ a0) (h2 : a4 = a3 + (-1) ∨ a3 + (-1) < -2147483648 ∨ 2147483648 ≤ a3 + (-1)) (h3 : -2147483648 ≤ a3 ∧ a3 < 2147483648) : 0 ≤ a4 ∧ a4 < ((a5 : Nat) : Int) := by omega
theorem z_J6_getChars_ba4f3_20 (a0 : Int) (a1 : Int) (a2 : Int) (a3 : Int) (a4 : Int) (h0 : (a1 = 0 ∨ a1 = 1) ∧ a2 ≤ 0 ∧ a1 + 1 ≤ a3 ∧ a3 ≤ a0) (h1 : a4 = a3 + (-1) ∨ a3 + (-1) < -2147483648 ∨ 2147483648 ≤ a3 + (-1)) (h2 : -2147483648 ≤ a3 ∧ a3 < 2147483648) : a1 ≤ a4 ∧ a4 ≤ a0 ∧ (a1 = 0 ∨ a1 = 1) := by omega
theorem z_J6_getChars_ba4f3_22 (a0 : Int) (a1 : Int) (a2 : Int) (a3 : Int) (a4 : Int) (a5 : Int) (a6 : Nat) (h0 : 1 ≤ a0 ∧ a0 ≤ ((a6 : Nat) : Int)) (h1 : (a1 = 0 ∨ a1 = 1) ∧ a2 ≤ 0 ∧ a1 + 1 ≤ a3 ∧ a3 ≤ a0) (h2 : (a2 ≤ -10 → a1 + 2 ≤ a3)) (h3 : a4 = a3 + (-1) ∨ a3 + (-1) < -2147483648 ∨ 2147483648 ≤ a3 + (-1)) (h4 : ¬ ((-9 : Int) ≤ a2)) (h5 : a5 = a4 + (-1) ∨ a4 + (-1) < -2147483648 ∨ 2147483648 ≤ a4 + (-1)) (h6 : -2147483648 ≤ a3 ∧ a3 < 2147483648) : 0 ≤ a5 ∧ a5 < ((a6 : Nat) : Int) := by omega
theorem z_J6_getChars_ba4f3_23 (a0 : Int) (a1 : Int) (a2 : Int) (a3 : Int) (a4 : Int) (a5 : Int) (h0 : (a1 = 0 ∨ a1 = 1) ∧ a2 ≤ 0 ∧ a1 + 1 ≤ a3 ∧ a3 ≤ a0) (h1 : (a2 ≤ -10 → a1 + 2 ≤ a3)) (h2 : a4 = a3 + (-1) ∨ a3 + (-1) < -2147483648 ∨ 2147483648 ≤ a3 + (-1)) (h3 : ¬ ((-9 : Int) ≤ a2)) (h4 : a5 = a4 + (-1) ∨ a4 + (-1) < -2147483648 ∨ 2147483648 ≤ a4 + (-1)) (h5 : -2147483648 ≤ a3 ∧ a3 < 2147483648) : a1 ≤ a5 ∧ a5 ≤ a0 ∧ (a1 = 0 ∨ a1 = 1) := by omega
theorem z_J6_getChars_ba4f3_24 (a0 : Int) (a1 : Int) (a2 : Int) (a3 : Int) (h0 : ¬ ((-100 : Int) < a2)) (h1 : a2 ≤ 0 → a3 = -((-a2) / (100 : Int))) (h2 : a0 = a3 * (100 : Int) ∨ a3 * (100 : Int) < -2147483648 ∨ 2147483648 ≤ a3 * (100 : Int)) (h3 : a1 = a0 - a2 ∨ a0 - a2 < -2147483648 ∨ 2147483648 ≤ a0 - a2) (h4 : -2147483648 ≤ a2 ∧ a2 < 2147483648) : 0 ≤ a1 ∧ a1 < ((100 : Nat) : Int) := by omega
theorem z_J6_getChars_ba4f3_25 (a0 : Int) (a1 : Int) (a2 : Int) (a3 : Int) (a4 : Int) (a5 : Nat) (h0 : 1 ≤ a0 ∧ a0 ≤ ((a5 : Nat) : Int)) (h1 : (a1 = 0 ∨ a1 = 1) ∧ a3 ≤ 0 ∧ a1 + 1 ≤ a4 ∧ a4 ≤ a0) (h2 : a2 = a4 + (-1) ∨ a4 + (-1) < -2147483648 ∨ 2147483648 ≤ a4 + (-1)) (h3 : -2147483648 ≤ a4 ∧ a4 < 2147483648) : 0 ≤ a2 ∧ a2 < ((a5 : Nat) : Int) := by omega
theorem z_J6_getChars_ba4f3_27 (a0 : Int) (a1 : Int) (a2 : Int) (a3 : Int) (a4 : Int) (a5 : Int) (a6 : Nat) (h0 : 1 ≤ a0 ∧ a0 ≤ ((a6 : Nat) : Int)) (h1 : (a1 = 0 ∨ a1 = 1) ∧ a4 ≤ 0 ∧ a1 + 1 ≤ a5 ∧ a5 ≤ a0) (h2 : (a4 ≤ -100 → a1 + 3 ≤ a5)) (h3 : ¬ ((-100 : Int) < a4)) (h4 : a2 = a5 + (-1) ∨ a5 + (-1) < -2147483648 ∨ 2147483648 ≤ a5 + (-1)) (h5 : a3 = a2 + (-1) ∨ a2 + (-1) < -2147483648 ∨ 2147483648 ≤ a2 + (-1)) (h6 : -2147483648 ≤ a5 ∧ a5 < 2147483648) : 0 ≤ a3 ∧ a3 < ((a6 : Nat) : Int) := by omega
theorem z_J6_getChars_ba4f3_28 (a0 : Int) (a1 : Int) (a2 : Int) (a3 : Int) (a4 : Int) (a5 : Int) (a6 : Int) (h0 : (a1 = 0 ∨ a1 = 1) ∧ a4 ≤ 0 ∧ a1 + 1 ≤ a5 ∧ a5 ≤ a0) (h1 : (a4 ≤ -100 → a1 + 3 ≤ a5)) (h2 : ¬ ((-100 : Int) < a4)) (h3 : a4 ≤ 0 → a6 = -((-a4) / (100 : Int))) (h4 : a2 = a5 + (-1) ∨ a5 + (-1) < -2147483648 ∨ 2147483648 ≤ a5 + (-1)) (h5 : a3 = a2 + (-1) ∨ a2 + (-1) < -2147483648 ∨ 2147483648 ≤ a2 + (-1)) (h6 : -2147483648 ≤ a5 ∧ a5 < 2147483648) : (a1 = 0 ∨ a1 = 1) ∧ a6 ≤ 0 ∧ a1 + 1 ≤ a3 ∧ a3 ≤ a0 := by omega
theorem z_J6_getChars_ba4f3_29 (a0 : Int) (a1 : Int) (a2 : Int) (a3 : Int) (a4 : Int) (a5 : Int) (h0 : (a3 ≤ -1000 → a0 + 4 ≤ a4)) (h1 : ¬ ((-100 : Int) < a3)) (h2 : a3 ≤ 0 → a5 = -((-a3) / (100 : Int))) (h3 : a1 = a4 + (-1) ∨ a4 + (-1) < -2147483648 ∨ 2147483648 ≤ a4 + (-1)) (h4 : a2 = a1 + (-1) ∨ a1 + (-1) < -2147483648 ∨ 2147483648 ≤ a1 + (-1)) (h5 : -2147483648 ≤ a0 ∧ a0 < 2147483648) (h6 : -2147483648 ≤ a4 ∧ a4 < 2147483648) : (a5 ≤ -10 → a0 + 2 ≤ a2) := by omega
theorem z_J6_getChars_ba4f3_30 (a0 : Int) (a1 : Int) (a2 : Int) (a3 : Int) (a4 : Int) (a5 : Int) (h0 : (a3 ≤ -10000 → a0 + 5 ≤ a4)) (h1 : ¬ ((-100 : Int) < a3)) (h2 : a3 ≤ 0 → a5 = -((-a3) / (100 : Int))) (h3 : a1 = a4 + (-1) ∨ a4 + (-1) < -2147483648 ∨ 2147483648 ≤ a4 + (-1)) (h4 : a2 = a1 + (-1) ∨ a1 + (-1) < -2147483648 ∨ 2147483648 ≤ a1 + (-1)) (h5 : -2147483648 ≤ a0 ∧ a0 < 2147483648) (h6 : -2147483648 ≤ a4 ∧ a4 < 2147483648) : (a5 ≤ -100 → a0 + 3 ≤ a2) := by omega
theorem z_J6_getChars_ba4f3_31 (a0 : Int) (a1 : Int) (a2 : Int) (a3 : Int) (a4 : Int) (a5 : Int) (h0 : (a3 ≤ -100000 → a0 + 6 ≤ a4)) (h1 : ¬ ((-100 : Int) < a3)) (h2 : a3 ≤ 0 → a5 = -((-a3) / (100 : Int))) (h3 : a1 = a4 + (-1) ∨ a4 + (-1) < -2147483648 ∨ 2147483648 ≤ a4 + (-1)) (h4 : a2 = a1 + (-1) ∨ a1 + (-1) < -2147483648 ∨ 2147483648 ≤ a1 + (-1)) (h5 : -2147483648 ≤ a0 ∧ a0 < 2147483648) (h6 : -2147483648 ≤ a4 ∧ a4 < 2147483648) : (a5 ≤ -1000 → a0 + 4 ≤ a2) := by omega
theorem z_J6_getChars_ba4f3_32 (a0 : Int) (a1 : Int) (a2 : Int) (a3 : Int) (a4 : Int) (a5 : Int) (h0 : (a3 ≤ -1000000 → a0 + 7 ≤ a4)) (h1 : ¬ ((-100 : Int) < a3)) (h2 : a3 ≤ 0 → a5 = -((-a3) / (100 : Int))) (h3 : a1 = a4 + (-1) ∨ a4 + (-1) < -2147483648 ∨ 2147483648 ≤ a4 + (-1)) (h4 : a2 = a1 + (-1) ∨ a1 + (-1) < -2147483648 ∨ 2147483648 ≤ a1 + (-1)) (h5 : -2147483648 ≤ a0 ∧ a0 < 2147483648) (h6 : -2147483648 ≤ a4 ∧ a4 < 2147483648) : (a5 ≤ -10000 → a0 + 5 ≤ a2) := by omega
theorem z_J6_getChars_ba4f3_33 (a0 : Int) (a1 : Int) (a2 : Int) (a3 : Int) (a4 : Int) (a5 : Int) (h0 : (a3 ≤ -10000000 → a0 + 8 ≤ a4)) (h1 : ¬ ((-100 : Int) < a3)) (h2 : a3 ≤ 0 → a5 = -((-a3) / (100 : Int))) (h3 : a1 = a4 + (-1) ∨ a4 + (-1) < -2147483648 ∨ 2147483648 ≤ a4 + (-1)) (h4 : a2 = a1 + (-1) ∨ a1 + (-1) < -2147483648 ∨ 2147483648 ≤ a1 + (-1)) (h5 : -2147483648 ≤ a0 ∧ a0 < 2147483648) (h6 : -2147483648 ≤ a4 ∧ a4 < 2147483648) : (a5 ≤ -100000 → a0 + 6 ≤ a2) := by omega
theorem z_J6_getChars_ba4f3_34 (a0 : Int) (a1 : Int) (a2 : Int) (a3 : Int) (a4 : Int) (a5 : Int) (h0 : (a3 ≤ -100000000 → a0 + 9 ≤ a4)) (h1 : ¬ ((-100 : Int) < a3)) (h2 : a3 ≤ 0 → a5 = -((-a3) / (100 : Int))) (h3 : a1 = a4 + (-1) ∨ a4 + (-1) < -2147483648 ∨ 2147483648 ≤ a4 + (-1)) (h4 : a2 = a1 + (-1) ∨ a1 + (-1) < -2147483648 ∨ 2147483648 ≤ a1 + (-1)) (h5 : -2147483648 ≤ a0 ∧ a0 < 2147483648) (h6 : -2147483648 ≤ a4 ∧ a4 < 2147483648) : (a5 ≤ -1000000 → a0 + 7 ≤ a2) := by omega
theorem z_J6_getChars_ba4f3_35 (a0 : Int) (a1 : Int) (a2 : Int) (a3 : Int) (a4 : Int) (a5 : Int) (h0 : (a3 ≤ -1000000000 → a0 + 10 ≤ a4)) (h1 : ¬ ((-100 : Int) < a3)) (h2 : a3 ≤ 0 → a5 = -((-a3) / (100 : Int))) (h3 : a1 = a4 + (-1) ∨ a4 + (-1) < -2147483648 ∨ 2147483648 ≤ a4 + (-1)) (h4 : a2 = a1 + (-1) ∨ a1 + (-1) < -2147483648 ∨ 2147483648 ≤ a1 + (-1)) (h5 : -2147483648 ≤ a0 ∧ a0 < 2147483648) (h6 : -2147483648 ≤ a4 ∧ a4 < 2147483648) : (a5 ≤ -10000000 → a0 + 8 ≤ a2) := by omega
theorem z_J6_getChars_ba4f3_36 (a0 : Int) (a1 : Int) (a2 : Int) (a3 : Int) (h0 : ¬ ((-100 : Int) < a2)) (h1 : a2 ≤ 0 → a3 = -((-a2) / (100 : Int))) (h2 : -2147483648 ≤ a2 ∧ a2 < 2147483648) : (a3 ≤ -100000000 → a0 + 9 ≤ a1) := by omega
theorem z_J6_getChars_ba4f3_37 (a0 : Int) (a1 : Int) (a2 : Int) (a3 : Int) (h0 : ¬ ((-100 : Int) < a2)) (h1 : a2 ≤ 0 → a3 = -((-a2) / (100 : Int))) (h2 : -2147483648 ≤ a2 ∧ a2 < 2147483648) : (a3 ≤ -1000000000 → a0 + 10 ≤ a1) := by omega
theorem z_J6_getChars_ba4f3_38 (a0 : Int) (a1 : Int) (a2 : Nat) (h0 : -a0 < ((a2 + 1 : Nat) : Int)) (h1 : ¬ ((-100 : Int) < a0)) (h2 : a0 ≤ 0 → a1 = -((-a0) / (100 : Int))) : -a1 < ((a2 : Nat) : Int) := by omega
theorem z_J6_getChars_ba4f3_39 (a0 : Int) (a1 : Int) (a2 : Int) (a3 : Int) (a4 : Int) (a5 : Int) (a6 : Int) (h0 : (a0 < 0 ∧ a2 = 1) ∨ (0 ≤ a0 ∧ a2 = 0)) (h1 : (a3 ≤ -100 → a2 + 3 ≤ a1)) (h2 : ¬ ((-100 : Int) < a3)) (h3 : a3 ≤ 0 → a4 = -((-a3) / (100 : Int))) (h4 : a5 = a1 + (-1) ∨ a1 + (-1) < -2147483648 ∨ 2147483648 ≤ a1 + (-1)) (h5 : a6 = a5 + (-1) ∨ a5 + (-1) < -2147483648 ∨ 2147483648 ≤ a5 + (-1)) (h6 : -2147483648 ≤ a1 ∧ a1 < 2147483648) : (a2 = 0 ∨ a2 = 1) ∧ a4 ≤ 0 ∧ a2 + 1 ≤ a6 ∧ a6 ≤ a1 := by omega
theorem z_J6_getChars_ba4f3_40 (a0 : Int) (a1 : Int) (a2 : Int) (a3 : Int) (a4 : Int) (a5 : Int) (a6 : Nat) (h0 : 1 ≤ a0 ∧ a0 ≤ ((a6 : Nat) : Int)) (h1 : (a2 ≤ -1000 → a1 + 4 ≤ a0)) (h2 : ¬ ((-100 : Int) < a2)) (h3 : a2 ≤ 0 → a3 = -((-a2) / (100 : Int))) (h4 : a4 = a0 + (-1) ∨ a0 + (-1) < -2147483648 ∨ 2147483648 ≤ a0 + (-1)) (h5 : a5 = a4 + (-1) ∨ a4 + (-1) < -2147483648 ∨ 2147483648 ≤ a4 + (-1)) (h6 : -2147483648 ≤ a0 ∧ a0 < 2147483648) : (a3 ≤ -10 → a1 + 2 ≤ a5) := by omega
theorem z_J6_getChars_ba4f3_41 (a0 : Int) (a1 : Int) (a2 : Int) (a3 : Int) (a4 : Int) (a5 : Int) (a6 : Nat) (h0 : 1 ≤ a0 ∧ a0 ≤ ((a6 : Nat) : Int)) (h1 : (a2 ≤ -10000 → a1 + 5 ≤ a0)) (h2 : ¬ ((-100 : Int) < a2)) (h3 : a2 ≤ 0 → a3 = -((-a2) / (100 : Int))) (h4 : a4 = a0 + (-1) ∨ a0 + (-1) < -2147483648 ∨ 2147483648 ≤ a0 + (-1)) (h5 : a5 = a4 + (-1) ∨ a4 + (-1) < -2147483648 ∨ 2147483648 ≤ a4 + (-1)) (h6 : -2147483648 ≤ a0 ∧ a0 < 2147483648) : (a3 ≤ -100 → a1 + 3 ≤ a5) := by omega
theorem z_J6_getChars_ba4f3_42 (a0 : Int) (a1 : Int) (a2 : Int) (a3 : Int) (a4 : Int) (a5 : Int) (a6 : Nat) (h0 : 1 ≤ a0 ∧ a0 ≤ ((a6 : Nat) : Int)) (h1 : (a2 ≤ -100000 → a1 + 6 ≤ a0)) (h2 : ¬ ((-100 : Int) < a2)) (h3 : a2 ≤ 0 → a3 = -((-a2) / (100 : Int))) (h4 : a4 = a0 + (-1) ∨ a0 + (-1) < -2147483648 ∨ 2147483648 ≤ a0 + (-1)) (h5 : a5 = a4 + (-1) ∨ a4 + (-1) < -2147483648 ∨ 2147483648 ≤ a4 + (-1)) (h6 : -2147483648 ≤ a0 ∧ a0 < 2147483648) : (a3 ≤ -1000 → a1 + 4 ≤ a5) := by omega
theorem z_J6_getChars_ba4f3_43 (a0 : Int) (a1 : Int) (a2 : Int) (a3 : Int) (a4 : Int) (a5 : Int) (a6 : Nat) (h0 : 1 ≤ a0 ∧ a0 ≤ ((a6 : Nat) : Int)) (h1 : (a2 ≤ -1000000 → a1 + 7 ≤ a0)) (h2 : ¬ ((-100 : Int) < a2)) (h3 : a2 ≤ 0 → a3 = -((-a2) / (100 : Int))) (h4 : a4 = a0 + (-1) ∨ a0 + (-1) < -2147483648 ∨ 2147483648 ≤ a0 + (-1)) (h5 : a5 = a4 + (-1) ∨ a4 + (-1) < -2147483648 ∨ 2147483648 ≤ a4 + (-1)) (h6 : -2147483648 ≤ a0 ∧ a0 < 2147483648) : (a3 ≤ -10000 → a1 + 5 ≤ a5) := by omega
theorem z_J6_getChars_ba4f3_44 (a0 : Int) (a1 : Int) (a2 : Int) (a3 : Int) (a4 : Int) (a5 : Int) (a6 : Nat) (h0 : 1 ≤ a0 ∧ a0 ≤ ((a6 : Nat) : Int)) (h1 : (a2 ≤ -10000000 → a1 + 8 ≤ a0)) (h2 : ¬ ((-100 : Int) < a2)) (h3 : a2 ≤ 0 → a3 = -((-a2) / (100 : Int))) (h4 : a4 = a0 + (-1) ∨ a0 + (-1) < -2147483648 ∨ 2147483648 ≤ a0 + (-1)) (h5 : a5 = a4 + (-1) ∨ a4 + (-1) < -2147483648 ∨ 2147483648 ≤ a4 + (-1)) (h6 : -2147483648 ≤ a0 ∧ a0 < 2147483648) : (a3 ≤ -100000 → a1 + 6 ≤ a5) := by omega
theorem z_J6_getChars_ba4f3_45 (a0 : Int) (a1 : Int) (a2 : Int) (a3 : Int) (a4 : Int) (a5 : Int) (a6 : Nat) (h0 : 1 ≤ a0 ∧ a0 ≤ ((a6 : Nat) : Int)) (h1 : (a2 ≤ -100000000 → a1 + 9 ≤ a0)) (h2 : ¬ ((-100 : Int) < a2)) (h3 : a2 ≤ 0 → a3 = -((-a2) / (100 : Int))) (h4 : a4 = a0 + (-1) ∨ a0 + (-1) < -2147483648 ∨ 2147483648 ≤ a0 + (-1)) (h5 : a5 = a4 + (-1) ∨ a4 + (-1) < -2147483648 ∨ 2147483648 ≤ a4 + (-1)) (h6 : -2147483648 ≤ a0 ∧ a0 < 2147483648) : (a3 ≤ -1000000 → a1 + 7 ≤ a5) := by omega
theorem z_J6_getChars_ba4f3_46 (a0 : Int) (a1 : Int) (a2 : Int) (a3 : Int) (a4 : Int) (a5 : Int) (a6 : Nat) (h0 : 1 ≤ a0 ∧ a0 ≤ ((a6 : Nat) : Int)) (h1 : (a2 ≤ -1000000000 → a1 + 10 ≤ a0)) (h2 : ¬ ((-100 : Int) < a2)) (h3 : a2 ≤ 0 → a3 = -((-a2) / (100 : Int))) (h4 : a4 = a0 + (-1) ∨ a0 + (-1) < -2147483648 ∨ 2147483648 ≤ a0 + (-1)) (h5 : a5 = a4 + (-1) ∨ a4 + (-1) < -2147483648 ∨ 2147483648 ≤ a4 + (-1)) (h6 : -2147483648 ≤ a0 ∧ a0 < 2147483648) : (a3 ≤ -10000000 → a1 + 8 ≤ a5) := by omega
theorem z_J6_getChars_ba4f3_47 (a0 : Int) (a1 : Int) (a2 : Int) (a3 : Int) (h0 : ¬ ((-100 : Int) < a1)) (h1 : a1 ≤ 0 → a2 = -((-a1) / (100 : Int))) (h2 : -2147483648 ≤ a1 ∧ a1 < 2147483648) : (a2 ≤ -100000000 → a0 + 9 ≤ a3) := by omega
theorem z_J6_getChars_ba4f3_48 (a0 : Int) (a1 : Int) (a2 : Int) (a3 : Int) (h0 : ¬ ((-100 : Int) < a1)) (h1 : a1 ≤ 0 → a2 = -((-a1) / (100 : Int))) (h2 : -2147483648 ≤ a1 ∧ a1 < 2147483648) : (a2 ≤ -1000000000 → a0 + 10 ≤ a3) := by omega
theorem z_J6_getChars_ba4f3_49 (a0 : Int) (h0 : -2147483648 ≤ a0 ∧ a0 < 2147483648) : -a0 < ((4294967297 : Nat) : Int) := by omega
theorem z_J6_getChars_ba4f3_50 (a0 : Int) (a1 : Int) (a2 : Int) (h0 : a0 < 0 → 2 ≤ a1) (h1 : (a0 < 0 ∧ a2 = 1) ∨ (0 ≤ a0 ∧ a2 = 0)) (h2 : a2 ≠ 0) : (a2 = 0 ∨ a2 = 1) ∧ a0 ≤ 0 ∧ a2 + 1 ≤ a1 ∧ a1 ≤ a1 := by omega
theorem z_J6_getChars_ba4f3_51 (a0 : Int) (a1 : Int) (a2 : Int) (h0 : (a0 ≤ -10 → 3 ≤ a1) ∧ (10 ≤ a0 → 2 ≤ a1)) (h1 : (a0 < 0 ∧ a2 = 1) ∨ (0 ≤ a0 ∧ a2 = 0)) : (a0 ≤ -10 → a2 + 2 ≤ a1) := by omega
theorem z_J6_getChars_ba4f3_52 (a0 : Int) (a1 : Int) (a2 : Int) (h0 : (a0 ≤ -100 → 4 ≤ a1) ∧ (100 ≤ a0 → 3 ≤ a1)) (h1 : (a0 < 0 ∧ a2 = 1) ∨ (0 ≤ a0 ∧ a2 = 0)) : (a0 ≤ -100 → a2 + 3 ≤ a1) := by omega
theorem z_J6_getChars_ba4f3_53 (a0 : Int) (a1 : Int) (a2 : Int) (h0 : (a0 ≤ -1000 → 5 ≤ a1) ∧ (1000 ≤ a0 → 4 ≤ a1)) (h1 : (a0 < 0 ∧ a2 = 1) ∨ (0 ≤ a0 ∧ a2 = 0)) : (a0 ≤ -1000 → a2 + 4 ≤ a1) := by omega
theorem z_J6_getChars_ba4f3_54 (a0 : Int) (a1 : Int) (a2 : Int) (h0 : (a0 ≤ -10000 → 6 ≤ a1) ∧ (10000 ≤ a0 → 5 ≤ a1)) (h1 : (a0 < 0 ∧ a2 = 1) ∨ (0 ≤ a0 ∧ a2 = 0)) : (a0 ≤ -10000 → a2 + 5 ≤ a1) := by omega
theorem z_J6_getChars_ba4f3_55 (a0 : Int) (a1 : Int) (a2 : Int) (h0 : (a0 ≤ -100000 → 7 ≤ a1) ∧ (100000 ≤ a0 → 6 ≤ a1)) (h1 : (a0 < 0 ∧ a2 = 1) ∨ (0 ≤ a0 ∧ a2 = 0)) : (a0 ≤ -100000 → a2 + 6 ≤ a1) := by omega
theorem z_J6_getChars_ba4f3_56 (a0 : Int) (a1 : Int) (a2 : Int) (h0 : (a0 ≤ -1000000 → 8 ≤ a1) ∧ (1000000 ≤ a0 → 7 ≤ a1)) (h1 : (a0 < 0 ∧ a2 = 1) ∨ (0 ≤ a0 ∧ a2 = 0)) : (a0 ≤ -1000000 → a2 + 7 ≤ a1) := by omega
theorem z_J6_getChars_ba4f3_57 (a0 : Int) (a1 : Int) (a2 : Int) (h0 : (a0 ≤ -10000000 → 9 ≤ a1) ∧ (10000000 ≤ a0 → 8 ≤ a1)) (h1 : (a0 < 0 ∧ a2 = 1) ∨ (0 ≤ a0 ∧ a2 = 0)) : (a0 ≤ -10000000 → a2 + 8 ≤ a1) := by omega
theorem z_J6_getChars_ba4f3_58 (a0 : Int) (a1 : Int) (a2 : Int) (h0 : (a0 ≤ -100000000 → 10 ≤ a1) ∧ (100000000 ≤ a0 → 9 ≤ a1)) (h1 : (a0 < 0 ∧ a2 = 1) ∨ (0 ≤ a0 ∧ a2 = 0)) : (a0 ≤ -100000000 → a2 + 9 ≤ a1) := by omega
theorem z_J6_getChars_ba4f3_59 (a0 : Int) (a1 : Int) (a2 : Int) (h0 : (a0 ≤ -1000000000 → 11 ≤ a1) ∧ (1000000000 ≤ a0 → 10 ≤ a1)) (h1 : (a0 < 0 ∧ a2 = 1) ∨ (0 ≤ a0 ∧ a2 = 0)) : (a0 ≤ -1000000000 → a2 + 10 ≤ a1) := by omega
theorem z_J6_getChars_ba4f3_60 (a0 : Int) (a1 : Int) (a2 : Int) (a3 : Int) (a4 : Nat) (h0 : 1 ≤ a1 ∧ a1 ≤ ((a4 : Nat) : Int)) (h1 : (a0 < 0 ∧ a2 = 1) ∨ (0 ≤ a0 ∧ a2 = 0)) (h2 : ¬ (a2 ≠ 0)) (h3 : a3 = -a0 ∨ -a0 < -2147483648 ∨ 2147483648 ≤ -a0) (h4 : -2147483648 ≤ a0 ∧ a0 < 2147483648) : (a2 = 0 ∨ a2 = 1) ∧ a3 ≤ 0 ∧ a2 + 1 ≤ a1 ∧ a1 ≤ a1 := by omega
theorem z_J6_getChars_ba4f3_61 (a0 : Int) (a1 : Int) (a2 : Int) (a3 : Int) (h0 : (a0 ≤ -10 → 3 ≤ a1) ∧ (10 ≤ a0 → 2 ≤ a1)) (h1 : ¬ (a2 ≠ 0)) (h2 : a3 = -a0 ∨ -a0 < -2147483648 ∨ 2147483648 ≤ -a0) : (a3 ≤ -10 → a2 + 2 ≤ a1) := by omega
theorem z_J6_getChars_ba4f3_62 (a0 : Int) (a1 : Int) (a2 : Int) (a3 : Int) (h0 : (a0 ≤ -100 → 4 ≤ a1) ∧ (100 ≤ a0 → 3 ≤ a1)) (h1 : ¬ (a2 ≠ 0)) (h2 : a3 = -a0 ∨ -a0 < -2147483648 ∨ 2147483648 ≤ -a0) : (a3 ≤ -100 → a2 + 3 ≤ a1) := by omega
theorem z_J6_getChars_ba4f3_63 (a0 : Int) (a1 : Int) (a2 : Int) (a3 : Int) (h0 : (a0 ≤ -1000 → 5 ≤ a1) ∧ (1000 ≤ a0 → 4 ≤ a1)) (h1 : ¬ (a2 ≠ 0)) (h2 : a3 = -a0 ∨ -a0 < -2147483648 ∨ 2147483648 ≤ -a0) : (a3 ≤ -1000 → a2 + 4 ≤ a1) := by omega
theorem z_J6_getChars_ba4f3_64 (a0 : Int) (a1 : Int) (a2 : Int) (a3 : Int) (h0 : (a0 ≤ -10000 → 6 ≤ a1) ∧ (10000 ≤ a0 → 5 ≤ a1)) (h1 : ¬ (a2 ≠ 0)) (h2 : a3 = -a0 ∨ -a0 < -2147483648 ∨ 2147483648 ≤ -a0) : (a3 ≤ -10000 → a2 + 5 ≤ a1) := by omega
theorem z_J6_getChars_ba4f3_65 (a0 : Int) (a1 : Int) (a2 : Int) (a3 : Int) (h0 : (a0 ≤ -100000 → 7 ≤ a1) ∧ (100000 ≤ a0 → 6 ≤ a1)) (h1 : ¬ (a2 ≠ 0)) (h2 : a3 = -a0 ∨ -a0 < -2147483648 ∨ 2147483648 ≤ -a0) : (a3 ≤ -100000 → a2 + 6 ≤ a1) := by omega
theorem z_J6_getChars_ba4f3_66 (a0 : Int) (a1 : Int) (a2 : Int) (a3 : Int) (h0 : (a0 ≤ -1000000 → 8 ≤ a1) ∧ (1000000 ≤ a0 → 7 ≤ a1)) (h1 : ¬ (a2 ≠ 0)) (h2 : a3 = -a0 ∨ -a0 < -2147483648 ∨ 2147483648 ≤ -a0) : (a3 ≤ -1000000 → a2 + 7 ≤ a1) := by omega
theorem z_J6_getChars_ba4f3_67 (a0 : Int) (a1 : Int) (a2 : Int) (a3 : Int) (h0 : (a0 ≤ -10000000 → 9 ≤ a1) ∧ (10000000 ≤ a0 → 8 ≤ a1)) (h1 : ¬ (a2 ≠ 0)) (h2 : a3 = -a0 ∨ -a0 < -2147483648 ∨ 2147483648 ≤ -a0) : (a3 ≤ -10000000 → a2 + 8 ≤ a1) := by omega
theorem z_J6_getChars_ba4f3_68 (a0 : Int) (a1 : Int) (a2 : Int) (a3 : Int) (h0 : (a0 ≤ -100000000 → 10 ≤ a1) ∧ (100000000 ≤ a0 → 9 ≤ a1)) (h1 : ¬ (a2 ≠ 0)) (h2 : a3 = -a0 ∨ -a0 < -2147483648 ∨ 2147483648 ≤ -a0) : (a3 ≤ -100000000 → a2 + 9 ≤ a1) := by omega
theorem z_J6_getChars_ba4f3_69 (a0 : Int) (a1 : Int) (a2 : Int) (a3 : Int) (h0 : (a0 ≤ -1000000000 → 11 ≤ a1) ∧ (1000000000 ≤ a0 → 10 ≤ a1)) (h1 : ¬ (a2 ≠ 0)) (h2 : a3 = -a0 ∨ -a0 < -2147483648 ∨ 2147483648 ≤ -a0) : (a3 ≤ -1000000000 → a2 + 10 ≤ a1) := by omega
theorem z_J6_getChars_ba4f3_70 (a0 : Int) (h0 : 0 ≤ a0) : (a0 < 0 ∧ (0 : Int) = 1) ∨ (0 ≤ a0 ∧ (0 : Int) = 0) := by omega
theorem z_J6_getChars_ba4f3_71 (a0 : Int) (h0 : ¬ (0 ≤ a0)) : (a0 < 0 ∧ (1 : Int) = 1) ∨ (0 ≤ a0 ∧ (1 : Int) = 0) := by omega
abbrev rm_J6_getChars_ba4f3 : Room := { frames := 0, cells := 0, slots := 0, locals := 0 }
set_option maxHeartbeats 4000000 in
set_option maxRecDepth 100000 in
theorem c_J6_getChars_ba4f3 (l : Launch) (E : XE) (K : Nat → Nat) (F : Nat → Nat → Nat) (G : XG) (v n : Nat) (cnt : Int32) (p0 : Int32) (p1 : Int32) (e1 : 1 ≤ p1.toInt ∧ p1.toInt ≤ (((n) : Nat) : Int)) (e2 : p0.toInt < 0 → 2 ≤ p1.toInt) (pg1 : (p0.toInt ≤ -10 → 3 ≤ p1.toInt) ∧ (10 ≤ p0.toInt → 2 ≤ p1.toInt)) (pg2 : (p0.toInt ≤ -100 → 4 ≤ p1.toInt) ∧ (100 ≤ p0.toInt → 3 ≤ p1.toInt)) (pg3 : (p0.toInt ≤ -1000 → 5 ≤ p1.toInt) ∧ (1000 ≤ p0.toInt → 4 ≤ p1.toInt)) (pg4 : (p0.toInt ≤ -10000 → 6 ≤ p1.toInt) ∧ (10000 ≤ p0.toInt → 5 ≤ p1.toInt)) (pg5 : (p0.toInt ≤ -100000 → 7 ≤ p1.toInt) ∧ (100000 ≤ p0.toInt → 6 ≤ p1.toInt)) (pg6 : (p0.toInt ≤ -1000000 → 8 ≤ p1.toInt) ∧ (1000000 ≤ p0.toInt → 7 ≤ p1.toInt)) (pg7 : (p0.toInt ≤ -10000000 → 9 ≤ p1.toInt) ∧ (10000000 ≤ p0.toInt → 8 ≤ p1.toInt)) (pg8 : (p0.toInt ≤ -100000000 → 10 ≤ p1.toInt) ∧ (100000000 ≤ p0.toInt → 9 ≤ p1.toInt)) (pg9 : (p0.toInt ≤ -1000000000 → 11 ≤ p1.toInt) ∧ (1000000000 ≤ p0.toInt → 10 ≤ p1.toInt)) : Met l yJ6_getChars_ba4f3 (xw yJ6_getChars_ba4f3 cJ6_getChars_ba4f3 7 (some .int)) rm_J6_getChars_ba4f3 (va_Pc [.int p0, .int p1, .ref v] (XPb E K F G v n cnt)) (XQ E (fun v (u : Nat × Nat × Int32) => (∃ r : Int32, v = .int r) ∧ u.2.2.toInt = cnt.toInt ∧ ((u.2.1 : Nat) : Int) = ((n : Nat) : Int)) (fun u H => TWb E K F G u.1 u.2.1 u.2.2 H)) 0 0 (xA E) := by
  refine x_enter (by decide) (Nat.le_of_ble_eq_true rfl) ?_
  intro p e s m args below meth c Q S hr hlk hnm hQ hP ls hl
  obtain ⟨hz, hK, hT⟩ := hP
  obtain ⟨hx, hb, -, -, -⟩ := id S
  obtain ⟨H, hT, hS, hgo⟩ : ∃ H : Heap, TWb E K F G v n cnt H ∧ va_S (xA E) s.heap H [] ∧ H = s.heap := ⟨_, hT, va_S.rf, rfl⟩
  rw [← hgo]
  have hl : lv_has ls 7 [(0, .int p0), (1, .int p1), (2, .ref v)] := hl
  have e9 := hT.inv
  refine lv_iload_n hx hb dJ6_getChars_ba4f3_0 rfl (lv_at hl 1 rfl) ?_
  refine lv_istore (lv' := [(5, .int p1), (0, .int p0), (1, .int p1), (2, .ref v)]) hx hb dJ6_getChars_ba4f3_1 hl (by decide) rfl (fun ls hl => ?_)
  refine lv_iload_n hx hb dJ6_getChars_ba4f3_3 rfl (lv_at hl 1 rfl) ?_
  have J12 : ∀ (x1 : Int32) (H : Heap) (locs : List Loc) (ls : Array Slot), (p0.toInt < 0 ∧ x1.toInt = 1) ∨ (0 ≤ p0.toInt ∧ x1.toInt = 0) → TWb E K F G v n cnt H → va_S (xA E) s.heap H locs → lv_has ls 7 [(0, .int p0), (2, .ref v), (5, .int p1)] → W p l e rm_J6_getChars_ba4f3 s m args below meth c H locs 0 0 Q (F0 m 12 ls [.int x1]) := by
    intro x1 H locs ls hf2 hT hS hl
    refine lv_istore (lv' := [(6, .int x1), (0, .int p0), (2, .ref v), (5, .int p1)]) hx hb dJ6_getChars_ba4f3_12 hl (by decide) rfl (fun ls hl => ?_)
    refine lv_iload hx hb dJ6_getChars_ba4f3_14 (lv_at hl 0 rfl) ?_
    have J22 : ∀ (x3 : Int32) (H : Heap) (locs : List Loc) (ls : Array Slot), (x1.toInt = 0 ∨ x1.toInt = 1) ∧ x3.toInt ≤ 0 ∧ x1.toInt + 1 ≤ p1.toInt ∧ p1.toInt ≤ p1.toInt → ((x3.toInt ≤ -10 → x1.toInt + 2 ≤ p1.toInt)) → ((x3.toInt ≤ -100 → x1.toInt + 3 ≤ p1.toInt)) → ((x3.toInt ≤ -1000 → x1.toInt + 4 ≤ p1.toInt)) → ((x3.toInt ≤ -10000 → x1.toInt + 5 ≤ p1.toInt)) → ((x3.toInt ≤ -100000 → x1.toInt + 6 ≤ p1.toInt)) → ((x3.toInt ≤ -1000000 → x1.toInt + 7 ≤ p1.toInt)) → ((x3.toInt ≤ -10000000 → x1.toInt + 8 ≤ p1.toInt)) → ((x3.toInt ≤ -100000000 → x1.toInt + 9 ≤ p1.toInt)) → ((x3.toInt ≤ -1000000000 → x1.toInt + 10 ≤ p1.toInt)) → TWb E K F G v n cnt H → va_S (xA E) s.heap H locs → lv_has ls 7 [(0, .int x3), (2, .ref v), (5, .int p1), (6, .int x1)] → W p l e rm_J6_getChars_ba4f3 s m args below meth c H locs 0 0 Q (F0 m 22 ls []) := by
      intro x3 H locs ls hf4 hf5 hf6 hf7 hf8 hf9 hf10 hf11 hf12 hf13 hT hS hl
      refine lv_iload_n hx hb dJ6_getChars_ba4f3_22 rfl (lv_at hl 0 rfl) ?_
      refine lv_bipush (v := (-100)) hx hb dJ6_getChars_ba4f3_23 (by decide) ?_
      refine xi_cgt (tgt := 72) hx hb (rfl : Int32.toInt x3 = x3.toInt) ((by decide) : Int32.toInt (-100) = (-100 : Int)) dJ6_getChars_ba4f3_25 (by decide) (fun c14 => ?_) (fun c14 => ?_)
      · refine lv_aload_n hx hb dJ6_getChars_ba4f3_72 rfl (lv_at hl 1 rfl) ?_
        refine xi_iinc (n := (-1)) (lv' := fun z9 => [(5, .int z9), (0, .int x3), (2, .ref v), (6, .int x1)]) (k := 2) hx hb (rfl : Int32.toInt p1 = p1.toInt) (by decide) dJ6_getChars_ba4f3_73 hl rfl (by decide) (fun _ => rfl) (fun x15 ls t16 hl => ?_)
        have hl : lv_has ls 7 [(5, .int x15), (0, .int x3), (2, .ref v), (6, .int x1)] := hl
        refine lv_iload hx hb dJ6_getChars_ba4f3_76 (lv_at hl 0 rfl) ?_
        obtain ⟨q17, f18, hz19, hz20⟩ := hK.2.2.2.2.2.2.2.2.2
        refine va_gets hx hb hz19 hS S.2.2.2.1 (S.2.2.2.2 _ (List.mem_cons_of_mem _ kf_J6_83)) (fun _ h => h) dJ6_getChars_ba4f3_78 ?_
        refine lv_iload_n hx hb dJ6_getChars_ba4f3_81 rfl (lv_at hl 1 rfl) ?_
        refine xi_ineg hx hb (rfl : Int32.toInt x3 = x3.toInt) dJ6_getChars_ba4f3_82 (fun x21 t22 => ?_)
        refine va_tb hx hb hz20 hS (vp_in_iff.mpr (z_J6_getChars_ba4f3_1 p1.toInt x1.toInt x21.toInt x3.toInt hf4 c14 t22)) rfl dJ6_getChars_ba4f3_83 (lv_topi (fun x23 _ => ?_))
        refine sb_st S hK hT hS (z_J6_getChars_ba4f3_2 p1.toInt x15.toInt n e1 t16 (xr p1)) dJ6_getChars_ba4f3_84 (fun H locs hT hS => ?_)
        refine lv_iload_n hx hb dJ6_getChars_ba4f3_85 rfl (lv_at hl 1 rfl) ?_
        refine lv_bipush (v := (-9)) hx hb dJ6_getChars_ba4f3_86 (by decide) ?_
        have J104 : ∀ (x24 : Int32) (H : Heap) (locs : List Loc) (ls : Array Slot), x1.toInt ≤ x24.toInt ∧ x24.toInt ≤ p1.toInt ∧ (x1.toInt = 0 ∨ x1.toInt = 1) → TWb E K F G v n cnt H → va_S (xA E) s.heap H locs → lv_has ls 7 [(2, .ref v), (5, .int x24), (6, .int x1)] → W p l e rm_J6_getChars_ba4f3 s m args below meth c H locs 0 0 Q (F0 m 104 ls []) := by
          intro x24 H locs ls hf25 hT hS hl
          refine lv_iload hx hb dJ6_getChars_ba4f3_104 (lv_at hl 2 rfl) ?_
          refine xi_zeq (tgt := 118) hx hb (rfl : Int32.toInt x1 = x1.toInt) dJ6_getChars_ba4f3_106 (by decide) (fun c26 => ?_) (fun c26 => ?_)
          · refine lv_iload hx hb dJ6_getChars_ba4f3_118 (lv_at hl 1 rfl) ?_
            exact x_ri hx hb hr hlk hQ (Nat.le_of_ble_eq_true rfl) (Nat.le_of_ble_eq_true rfl) hS dJ6_getChars_ba4f3_120 (v, n, cnt) ⟨⟨_, rfl⟩, (z_J6_getChars_ba4f3_3 cnt.toInt n)⟩ hT
          · refine lv_aload_n hx hb dJ6_getChars_ba4f3_109 rfl (lv_at hl 0 rfl) ?_
            refine xi_iinc (n := (-1)) (lv' := fun z9 => [(5, .int z9), (2, .ref v), (6, .int x1)]) (k := 1) hx hb (rfl : Int32.toInt x24 = x24.toInt) (by decide) dJ6_getChars_ba4f3_110 hl rfl (by decide) (fun _ => rfl) (fun x27 ls t28 hl => ?_)
            have hl : lv_has ls 7 [(5, .int x27), (2, .ref v), (6, .int x1)] := hl
            refine lv_iload hx hb dJ6_getChars_ba4f3_113 (lv_at hl 0 rfl) ?_
            refine lv_bipush (v := 45) hx hb dJ6_getChars_ba4f3_115 (by decide) ?_
            refine sb_st S hK hT hS (z_J6_getChars_ba4f3_4 p1.toInt x1.toInt x24.toInt x27.toInt n e1 hf25 c26 t28 (xr x24)) dJ6_getChars_ba4f3_117 (fun H locs hT hS => ?_)
            refine lv_iload hx hb dJ6_getChars_ba4f3_118 (lv_at hl 0 rfl) ?_
            exact x_ri hx hb hr hlk hQ (Nat.le_of_ble_eq_true rfl) (Nat.le_of_ble_eq_true rfl) hS dJ6_getChars_ba4f3_120 (v, n, cnt) ⟨⟨_, rfl⟩, (z_J6_getChars_ba4f3_3 cnt.toInt n)⟩ hT
        refine xi_cge (tgt := 104) hx hb (rfl : Int32.toInt x3 = x3.toInt) ((by decide) : Int32.toInt (-9) = (-9 : Int)) dJ6_getChars_ba4f3_88 (by decide) (fun c29 => ?_) (fun c29 => ?_)
        · exact J104 x15 _ _ _ (z_J6_getChars_ba4f3_6 p1.toInt x1.toInt x15.toInt x3.toInt hf4 t16 (xr p1)) hT hS (lv_sub hl [2, 0, 3] rfl)
        · refine lv_aload_n hx hb dJ6_getChars_ba4f3_91 rfl (lv_at hl 2 rfl) ?_
          refine xi_iinc (n := (-1)) (lv' := fun z9 => [(5, .int z9), (0, .int x3), (2, .ref v), (6, .int x1)]) (k := 0) hx hb (rfl : Int32.toInt x15 = x15.toInt) (by decide) dJ6_getChars_ba4f3_92 hl rfl (by decide) (fun _ => rfl) (fun x30 ls t31 hl => ?_)
          have hl : lv_has ls 7 [(5, .int x30), (0, .int x3), (2, .ref v), (6, .int x1)] := hl
          refine lv_iload hx hb dJ6_getChars_ba4f3_95 (lv_at hl 0 rfl) ?_
          obtain ⟨q32, f33, hz34, hz35⟩ := hK.2.2.2.2.2.2.2.2.1
          refine va_gets hx hb hz34 hS S.2.2.2.1 (S.2.2.2.2 _ (List.mem_cons_of_mem _ kf_J6_87)) (fun _ h => h) dJ6_getChars_ba4f3_97 ?_
          refine lv_iload_n hx hb dJ6_getChars_ba4f3_100 rfl (lv_at hl 1 rfl) ?_
          refine xi_ineg hx hb (rfl : Int32.toInt x3 = x3.toInt) dJ6_getChars_ba4f3_101 (fun x36 t37 => ?_)
          refine va_tb hx hb hz35 hS (vp_in_iff.mpr (z_J6_getChars_ba4f3_7 x3.toInt x36.toInt c14 c29 t37)) rfl dJ6_getChars_ba4f3_102 (lv_topi (fun x38 _ => ?_))
          refine sb_st S hK hT hS (z_J6_getChars_ba4f3_8 p0.toInt p1.toInt x1.toInt x15.toInt x3.toInt x30.toInt n e1 hf2 hf5 t16 c29 t31 (xr p1)) dJ6_getChars_ba4f3_103 (fun H locs hT hS => ?_)
          exact J104 x30 _ _ _ (z_J6_getChars_ba4f3_9 p0.toInt p1.toInt x1.toInt x15.toInt x3.toInt x30.toInt hf2 hf5 t16 c29 t31 (xr p1)) hT hS (lv_sub hl [2, 0, 3] rfl)
      · refine lv_iload_n hx hb dJ6_getChars_ba4f3_28 rfl (lv_at hl 0 rfl) ?_
        refine lv_bipush (v := 100) hx hb dJ6_getChars_ba4f3_29 (by decide) ?_
        refine xi_idivn hx hb (rfl : Int32.toInt x3 = x3.toInt) ((by decide) : Int32.toInt 100 = (100 : Int)) (by decide) dJ6_getChars_ba4f3_31 (fun x39 t40 => ?_)
        refine lv_istore_n (lv' := [(3, .int x39), (0, .int x3), (2, .ref v), (5, .int p1), (6, .int x1)]) hx hb dJ6_getChars_ba4f3_32 rfl hl (by decide) rfl (fun ls hl => ?_)
        refine lv_iload_n hx hb dJ6_getChars_ba4f3_33 rfl (lv_at hl 0 rfl) ?_
        refine lv_bipush (v := 100) hx hb dJ6_getChars_ba4f3_34 (by decide) ?_
        refine xi_imul hx hb (rfl : Int32.toInt x39 = x39.toInt) ((by decide) : Int32.toInt 100 = (100 : Int)) dJ6_getChars_ba4f3_36 (fun x41 t42 => ?_)
        refine lv_iload_n hx hb dJ6_getChars_ba4f3_37 rfl (lv_at hl 1 rfl) ?_
        refine xi_isub hx hb (rfl : Int32.toInt x41 = x41.toInt) (rfl : Int32.toInt x3 = x3.toInt) dJ6_getChars_ba4f3_38 (fun x43 t44 => ?_)
        refine lv_istore (lv' := [(4, .int x43), (3, .int x39), (0, .int x3), (2, .ref v), (5, .int p1), (6, .int x1)]) hx hb dJ6_getChars_ba4f3_39 hl (by decide) rfl (fun ls hl => ?_)
        refine lv_iload_n hx hb dJ6_getChars_ba4f3_41 rfl (lv_at hl 1 rfl) ?_
        refine lv_istore_n (lv' := [(0, .int x39), (4, .int x43), (3, .int x39), (2, .ref v), (5, .int p1), (6, .int x1)]) hx hb dJ6_getChars_ba4f3_42 rfl hl (by decide) rfl (fun ls hl => ?_)
        refine lv_aload_n hx hb dJ6_getChars_ba4f3_43 rfl (lv_at hl 3 rfl) ?_
        refine xi_iinc (n := (-1)) (lv' := fun z9 => [(5, .int z9), (0, .int x39), (4, .int x43), (3, .int x39), (2, .ref v), (6, .int x1)]) (k := 4) hx hb (rfl : Int32.toInt p1 = p1.toInt) (by decide) dJ6_getChars_ba4f3_44 hl rfl (by decide) (fun _ => rfl) (fun x45 ls t46 hl => ?_)
        have hl : lv_has ls 7 [(5, .int x45), (0, .int x39), (4, .int x43), (3, .int x39), (2, .ref v), (6, .int x1)] := hl
        refine lv_iload hx hb dJ6_getChars_ba4f3_47 (lv_at hl 0 rfl) ?_
        obtain ⟨q47, f48, hz49, hz50⟩ := hK.2.2.2.2.2.2.2.2.2
        refine va_gets hx hb hz49 hS S.2.2.2.1 (S.2.2.2.2 _ (List.mem_cons_of_mem _ kf_J6_83)) (fun _ h => h) dJ6_getChars_ba4f3_49 ?_
        refine lv_iload hx hb dJ6_getChars_ba4f3_52 (lv_at hl 2 rfl) ?_
        refine va_tb hx hb hz50 hS (vp_in_iff.mpr (z_J6_getChars_ba4f3_10 x3.toInt x39.toInt x41.toInt x43.toInt c14 t40 t42 t44 (xr x3))) rfl dJ6_getChars_ba4f3_54 (lv_topi (fun x51 _ => ?_))
        refine sb_st S hK hT hS (z_J6_getChars_ba4f3_2 p1.toInt x45.toInt n e1 t46 (xr p1)) dJ6_getChars_ba4f3_55 (fun H locs hT hS => ?_)
        refine lv_aload_n hx hb dJ6_getChars_ba4f3_56 rfl (lv_at hl 4 rfl) ?_
        refine xi_iinc (n := (-1)) (lv' := fun z9 => [(5, .int z9), (0, .int x39), (4, .int x43), (3, .int x39), (2, .ref v), (6, .int x1)]) (k := 0) hx hb (rfl : Int32.toInt x45 = x45.toInt) (by decide) dJ6_getChars_ba4f3_57 hl rfl (by decide) (fun _ => rfl) (fun x52 ls t53 hl => ?_)
        have hl : lv_has ls 7 [(5, .int x52), (0, .int x39), (4, .int x43), (3, .int x39), (2, .ref v), (6, .int x1)] := hl
        refine lv_iload hx hb dJ6_getChars_ba4f3_60 (lv_at hl 0 rfl) ?_
        obtain ⟨q54, f55, hz56, hz57⟩ := hK.2.2.2.2.2.2.2.2.1
        refine va_gets hx hb hz56 hS S.2.2.2.1 (S.2.2.2.2 _ (List.mem_cons_of_mem _ kf_J6_87)) (fun _ h => h) dJ6_getChars_ba4f3_62 ?_
        refine lv_iload hx hb dJ6_getChars_ba4f3_65 (lv_at hl 2 rfl) ?_
        refine va_tb hx hb hz57 hS (vp_in_iff.mpr (z_J6_getChars_ba4f3_10 x3.toInt x39.toInt x41.toInt x43.toInt c14 t40 t42 t44 (xr x3))) rfl dJ6_getChars_ba4f3_67 (lv_topi (fun x58 _ => ?_))
        refine sb_st S hK hT hS (z_J6_getChars_ba4f3_13 p0.toInt p1.toInt x1.toInt x3.toInt x45.toInt x52.toInt n e1 hf2 hf6 c14 t46 t53 (xr p1)) dJ6_getChars_ba4f3_68 (fun H locs hT hS => ?_)
        refine lv_goto (tgt := 22) hx hb dJ6_getChars_ba4f3_69 (by decide) ?_
        have L22 : ∀ (N61 : Nat) (x59 : Int32) (x60 : Int32) (H : Heap) (locs : List Loc) (ls : Array Slot), (x1.toInt = 0 ∨ x1.toInt = 1) ∧ x59.toInt ≤ 0 ∧ x1.toInt + 1 ≤ x60.toInt ∧ x60.toInt ≤ p1.toInt → ((x59.toInt ≤ -10 → x1.toInt + 2 ≤ x60.toInt)) → ((x59.toInt ≤ -100 → x1.toInt + 3 ≤ x60.toInt)) → ((x59.toInt ≤ -1000 → x1.toInt + 4 ≤ x60.toInt)) → ((x59.toInt ≤ -10000 → x1.toInt + 5 ≤ x60.toInt)) → ((x59.toInt ≤ -100000 → x1.toInt + 6 ≤ x60.toInt)) → ((x59.toInt ≤ -1000000 → x1.toInt + 7 ≤ x60.toInt)) → ((x59.toInt ≤ -10000000 → x1.toInt + 8 ≤ x60.toInt)) → ((x59.toInt ≤ -100000000 → x1.toInt + 9 ≤ x60.toInt)) → ((x59.toInt ≤ -1000000000 → x1.toInt + 10 ≤ x60.toInt)) → -x59.toInt < ((N61 : Nat) : Int) → TWb E K F G v n cnt H → va_S (xA E) s.heap H locs → lv_has ls 7 [(0, .int x59), (2, .ref v), (5, .int x60), (6, .int x1)] → W p l e rm_J6_getChars_ba4f3 s m args below meth c H locs 0 0 Q (F0 m 22 ls []) := by
          intro N61
          induction N61 with
          | zero =>
            intro x59 x60 H locs ls hf62 hf63 hf64 hf65 hf66 hf67 hf68 hf69 hf70 hf71 hm72
            exact absurd hm72 (z_J6_getChars_ba4f3_14 p1.toInt x1.toInt x59.toInt x60.toInt hf62)
          | succ N61 ih73 =>
            intro x59 x60 H locs ls hf62 hf63 hf64 hf65 hf66 hf67 hf68 hf69 hf70 hf71 hm72 hT hS hl
            refine lv_iload_n hx hb dJ6_getChars_ba4f3_22 rfl (lv_at hl 0 rfl) ?_
            refine lv_bipush (v := (-100)) hx hb dJ6_getChars_ba4f3_23 (by decide) ?_
            refine xi_cgt (tgt := 72) hx hb (rfl : Int32.toInt x59 = x59.toInt) ((by decide) : Int32.toInt (-100) = (-100 : Int)) dJ6_getChars_ba4f3_25 (by decide) (fun c74 => ?_) (fun c74 => ?_)
            · refine lv_aload_n hx hb dJ6_getChars_ba4f3_72 rfl (lv_at hl 1 rfl) ?_
              refine xi_iinc (n := (-1)) (lv' := fun z9 => [(5, .int z9), (0, .int x59), (2, .ref v), (6, .int x1)]) (k := 2) hx hb (rfl : Int32.toInt x60 = x60.toInt) (by decide) dJ6_getChars_ba4f3_73 hl rfl (by decide) (fun _ => rfl) (fun x75 ls t76 hl => ?_)
              have hl : lv_has ls 7 [(5, .int x75), (0, .int x59), (2, .ref v), (6, .int x1)] := hl
              refine lv_iload hx hb dJ6_getChars_ba4f3_76 (lv_at hl 0 rfl) ?_
              obtain ⟨q77, f78, hz79, hz80⟩ := hK.2.2.2.2.2.2.2.2.2
              refine va_gets hx hb hz79 hS S.2.2.2.1 (S.2.2.2.2 _ (List.mem_cons_of_mem _ kf_J6_83)) (fun _ h => h) dJ6_getChars_ba4f3_78 ?_
              refine lv_iload_n hx hb dJ6_getChars_ba4f3_81 rfl (lv_at hl 1 rfl) ?_
              refine xi_ineg hx hb (rfl : Int32.toInt x59 = x59.toInt) dJ6_getChars_ba4f3_82 (fun x81 t82 => ?_)
              refine va_tb hx hb hz80 hS (vp_in_iff.mpr (z_J6_getChars_ba4f3_15 p1.toInt x1.toInt x59.toInt x60.toInt x81.toInt hf62 c74 t82)) rfl dJ6_getChars_ba4f3_83 (lv_topi (fun x83 _ => ?_))
              refine sb_st S hK hT hS (z_J6_getChars_ba4f3_16 p1.toInt x1.toInt x59.toInt x60.toInt x75.toInt n e1 hf62 t76 (xr x60)) dJ6_getChars_ba4f3_84 (fun H locs hT hS => ?_)
              refine lv_iload_n hx hb dJ6_getChars_ba4f3_85 rfl (lv_at hl 1 rfl) ?_
              refine lv_bipush (v := (-9)) hx hb dJ6_getChars_ba4f3_86 (by decide) ?_
              have J104 : ∀ (x84 : Int32) (H : Heap) (locs : List Loc) (ls : Array Slot), x1.toInt ≤ x84.toInt ∧ x84.toInt ≤ p1.toInt ∧ (x1.toInt = 0 ∨ x1.toInt = 1) → TWb E K F G v n cnt H → va_S (xA E) s.heap H locs → lv_has ls 7 [(2, .ref v), (5, .int x84), (6, .int x1)] → W p l e rm_J6_getChars_ba4f3 s m args below meth c H locs 0 0 Q (F0 m 104 ls []) := by
                intro x84 H locs ls hf85 hT hS hl
                refine lv_iload hx hb dJ6_getChars_ba4f3_104 (lv_at hl 2 rfl) ?_
                refine xi_zeq (tgt := 118) hx hb (rfl : Int32.toInt x1 = x1.toInt) dJ6_getChars_ba4f3_106 (by decide) (fun c86 => ?_) (fun c86 => ?_)
                · refine lv_iload hx hb dJ6_getChars_ba4f3_118 (lv_at hl 1 rfl) ?_
                  exact x_ri hx hb hr hlk hQ (Nat.le_of_ble_eq_true rfl) (Nat.le_of_ble_eq_true rfl) hS dJ6_getChars_ba4f3_120 (v, n, cnt) ⟨⟨_, rfl⟩, (z_J6_getChars_ba4f3_3 cnt.toInt n)⟩ hT
                · refine lv_aload_n hx hb dJ6_getChars_ba4f3_109 rfl (lv_at hl 0 rfl) ?_
                  refine xi_iinc (n := (-1)) (lv' := fun z9 => [(5, .int z9), (2, .ref v), (6, .int x1)]) (k := 1) hx hb (rfl : Int32.toInt x84 = x84.toInt) (by decide) dJ6_getChars_ba4f3_110 hl rfl (by decide) (fun _ => rfl) (fun x87 ls t88 hl => ?_)
                  have hl : lv_has ls 7 [(5, .int x87), (2, .ref v), (6, .int x1)] := hl
                  refine lv_iload hx hb dJ6_getChars_ba4f3_113 (lv_at hl 0 rfl) ?_
                  refine lv_bipush (v := 45) hx hb dJ6_getChars_ba4f3_115 (by decide) ?_
                  refine sb_st S hK hT hS (z_J6_getChars_ba4f3_4 p1.toInt x1.toInt x84.toInt x87.toInt n e1 hf85 c86 t88 (xr x84)) dJ6_getChars_ba4f3_117 (fun H locs hT hS => ?_)
                  refine lv_iload hx hb dJ6_getChars_ba4f3_118 (lv_at hl 0 rfl) ?_
                  exact x_ri hx hb hr hlk hQ (Nat.le_of_ble_eq_true rfl) (Nat.le_of_ble_eq_true rfl) hS dJ6_getChars_ba4f3_120 (v, n, cnt) ⟨⟨_, rfl⟩, (z_J6_getChars_ba4f3_3 cnt.toInt n)⟩ hT
              refine xi_cge (tgt := 104) hx hb (rfl : Int32.toInt x59 = x59.toInt) ((by decide) : Int32.toInt (-9) = (-9 : Int)) dJ6_getChars_ba4f3_88 (by decide) (fun c89 => ?_) (fun c89 => ?_)
              · exact J104 x75 _ _ _ (z_J6_getChars_ba4f3_20 p1.toInt x1.toInt x59.toInt x60.toInt x75.toInt hf62 t76 (xr x60)) hT hS (lv_sub hl [2, 0, 3] rfl)
              · refine lv_aload_n hx hb dJ6_getChars_ba4f3_91 rfl (lv_at hl 2 rfl) ?_
                refine xi_iinc (n := (-1)) (lv' := fun z9 => [(5, .int z9), (0, .int x59), (2, .ref v), (6, .int x1)]) (k := 0) hx hb (rfl : Int32.toInt x75 = x75.toInt) (by decide) dJ6_getChars_ba4f3_92 hl rfl (by decide) (fun _ => rfl) (fun x90 ls t91 hl => ?_)
                have hl : lv_has ls 7 [(5, .int x90), (0, .int x59), (2, .ref v), (6, .int x1)] := hl
                refine lv_iload hx hb dJ6_getChars_ba4f3_95 (lv_at hl 0 rfl) ?_
                obtain ⟨q92, f93, hz94, hz95⟩ := hK.2.2.2.2.2.2.2.2.1
                refine va_gets hx hb hz94 hS S.2.2.2.1 (S.2.2.2.2 _ (List.mem_cons_of_mem _ kf_J6_87)) (fun _ h => h) dJ6_getChars_ba4f3_97 ?_
                refine lv_iload_n hx hb dJ6_getChars_ba4f3_100 rfl (lv_at hl 1 rfl) ?_
                refine xi_ineg hx hb (rfl : Int32.toInt x59 = x59.toInt) dJ6_getChars_ba4f3_101 (fun x96 t97 => ?_)
                refine va_tb hx hb hz95 hS (vp_in_iff.mpr (z_J6_getChars_ba4f3_7 x59.toInt x96.toInt c74 c89 t97)) rfl dJ6_getChars_ba4f3_102 (lv_topi (fun x98 _ => ?_))
                refine sb_st S hK hT hS (z_J6_getChars_ba4f3_22 p1.toInt x1.toInt x59.toInt x60.toInt x75.toInt x90.toInt n e1 hf62 hf63 t76 c89 t91 (xr x60)) dJ6_getChars_ba4f3_103 (fun H locs hT hS => ?_)
                exact J104 x90 _ _ _ (z_J6_getChars_ba4f3_23 p1.toInt x1.toInt x59.toInt x60.toInt x75.toInt x90.toInt hf62 hf63 t76 c89 t91 (xr x60)) hT hS (lv_sub hl [2, 0, 3] rfl)
            · refine lv_iload_n hx hb dJ6_getChars_ba4f3_28 rfl (lv_at hl 0 rfl) ?_
              refine lv_bipush (v := 100) hx hb dJ6_getChars_ba4f3_29 (by decide) ?_
              refine xi_idivn hx hb (rfl : Int32.toInt x59 = x59.toInt) ((by decide) : Int32.toInt 100 = (100 : Int)) (by decide) dJ6_getChars_ba4f3_31 (fun x99 t100 => ?_)
              refine lv_istore_n (lv' := [(3, .int x99), (0, .int x59), (2, .ref v), (5, .int x60), (6, .int x1)]) hx hb dJ6_getChars_ba4f3_32 rfl hl (by decide) rfl (fun ls hl => ?_)
              refine lv_iload_n hx hb dJ6_getChars_ba4f3_33 rfl (lv_at hl 0 rfl) ?_
              refine lv_bipush (v := 100) hx hb dJ6_getChars_ba4f3_34 (by decide) ?_
              refine xi_imul hx hb (rfl : Int32.toInt x99 = x99.toInt) ((by decide) : Int32.toInt 100 = (100 : Int)) dJ6_getChars_ba4f3_36 (fun x101 t102 => ?_)
              refine lv_iload_n hx hb dJ6_getChars_ba4f3_37 rfl (lv_at hl 1 rfl) ?_
              refine xi_isub hx hb (rfl : Int32.toInt x101 = x101.toInt) (rfl : Int32.toInt x59 = x59.toInt) dJ6_getChars_ba4f3_38 (fun x103 t104 => ?_)
              refine lv_istore (lv' := [(4, .int x103), (3, .int x99), (0, .int x59), (2, .ref v), (5, .int x60), (6, .int x1)]) hx hb dJ6_getChars_ba4f3_39 hl (by decide) rfl (fun ls hl => ?_)
              refine lv_iload_n hx hb dJ6_getChars_ba4f3_41 rfl (lv_at hl 1 rfl) ?_
              refine lv_istore_n (lv' := [(0, .int x99), (4, .int x103), (3, .int x99), (2, .ref v), (5, .int x60), (6, .int x1)]) hx hb dJ6_getChars_ba4f3_42 rfl hl (by decide) rfl (fun ls hl => ?_)
              refine lv_aload_n hx hb dJ6_getChars_ba4f3_43 rfl (lv_at hl 3 rfl) ?_
              refine xi_iinc (n := (-1)) (lv' := fun z9 => [(5, .int z9), (0, .int x99), (4, .int x103), (3, .int x99), (2, .ref v), (6, .int x1)]) (k := 4) hx hb (rfl : Int32.toInt x60 = x60.toInt) (by decide) dJ6_getChars_ba4f3_44 hl rfl (by decide) (fun _ => rfl) (fun x105 ls t106 hl => ?_)
              have hl : lv_has ls 7 [(5, .int x105), (0, .int x99), (4, .int x103), (3, .int x99), (2, .ref v), (6, .int x1)] := hl
              refine lv_iload hx hb dJ6_getChars_ba4f3_47 (lv_at hl 0 rfl) ?_
              obtain ⟨q107, f108, hz109, hz110⟩ := hK.2.2.2.2.2.2.2.2.2
              refine va_gets hx hb hz109 hS S.2.2.2.1 (S.2.2.2.2 _ (List.mem_cons_of_mem _ kf_J6_83)) (fun _ h => h) dJ6_getChars_ba4f3_49 ?_
              refine lv_iload hx hb dJ6_getChars_ba4f3_52 (lv_at hl 2 rfl) ?_
              refine va_tb hx hb hz110 hS (vp_in_iff.mpr (z_J6_getChars_ba4f3_24 x101.toInt x103.toInt x59.toInt x99.toInt c74 t100 t102 t104 (xr x59))) rfl dJ6_getChars_ba4f3_54 (lv_topi (fun x111 _ => ?_))
              refine sb_st S hK hT hS (z_J6_getChars_ba4f3_25 p1.toInt x1.toInt x105.toInt x59.toInt x60.toInt n e1 hf62 t106 (xr x60)) dJ6_getChars_ba4f3_55 (fun H locs hT hS => ?_)
              refine lv_aload_n hx hb dJ6_getChars_ba4f3_56 rfl (lv_at hl 4 rfl) ?_
              refine xi_iinc (n := (-1)) (lv' := fun z9 => [(5, .int z9), (0, .int x99), (4, .int x103), (3, .int x99), (2, .ref v), (6, .int x1)]) (k := 0) hx hb (rfl : Int32.toInt x105 = x105.toInt) (by decide) dJ6_getChars_ba4f3_57 hl rfl (by decide) (fun _ => rfl) (fun x112 ls t113 hl => ?_)
              have hl : lv_has ls 7 [(5, .int x112), (0, .int x99), (4, .int x103), (3, .int x99), (2, .ref v), (6, .int x1)] := hl
              refine lv_iload hx hb dJ6_getChars_ba4f3_60 (lv_at hl 0 rfl) ?_
              obtain ⟨q114, f115, hz116, hz117⟩ := hK.2.2.2.2.2.2.2.2.1
              refine va_gets hx hb hz116 hS S.2.2.2.1 (S.2.2.2.2 _ (List.mem_cons_of_mem _ kf_J6_87)) (fun _ h => h) dJ6_getChars_ba4f3_62 ?_
              refine lv_iload hx hb dJ6_getChars_ba4f3_65 (lv_at hl 2 rfl) ?_
              refine va_tb hx hb hz117 hS (vp_in_iff.mpr (z_J6_getChars_ba4f3_24 x101.toInt x103.toInt x59.toInt x99.toInt c74 t100 t102 t104 (xr x59))) rfl dJ6_getChars_ba4f3_67 (lv_topi (fun x118 _ => ?_))
              refine sb_st S hK hT hS (z_J6_getChars_ba4f3_27 p1.toInt x1.toInt x105.toInt x112.toInt x59.toInt x60.toInt n e1 hf62 hf64 c74 t106 t113 (xr x60)) dJ6_getChars_ba4f3_68 (fun H locs hT hS => ?_)
              refine lv_goto (tgt := 22) hx hb dJ6_getChars_ba4f3_69 (by decide) ?_
              exact ih73 x99 x112 _ _ _ (z_J6_getChars_ba4f3_28 p1.toInt x1.toInt x105.toInt x112.toInt x59.toInt x60.toInt x99.toInt hf62 hf64 c74 t100 t106 t113 (xr x60)) (z_J6_getChars_ba4f3_29 x1.toInt x105.toInt x112.toInt x59.toInt x60.toInt x99.toInt hf65 c74 t100 t106 t113 (xr x1) (xr x60)) (z_J6_getChars_ba4f3_30 x1.toInt x105.toInt x112.toInt x59.toInt x60.toInt x99.toInt hf66 c74 t100 t106 t113 (xr x1) (xr x60)) (z_J6_getChars_ba4f3_31 x1.toInt x105.toInt x112.toInt x59.toInt x60.toInt x99.toInt hf67 c74 t100 t106 t113 (xr x1) (xr x60)) (z_J6_getChars_ba4f3_32 x1.toInt x105.toInt x112.toInt x59.toInt x60.toInt x99.toInt hf68 c74 t100 t106 t113 (xr x1) (xr x60)) (z_J6_getChars_ba4f3_33 x1.toInt x105.toInt x112.toInt x59.toInt x60.toInt x99.toInt hf69 c74 t100 t106 t113 (xr x1) (xr x60)) (z_J6_getChars_ba4f3_34 x1.toInt x105.toInt x112.toInt x59.toInt x60.toInt x99.toInt hf70 c74 t100 t106 t113 (xr x1) (xr x60)) (z_J6_getChars_ba4f3_35 x1.toInt x105.toInt x112.toInt x59.toInt x60.toInt x99.toInt hf71 c74 t100 t106 t113 (xr x1) (xr x60)) (z_J6_getChars_ba4f3_36 x1.toInt x112.toInt x59.toInt x99.toInt c74 t100 (xr x59)) (z_J6_getChars_ba4f3_37 x1.toInt x112.toInt x59.toInt x99.toInt c74 t100 (xr x59)) (z_J6_getChars_ba4f3_38 x59.toInt x99.toInt N61 hm72 c74 t100) hT hS (lv_sub hl [1, 4, 0, 5] rfl)
        exact L22 4294967297 x39 x52 _ _ _ (z_J6_getChars_ba4f3_39 p0.toInt p1.toInt x1.toInt x3.toInt x39.toInt x45.toInt x52.toInt hf2 hf6 c14 t40 t46 t53 (xr p1)) (z_J6_getChars_ba4f3_40 p1.toInt x1.toInt x3.toInt x39.toInt x45.toInt x52.toInt n e1 hf7 c14 t40 t46 t53 (xr p1)) (z_J6_getChars_ba4f3_41 p1.toInt x1.toInt x3.toInt x39.toInt x45.toInt x52.toInt n e1 hf8 c14 t40 t46 t53 (xr p1)) (z_J6_getChars_ba4f3_42 p1.toInt x1.toInt x3.toInt x39.toInt x45.toInt x52.toInt n e1 hf9 c14 t40 t46 t53 (xr p1)) (z_J6_getChars_ba4f3_43 p1.toInt x1.toInt x3.toInt x39.toInt x45.toInt x52.toInt n e1 hf10 c14 t40 t46 t53 (xr p1)) (z_J6_getChars_ba4f3_44 p1.toInt x1.toInt x3.toInt x39.toInt x45.toInt x52.toInt n e1 hf11 c14 t40 t46 t53 (xr p1)) (z_J6_getChars_ba4f3_45 p1.toInt x1.toInt x3.toInt x39.toInt x45.toInt x52.toInt n e1 hf12 c14 t40 t46 t53 (xr p1)) (z_J6_getChars_ba4f3_46 p1.toInt x1.toInt x3.toInt x39.toInt x45.toInt x52.toInt n e1 hf13 c14 t40 t46 t53 (xr p1)) (z_J6_getChars_ba4f3_47 x1.toInt x3.toInt x39.toInt x52.toInt c14 t40 (xr x3)) (z_J6_getChars_ba4f3_48 x1.toInt x3.toInt x39.toInt x52.toInt c14 t40 (xr x3)) (z_J6_getChars_ba4f3_49 x39.toInt (xr x39)) hT hS (lv_sub hl [1, 4, 0, 5] rfl)
    refine xi_zne (tgt := 22) hx hb (rfl : Int32.toInt x1 = x1.toInt) dJ6_getChars_ba4f3_16 (by decide) (fun c119 => ?_) (fun c119 => ?_)
    · exact J22 p0 _ _ _ (z_J6_getChars_ba4f3_50 p0.toInt p1.toInt x1.toInt e2 hf2 c119) (z_J6_getChars_ba4f3_51 p0.toInt p1.toInt x1.toInt pg1 hf2) (z_J6_getChars_ba4f3_52 p0.toInt p1.toInt x1.toInt pg2 hf2) (z_J6_getChars_ba4f3_53 p0.toInt p1.toInt x1.toInt pg3 hf2) (z_J6_getChars_ba4f3_54 p0.toInt p1.toInt x1.toInt pg4 hf2) (z_J6_getChars_ba4f3_55 p0.toInt p1.toInt x1.toInt pg5 hf2) (z_J6_getChars_ba4f3_56 p0.toInt p1.toInt x1.toInt pg6 hf2) (z_J6_getChars_ba4f3_57 p0.toInt p1.toInt x1.toInt pg7 hf2) (z_J6_getChars_ba4f3_58 p0.toInt p1.toInt x1.toInt pg8 hf2) (z_J6_getChars_ba4f3_59 p0.toInt p1.toInt x1.toInt pg9 hf2) hT hS (lv_sub hl [1, 2, 3, 0] rfl)
    · refine lv_iload_n hx hb dJ6_getChars_ba4f3_19 rfl (lv_at hl 1 rfl) ?_
      refine xi_ineg hx hb (rfl : Int32.toInt p0 = p0.toInt) dJ6_getChars_ba4f3_20 (fun x120 t121 => ?_)
      refine lv_istore_n (lv' := [(0, .int x120), (6, .int x1), (2, .ref v), (5, .int p1)]) hx hb dJ6_getChars_ba4f3_21 rfl hl (by decide) rfl (fun ls hl => ?_)
      exact J22 x120 _ _ _ (z_J6_getChars_ba4f3_60 p0.toInt p1.toInt x1.toInt x120.toInt n e1 hf2 c119 t121 (xr p0)) (z_J6_getChars_ba4f3_61 p0.toInt p1.toInt x1.toInt x120.toInt pg1 c119 t121) (z_J6_getChars_ba4f3_62 p0.toInt p1.toInt x1.toInt x120.toInt pg2 c119 t121) (z_J6_getChars_ba4f3_63 p0.toInt p1.toInt x1.toInt x120.toInt pg3 c119 t121) (z_J6_getChars_ba4f3_64 p0.toInt p1.toInt x1.toInt x120.toInt pg4 c119 t121) (z_J6_getChars_ba4f3_65 p0.toInt p1.toInt x1.toInt x120.toInt pg5 c119 t121) (z_J6_getChars_ba4f3_66 p0.toInt p1.toInt x1.toInt x120.toInt pg6 c119 t121) (z_J6_getChars_ba4f3_67 p0.toInt p1.toInt x1.toInt x120.toInt pg7 c119 t121) (z_J6_getChars_ba4f3_68 p0.toInt p1.toInt x1.toInt x120.toInt pg8 c119 t121) (z_J6_getChars_ba4f3_69 p0.toInt p1.toInt x1.toInt x120.toInt pg9 c119 t121) hT hS (lv_sub hl [0, 2, 3, 1] rfl)
  refine xi_zge (tgt := 11) hx hb (rfl : Int32.toInt p0 = p0.toInt) dJ6_getChars_ba4f3_4 (by decide) (fun c122 => ?_) (fun c122 => ?_)
  · refine lv_iconst (v := 0) hx hb dJ6_getChars_ba4f3_11 (by decide) ?_
    exact J12 0 _ _ _ (z_J6_getChars_ba4f3_70 p0.toInt c122) hT hS (lv_sub hl [1, 3, 0] rfl)
  · refine lv_iconst (v := 1) hx hb dJ6_getChars_ba4f3_7 (by decide) ?_
    refine lv_goto (tgt := 12) hx hb dJ6_getChars_ba4f3_8 (by decide) ?_
    exact J12 1 _ _ _ (z_J6_getChars_ba4f3_71 p0.toInt c122) hT hS (lv_sub hl [1, 3, 0] rfl)
end
