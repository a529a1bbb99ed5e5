theorem k_selL : Cond.selects RJ4 yJ5_isLatin1_aae02 yJ5_isLatin1_aae02 ∈ GT := GT_mem 470 (by decide +kernel) rfl
theorem k_sup : Cond.superclass RJ4 RJ5 ∈ GT := GT_mem 324 (by decide +kernel) rfl
theorem sb_selp {y z : MethodName} {C : String} {s : State} {args : Array Value} (hy : y.cls ≠ "java/lang/invoke/MethodHandle" ∧ y.cls ≠ "java/lang/invoke/VarHandle") (hcls : z.cls = y.cls) (hz : (Cond.selects C z z).before args s = true) (hpriv : (Cond.privateMethod y).before args s = true) (hinst : (Cond.instanceMethod y).before args s = true) : (Cond.selects C y y).before args s = true := by
  obtain ⟨c, r, m, hc, -, hm, -, k, hk, hni⟩ := Cond.selects_spec hz
  obtain ⟨mk, methM, hnamed, hmethM, -, -⟩ := Cond.instanceMethod_spec hinst
  have hfound : s.methodFound? y.cls y.name y.desc = some mk := State.methodFound?_of_named hnamed hy
  have h1 := findClass_of_methodNamed hm
  rw [hcls, findClass_of_methodNamed hnamed] at h1
  have h2 : mk.cls = m.cls := Option.some.inj h1
  have hsel : selectMethod {} s.vm c mk = .method mk := selectMethod_private hmethM (Cond.privateMethod_at hpriv mk methM hnamed hmethM)
  rw [← h2] at hk
  simp only [Cond.before, Cond.holds, Cond.value, hc, hfound, hnamed, hsel, hk]
  simp; exact hni
/-- what a caller needs of a method of the class above -/
def xcU (y : MethodName) (bytes : ByteArray) (maxL : Nat) (ret : Option FieldType) (n : Nat) : Prop := (Cond.code y bytes maxL ret ∈ GT ∧ Cond.instanceMethod y ∈ GT ∧ Cond.sameMethod y.cls y.cls y.name y.desc ∈ GT ∧ Cond.initialized y.cls ∈ GT) ∧ y.cls ≠ "java/lang/invoke/MethodHandle" ∧ y.cls ≠ "java/lang/invoke/VarHandle" ∧ (parseMethodDescriptor y.desc).map (fun d => d.parameters.length) = some n
set_option maxRecDepth 100000 in
theorem mu_J5_appendNull_278bc : xcU yJ5_appendNull_278bc cJ5_appendNull_278bc 3 (some (.object "java/lang/AbstractStringBuilder")) 0 := ⟨⟨GT_mem 806 rfl rfl, GT_mem 805 (by decide +kernel) rfl, GT_mem 1940 (by decide +kernel) rfl, GT_mem 101 (by decide +kernel) rfl⟩, by decide +kernel⟩
set_option maxRecDepth 100000 in
theorem mw_J5_appendNull_278bc : xcV yJ5_appendNull_278bc RJ4 cJ5_appendNull_278bc 3 (some (.object "java/lang/AbstractStringBuilder")) 0 := ⟨⟨mu_J5_appendNull_278bc.1.1, mu_J5_appendNull_278bc.1.2.1, GT_sb (List.mem_of_getElem? (i := 0) rfl), mu_J5_appendNull_278bc.1.2.2.2⟩, mu_J5_appendNull_278bc.2⟩
theorem mp_J5_appendNull_278bc : Cond.privateMethod yJ5_appendNull_278bc ∈ lw_tbl ∧ Cond.instanceMethod yJ5_appendNull_278bc ∈ lw_tbl := ⟨List.mem_of_getElem? (i := 804) (by decide +kernel), List.mem_of_getElem? (i := 805) (by decide +kernel)⟩
set_option maxRecDepth 100000 in
theorem mu_J5_append_3fe6f : xcU yJ5_append_3fe6f cJ5_append_3fe6f 2 (some (.object "java/lang/AbstractStringBuilder")) 1 := ⟨⟨GT_mem 888 rfl rfl, GT_mem 887 (by decide +kernel) rfl, GT_mem 1945 (by decide +kernel) rfl, GT_mem 101 (by decide +kernel) rfl⟩, by decide +kernel⟩
set_option maxRecDepth 100000 in
theorem mu_J5_append_c97b9 : xcU yJ5_append_c97b9 cJ5_append_c97b9 4 (some (.object "java/lang/AbstractStringBuilder")) 1 := ⟨⟨GT_mem 863 rfl rfl, GT_mem 862 (by decide +kernel) rfl, GT_mem 1944 (by decide +kernel) rfl, GT_mem 101 (by decide +kernel) rfl⟩, by decide +kernel⟩
set_option maxRecDepth 100000 in
theorem mu_J5_append_cf1ce : xcU yJ5_append_cf1ce cJ5_append_cf1ce 3 (some (.object "java/lang/AbstractStringBuilder")) 1 := ⟨⟨GT_mem 802 rfl rfl, GT_mem 801 (by decide +kernel) rfl, GT_mem 1939 (by decide +kernel) rfl, GT_mem 101 (by decide +kernel) rfl⟩, by decide +kernel⟩
set_option maxRecDepth 100000 in
theorem mu_J5_charAt_5068e : xcU yJ5_charAt_5068e cJ5_charAt_5068e 5 (some .char) 1 := ⟨⟨GT_mem 1235 rfl rfl, GT_mem 1234 (by decide +kernel) rfl, GT_mem 1947 (by decide +kernel) rfl, GT_mem 101 (by decide +kernel) rfl⟩, by decide +kernel⟩
set_option maxRecDepth 100000 in
theorem mu_J5_ensureCapacityInternal_d00df : xcU yJ5_ensureCapacityInternal_d00df cJ5_ensureCapacityInternal_d00df 3 none 1 := ⟨⟨GT_mem 435 rfl rfl, GT_mem 434 (by decide +kernel) rfl, GT_mem 1937 (by decide +kernel) rfl, GT_mem 101 (by decide +kernel) rfl⟩, by decide +kernel⟩
set_option maxRecDepth 100000 in
theorem mw_J5_ensureCapacityInternal_d00df : xcV yJ5_ensureCapacityInternal_d00df RJ4 cJ5_ensureCapacityInternal_d00df 3 none 1 := ⟨⟨mu_J5_ensureCapacityInternal_d00df.1.1, mu_J5_ensureCapacityInternal_d00df.1.2.1, GT_sb (List.mem_of_getElem? (i := 1) rfl), mu_J5_ensureCapacityInternal_d00df.1.2.2.2⟩, mu_J5_ensureCapacityInternal_d00df.2⟩
theorem mp_J5_ensureCapacityInternal_d00df : Cond.privateMethod yJ5_ensureCapacityInternal_d00df ∈ lw_tbl ∧ Cond.instanceMethod yJ5_ensureCapacityInternal_d00df ∈ lw_tbl := ⟨List.mem_of_getElem? (i := 433) (by decide +kernel), List.mem_of_getElem? (i := 434) (by decide +kernel)⟩
set_option maxRecDepth 100000 in
theorem mu_J5_inflateIfNeededFor_a7421 : xcU yJ5_inflateIfNeededFor_a7421 cJ5_inflateIfNeededFor_a7421 2 none 1 := ⟨⟨GT_mem 830 rfl rfl, GT_mem 829 (by decide +kernel) rfl, GT_mem 1942 (by decide +kernel) rfl, GT_mem 101 (by decide +kernel) rfl⟩, by decide +kernel⟩
set_option maxRecDepth 100000 in
theorem mw_J5_inflateIfNeededFor_a7421 : xcV yJ5_inflateIfNeededFor_a7421 RJ4 cJ5_inflateIfNeededFor_a7421 2 none 1 := ⟨⟨mu_J5_inflateIfNeededFor_a7421.1.1, mu_J5_inflateIfNeededFor_a7421.1.2.1, GT_sb (List.mem_of_getElem? (i := 2) rfl), mu_J5_inflateIfNeededFor_a7421.1.2.2.2⟩, mu_J5_inflateIfNeededFor_a7421.2⟩
theorem mp_J5_inflateIfNeededFor_a7421 : Cond.privateMethod yJ5_inflateIfNeededFor_a7421 ∈ lw_tbl ∧ Cond.instanceMethod yJ5_inflateIfNeededFor_a7421 ∈ lw_tbl := ⟨List.mem_of_getElem? (i := 828) (by decide +kernel), List.mem_of_getElem? (i := 829) (by decide +kernel)⟩
set_option maxRecDepth 100000 in
theorem mu_J5_inflate_da8c8 : xcU yJ5_inflate_da8c8 cJ5_inflate_da8c8 2 none 0 := ⟨⟨GT_mem 835 rfl rfl, GT_mem 834 (by decide +kernel) rfl, GT_mem 1943 (by decide +kernel) rfl, GT_mem 101 (by decide +kernel) rfl⟩, by decide +kernel⟩
set_option maxRecDepth 100000 in
theorem mw_J5_inflate_da8c8 : xcV yJ5_inflate_da8c8 RJ4 cJ5_inflate_da8c8 2 none 0 := ⟨⟨mu_J5_inflate_da8c8.1.1, mu_J5_inflate_da8c8.1.2.1, GT_sb (List.mem_of_getElem? (i := 3) rfl), mu_J5_inflate_da8c8.1.2.2.2⟩, mu_J5_inflate_da8c8.2⟩
theorem mp_J5_inflate_da8c8 : Cond.privateMethod yJ5_inflate_da8c8 ∈ lw_tbl ∧ Cond.instanceMethod yJ5_inflate_da8c8 ∈ lw_tbl := ⟨List.mem_of_getElem? (i := 833) (by decide +kernel), List.mem_of_getElem? (i := 834) (by decide +kernel)⟩
set_option maxRecDepth 100000 in
theorem mu_J5_isLatin1_aae02 : xcU yJ5_isLatin1_aae02 cJ5_isLatin1_aae02 1 (some .boolean) 0 := ⟨⟨GT_mem 471 rfl rfl, GT_mem 468 (by decide +kernel) rfl, GT_mem 469 (by decide +kernel) rfl, GT_mem 101 (by decide +kernel) rfl⟩, by decide +kernel⟩
set_option maxRecDepth 100000 in
theorem mw_J5_isLatin1_aae02 : xcV yJ5_isLatin1_aae02 RJ4 cJ5_isLatin1_aae02 1 (some .boolean) 0 := ⟨⟨mu_J5_isLatin1_aae02.1.1, mu_J5_isLatin1_aae02.1.2.1, k_selL, mu_J5_isLatin1_aae02.1.2.2.2⟩, mu_J5_isLatin1_aae02.2⟩
set_option maxRecDepth 100000 in
theorem mu_J5_length_8abf5 : xcU yJ5_length_8abf5 cJ5_length_8abf5 1 (some .int) 0 := ⟨⟨GT_mem 1208 rfl rfl, GT_mem 1207 (by decide +kernel) rfl, GT_mem 1946 (by decide +kernel) rfl, GT_mem 101 (by decide +kernel) rfl⟩, by decide +kernel⟩
set_option maxRecDepth 100000 in
theorem mu_J5_newCapacity_0f7a4 : xcU yJ5_newCapacity_0f7a4 cJ5_newCapacity_0f7a4 6 (some .int) 1 := ⟨⟨GT_mem 439 rfl rfl, GT_mem 438 (by decide +kernel) rfl, GT_mem 1938 (by decide +kernel) rfl, GT_mem 101 (by decide +kernel) rfl⟩, by decide +kernel⟩
set_option maxRecDepth 100000 in
theorem mw_J5_newCapacity_0f7a4 : xcV yJ5_newCapacity_0f7a4 RJ4 cJ5_newCapacity_0f7a4 6 (some .int) 1 := ⟨⟨mu_J5_newCapacity_0f7a4.1.1, mu_J5_newCapacity_0f7a4.1.2.1, GT_sb (List.mem_of_getElem? (i := 4) rfl), mu_J5_newCapacity_0f7a4.1.2.2.2⟩, mu_J5_newCapacity_0f7a4.2⟩
theorem mp_J5_newCapacity_0f7a4 : Cond.privateMethod yJ5_newCapacity_0f7a4 ∈ lw_tbl ∧ Cond.instanceMethod yJ5_newCapacity_0f7a4 ∈ lw_tbl := ⟨List.mem_of_getElem? (i := 437) (by decide +kernel), List.mem_of_getElem? (i := 438) (by decide +kernel)⟩
set_option maxRecDepth 100000 in
theorem mu_J5_putStringAt_47b60 : xcU yJ5_putStringAt_47b60 cJ5_putStringAt_47b60 3 none 2 := ⟨⟨GT_mem 826 rfl rfl, GT_mem 825 (by decide +kernel) rfl, GT_mem 1941 (by decide +kernel) rfl, GT_mem 101 (by decide +kernel) rfl⟩, by decide +kernel⟩
set_option maxRecDepth 100000 in
theorem mw_J5_putStringAt_47b60 : xcV yJ5_putStringAt_47b60 RJ4 cJ5_putStringAt_47b60 3 none 2 := ⟨⟨mu_J5_putStringAt_47b60.1.1, mu_J5_putStringAt_47b60.1.2.1, GT_sb (List.mem_of_getElem? (i := 5) rfl), mu_J5_putStringAt_47b60.1.2.2.2⟩, mu_J5_putStringAt_47b60.2⟩
theorem mp_J5_putStringAt_47b60 : Cond.privateMethod yJ5_putStringAt_47b60 ∈ lw_tbl ∧ Cond.instanceMethod yJ5_putStringAt_47b60 ∈ lw_tbl := ⟨List.mem_of_getElem? (i := 824) (by decide +kernel), List.mem_of_getElem? (i := 825) (by decide +kernel)⟩
set_option maxRecDepth 100000 in
theorem mu_J5_setLength_d00df : xcU yJ5_setLength_d00df cJ5_setLength_d00df 2 none 1 := ⟨⟨GT_mem 431 rfl rfl, GT_mem 430 (by decide +kernel) rfl, GT_mem 1936 (by decide +kernel) rfl, GT_mem 101 (by decide +kernel) rfl⟩, by decide +kernel⟩
theorem GT_hold {args : Array Value} {s : State} (h : ∀ w ∈ lw_tbl, w.before args s = true) : ∀ w ∈ GT, w.before args s = true := by
  intro w hw
  rcases List.mem_append.mp (List.mem_filter.mp hw).1 with h1 | h1
  · exact h w h1
  · have hz : (Cond.selects RJ4 yJ5_isLatin1_aae02 yJ5_isLatin1_aae02).before args s = true := h _ (List.mem_of_getElem? (i := 470) (by decide +kernel))
    obtain ⟨y, hy, rfl⟩ := List.mem_map.mp h1
    have key : ∀ y ∈ sbp, (y.cls ≠ "java/lang/invoke/MethodHandle" ∧ y.cls ≠ "java/lang/invoke/VarHandle") ∧ yJ5_isLatin1_aae02.cls = y.cls ∧ Cond.privateMethod y ∈ lw_tbl ∧ Cond.instanceMethod y ∈ lw_tbl :=
      List.forall_mem_cons.mpr ⟨⟨by decide +kernel, rfl, mp_J5_appendNull_278bc⟩, List.forall_mem_cons.mpr ⟨⟨by decide +kernel, rfl, mp_J5_ensureCapacityInternal_d00df⟩, List.forall_mem_cons.mpr ⟨⟨by decide +kernel, rfl, mp_J5_inflateIfNeededFor_a7421⟩, List.forall_mem_cons.mpr ⟨⟨by decide +kernel, rfl, mp_J5_inflate_da8c8⟩, List.forall_mem_cons.mpr ⟨⟨by decide +kernel, rfl, mp_J5_newCapacity_0f7a4⟩, List.forall_mem_cons.mpr ⟨⟨by decide +kernel, rfl, mp_J5_putStringAt_47b60⟩, fun _ h => absurd h List.not_mem_nil⟩⟩⟩⟩⟩⟩
    obtain ⟨a1, a2, a3, a4⟩ := key y hy
    exact sb_selp a1 a2 hz (h _ a3) (h _ a4)
section XSC
variable {p : Program} {l : Launch} {e : Env} {R : Room} {s : State} {m : MethodId} {args : Array Value} {below : List Frame} {meth : Method} {c : Code} {H : Heap} {locs : List Loc} {cells slots : Nat} {Q : State → Prop}
variable {pc : Nat} {ls : Array Slot} {rest : List Value} {E : XE} {cc : ByteArray} {nL : Nat} {own : String} {w0 : Cond} {K : Nat → Nat} {F : Nat → Nat → Nat} {G : XG} {v n : Nat} {cnt : Int32} {index mc ms np maxL : Nat} {y : MethodName} {bytes : ByteArray} {ret : Option FieldType} {rm : Room} {Qc : Array Value → State → Outcome → State → Prop} {b : Addr} {As : List Value} {P9 : State → Prop}
theorem sb_new (S : CallFix p m c cc nL s args (w0 :: GT) own) (hK : XK E s) (hz : E.2.2.1 ≤ s.heap.size) (hT : TWb E K F G v n cnt H) (hS : va_S (xA E) s.heap H locs) {x : Int32} {N : Nat} (hx : x.toInt = ((N : Nat) : Int)) (hN : N ≤ 100) (hc : cells + 1 ≤ R.cells) (hs : slots + 100 ≤ R.slots) (hdg : decode cc pc = .ok (.newarray .byte, 2)) (kk : ∀ (q : Nat) (H1 : Heap), TWc E K F G v n cnt q N H1 → va_S (xA E) s.heap H1 locs → W p l e R s m args below meth c H1 locs (cells + 1) (slots + 100) Q (F0 m (pc + 2) ls (.ref q :: rest))) : W p l e R s m args below meth c H locs cells slots Q (F0 m pc ls (.int x :: rest)) := by
  obtain ⟨ws, hk, ⟨i, j, f, ml, e1, e2, k1, k2, ho, c1, c2, c3⟩, hP, hD⟩ := hT
  have hx2 := xcl (x := x) (by omega)
  refine va_newa (atype := .byte) (ty := .byte) (N' := N) (a0 := (N, .inl (fun _ => 0))) S.1 S.2.1 (S.2.2.2.2 _ (List.mem_cons_of_mem _ ka_byte)) rfl hK.1 hP hD hS (fun q h => Nat.le_trans hz h) (fun cA => ?_) (xnn (by omega)) (by omega) (by show N * 1 ≤ _; omega) hc (by omega) hdg (fun q cA H1 hK1 hP1 hD1 hS1 => ?_)
  · first | rfl | (rw [vp_cell_i]; rfl)
  · have hq : cA = E.2.1 2 := by
      have h1 := (hK1.2 7 (cA, .byte) rfl).2
      have h2 := (hK.1.2 2 (E.2.1 2, .byte) rfl).2
      exact Option.some.inj (h1.symm.trans h2)
    subst hq
    have up : ∀ (i : Nat) (x : Nat × va_E), ws[i]? = some x → (ws ++ [(q, .inl (E.2.1 2, N, .inl (fun _ => 0)))])[i]? = some x := fun i x h => by rw [List.getElem?_append_left (List.getElem?_eq_some_iff.mp h).1]; exact h
    have ap : ∀ (i : Nat) (x : va_E), ws[i]? = some (q, x) → False := fun i x h => by
      have hl := (List.getElem?_eq_some_iff.mp h).1
      have h2 : (ws ++ [(q, .inl (E.2.1 2, N, .inl (fun _ => 0)))])[ws.length]? = some (q, .inl (E.2.1 2, N, .inl (fun _ => 0))) := by simp
      have := hD1.1 _ _ _ _ (up _ _ h) h2 rfl
      omega
    have hne : q ≠ v := fun z => by subst z; exact ap _ _ e2
    have hkq : K q = 0 := by
      by_cases z : K q = 0
      · exact z
      · obtain ⟨i', x', h1, -⟩ := hk.1 q z
        exact (ap _ _ h1).elim
    exact W.widen (k := cells + 1) (n := slots + 100) (Nat.le_refl _) (by omega) (kk q H1 ⟨_, hk.push, ⟨i, j, f, ml, up _ _ e1, up _ _ e2, k1, k2, ho, c1, c2, c3⟩, ⟨ws.length, fun _ => 0, by simp, hkq, hne, fun _ => rfl⟩, hP1, hD1⟩ hS1)
theorem x_runU (S : CallFix p m c cc nL s args (w0 :: GT) own) (hM : Met l y (xw y bytes maxL ret) rm (va_Pc (.ref b :: As) P9) Qc mc ms (xA E)) (hc : xcU y bytes maxL ret np) (hsel : (Cond.selects RJ4 y y).before args s = true) (hl : Cond.methodLink own index y ∈ GT) (hrc : rm.cells = mc) (hrs : rm.slots = ms) (hR : rm.frames + 1 ≤ R.frames ∧ 8 + (maxL + 11) + rm.locals ≤ R.locals)
    (hb : ∃ cell : Cell, H[b]? = some cell ∧ cell.vm.isStatics = false ∧ s.vm.findClass RJ4 = some cell.cls) (hK : XK E s) (hbl : ∀ av : List Value, FrameBlind (va_Pc av P9)) (hp9 : ∀ U : State, U.heap = H → s.WarmedH U.vm → P9 U)
    (hn : As.length = np) (hsize : ls.size = nL) (hW : (rest.map fun v => v.category).sum ≤ 8) (hdg : decode cc pc = .ok (.invokevirtual index, 3)) (hf : cells + mc ≤ R.cells ∧ slots + ms ≤ R.slots) :
    va_Run p l e R s m args below meth c H locs cells slots mc ms (F0 m pc ls (As.reverse ++ .ref b :: rest)) rest (Qc (Value.ref b :: As).toArray) (xA E) := by
  have hB := x_callB S np hc.1.1 hc.1.2.2.2 hl hrc hrs hc.2 hR
  have hi := S.2.2.2.2 _ (List.mem_cons_of_mem _ hc.1.2.1)
  obtain ⟨b1, b2, b3, b4, b5, b6, b7, b8, b9, b10, b11⟩ := hB
  exact va_runU (C := RJ4) (owner := y.cls) (x := y) S hM ⟨⟨b1, b2, b3, b4, b5, b6⟩, b7, b8, b9, b10, b11, S.2.2.2.2 _ (List.mem_cons_of_mem _ hc.1.2.2.1), va_Decl.of hi b7, hsel, hi⟩ ⟨hbl _, hb, fun U hU hW => ⟨rfl, hp9 U hU hW⟩⟩ rfl hn hsize rfl (lv_room hW) hdg hf
theorem x_runSU {cC : ClassId} (hat : ClassAt s RJ4 cC) (S : CallFix p m c cc nL s args (w0 :: GT) RJ4) (hM : Met l y (xw y bytes maxL ret) rm (va_Pc (.ref b :: As) P9) Qc mc ms (xA E)) (hc : xcU y bytes maxL ret np) (hy : y.cls = RJ5) (hno : y.name ≠ "<init>") (hl : Cond.methodLink RJ4 index y ∈ GT) (hrc : rm.cells = mc) (hrs : rm.slots = ms) (hR : rm.frames + 1 ≤ R.frames ∧ 8 + (maxL + 11) + rm.locals ≤ R.locals)
    (hb : ∃ cell : Cell, H[b]? = some cell ∧ cell.vm.isStatics = false ∧ s.vm.findClass RJ4 = some cell.cls) (hK : XK E s) (hbl : ∀ av : List Value, FrameBlind (va_Pc av P9)) (hp9 : ∀ U : State, U.heap = H → s.WarmedH U.vm → P9 U)
    (hn : As.length = np) (hsize : ls.size = nL) (hW : (rest.map fun v => v.category).sum ≤ 8) (hdg : decode cc pc = .ok (.invokespecial index, 3)) (hf : cells + mc ≤ R.cells ∧ slots + ms ≤ R.slots) :
    va_Run p l e R s m args below meth c H locs cells slots mc ms (F0 m pc ls (As.reverse ++ .ref b :: rest)) rest (Qc (Value.ref b :: As).toArray) (xA E) := by
  have hB := x_callB S np hc.1.1 hc.1.2.2.2 hl hrc hrs hc.2 hR
  have hi := S.2.2.2.2 _ (List.mem_cons_of_mem _ hc.1.2.1)
  have hs := S.2.2.2.2 _ (List.mem_cons_of_mem _ k_sup)
  rw [← hy] at hs
  obtain ⟨b1, b2, b3, b4, b5, b6, b7, b8, b9, b10, b11⟩ := hB
  exact va_runSU (C := RJ4) hat S hM ⟨⟨b1, b2, b3, b4, b5, b6⟩, b11, S.2.2.2.2 _ (List.mem_cons_of_mem _ hc.1.2.2.1), hs, hi, b8, b7, hno, b10⟩ ⟨hbl _, hb, fun U hU hW => ⟨rfl, hp9 U hU hW⟩⟩ rfl hn hsize rfl (lv_room hW) hdg hf
theorem x_atJ4 (hK : XK E s) : ∃ cC : ClassId, ClassAt s RJ4 cC := ⟨_, (hK.1.1 0 (RJ4, TJ4, 4) rfl).2⟩
end XSC
