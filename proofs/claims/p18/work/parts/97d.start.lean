theorem st_m0 : Cond.arrayOf (.static "java/lang/Integer" "DigitOnes" "[B") .byte ∈ flN := List.mem_of_getElem? (i := 10) (by decide +kernel)
theorem st_m1 : Cond.eq (.length (.static "java/lang/Integer" "DigitOnes" "[B")) (.int 100) ∈ flN := List.mem_of_getElem? (i := 11) (by decide +kernel)
theorem st_m2 : Cond.arrayOf (.static "java/lang/Integer" "DigitTens" "[B") .byte ∈ flN := List.mem_of_getElem? (i := 113) (by decide +kernel)
theorem st_m3 : Cond.eq (.length (.static "java/lang/Integer" "DigitTens" "[B")) (.int 100) ∈ flN := List.mem_of_getElem? (i := 114) (by decide +kernel)
theorem st_m4 : Cond.eq (.static "java/lang/String" "COMPACT_STRINGS" "Z") (.int 1) ∈ flN := List.mem_of_getElem? (i := 4) (by decide +kernel)
theorem st_m5 : Cond.isRef (.static "jdk/internal/util/Preconditions" "SIOOBE_FORMATTER" "Ljava/util/function/BiFunction;") ∈ flN := List.mem_of_getElem? (i := 5) (by decide +kernel)
theorem st_m6 : Cond.isRef (.static Bundle.tN "UNASSIGNED_STACK" Bundle.steD) ∈ flN := List.mem_of_getElem? (i := 215) (by decide +kernel)
theorem st_m7 : Cond.isRef (.static Bundle.tN "SUPPRESSED_SENTINEL" Bundle.listD) ∈ flN := List.mem_of_getElem? (i := 216) (by decide +kernel)
theorem st_cls {args : Array Value} {s : State} (hg : ∀ w ∈ GT, w.before args s = true) : ∃ (dC : Nat → ClassId) (dI : Nat → Nat → Nat), ∀ (k : Nat) (q : vw_C), vwCl[k]? = some q → u_Kn s q.1 q.2.1 q.2.2 (dC k) (dI k) := by
  obtain ⟨c0, i0, h0⟩ := u_known (C := RJ4) (T := TJ4) (N := 4) (n := 4) hg inJ4 (hg _ kin_J4.1)
  obtain ⟨c1, i1, h1⟩ := u_known (C := RX0) (T := TX0) (N := 3) (n := 3) hg inX0 (hg _ kin_X0.1)
  obtain ⟨c2, i2, h2⟩ := u_known (C := RX1) (T := TX1) (N := 4) (n := 4) hg inX1 (hg _ kin_X1.1)
  obtain ⟨c3, i3, h3⟩ := u_known (C := RX2) (T := TX2) (N := 5) (n := 5) hg inX2 (hg _ kin_X2.1)
  obtain ⟨c4, i4, h4⟩ := u_known (C := RX3) (T := TX3) (N := 4) (n := 4) hg inX3 (hg _ kin_X3.1)
  obtain ⟨c5, i5, h5⟩ := u_known (C := RX4) (T := TX4) (N := 7) (n := 7) hg inX4 (hg _ kin_X4.1)
  obtain ⟨c6, i6, h6⟩ := u_known (C := RX5) (T := TX5) (N := 6) (n := 6) hg inX5 (hg _ kin_X5.1)
  obtain ⟨c7, i7, h7⟩ := u_known (C := RX6) (T := TX6) (N := 2) (n := 2) hg inX6 (hg _ kin_X6.1)
  obtain ⟨c8, i8, h8⟩ := u_known (C := RX7) (T := TX7) (N := 10) (n := 10) hg inX7 (hg _ kin_X7.1)
  obtain ⟨c9, i9, h9⟩ := u_known (C := RX8) (T := TX8) (N := 2) (n := 2) hg inX8 (hg _ kin_X8.1)
  obtain ⟨c10, i10, h10⟩ := u_known (C := RX9) (T := TX9) (N := 4) (n := 4) hg inX9 (hg _ kin_X9.1)
  obtain ⟨c11, i11, h11⟩ := u_known (C := RX10) (T := TX10) (N := 19) (n := 19) hg inX10 (hg _ kin_X10.1)
  obtain ⟨c12, i12, h12⟩ := u_known (C := RX11) (T := TX11) (N := 52) (n := 52) hg inX11 (hg _ kin_X11.1)
  refine ⟨fun k => [c0, c1, c2, c3, c4, c5, c6, c7, c8, c9, c10, c11, c12].getD k c0, fun k => [i0, i1, i2, i3, i4, i5, i6, i7, i8, i9, i10, i11, i12].getD k i0, ?_⟩
  intro k q hq
  match k, hq with
  | 0, hq => cases hq; exact h0
  | 1, hq => cases hq; exact h1
  | 2, hq => cases hq; exact h2
  | 3, hq => cases hq; exact h3
  | 4, hq => cases hq; exact h4
  | 5, hq => cases hq; exact h5
  | 6, hq => cases hq; exact h6
  | 7, hq => cases hq; exact h7
  | 8, hq => cases hq; exact h8
  | 9, hq => cases hq; exact h9
  | 10, hq => cases hq; exact h10
  | 11, hq => cases hq; exact h11
  | 12, hq => cases hq; exact h12
  | k + 13, hq => simp [vwCl] at hq
theorem st_arr {args : Array Value} {s : State} {ty : FieldType} (h : (Cond.arrayClass ty).before args s = true) (ho : ∀ C, ty ≠ .object C) : ∃ cA : ClassId, ArrOfT s cA ty ∧ va_RA s cA ty := by
  obtain ⟨cA, kA, comp, h1, h2, h3⟩ := Cond.arrayClass_spec h
  refine ⟨cA, fun n z => ⟨fun k h => (by cases h), kA, h2, comp, h3⟩, ?_⟩
  cases ty with
  | object C => exact absurd rfl (ho C)
  | _ => exact h1
theorem st_arq {args : Array Value} {s : State} {C : String} (h : (Cond.arrayOver (.object C)).before args s = true) : ∃ cA : ClassId, ArrOfT s cA (.object C) ∧ va_RA s cA (.object C) := by
  obtain ⟨comp, cA, kA, h1, -, h2, h3, h4⟩ := Cond.arrayOver_spec h
  exact ⟨cA, fun n z => ⟨fun k h => (by cases h), kA, h2, comp, h3⟩, kA, comp, h2, h3, h1, h4⟩
theorem st_XK {s : State} {b : Nat} (hts : ∀ w ∈ lw_tbl, w.before #[Value.ref b] s = true) (hs : ∀ w ∈ flN, w.before #[Value.ref b] s = true) : ∃ E : XE, E.2.2.1 = s.heap.size ∧ XK E s := by
  have hg := GT_hold hts
  have hA : ∀ a : Nat, a < s.heap.size → ¬ (s.heap.size ≤ a) := fun a h => Nat.not_le.mpr h
  obtain ⟨dC, dI, hC⟩ := st_cls hg
  obtain ⟨a0, x0, y0⟩ := st_arr (hg _ ka_int) (fun C h => by cases h)
  obtain ⟨a1, x1, y1⟩ := st_arr (hg _ ka_char) (fun C h => by cases h)
  obtain ⟨a2, x2, y2⟩ := st_arr (hg _ ka_byte) (fun C h => by cases h)
  obtain ⟨a3, x3, y3⟩ := st_arr (hg _ ka_boolean) (fun C h => by cases h)
  obtain ⟨a6, x6, y6⟩ := st_arr (hg _ ka_long) (fun C h => by cases h)
  obtain ⟨a4, x4, y4⟩ := st_arq (C := "LateRules$Rule") (hts _ (List.mem_of_getElem? (i := 173) (by decide +kernel)))
  obtain ⟨a5, x5, y5⟩ := st_arq (C := "LateRules$Rows") (hts _ (List.mem_of_getElem? (i := 198) (by decide +kernel)))
  obtain ⟨adK, adV, hV, hR⟩ := vk_Sof (A := fun q => s.heap.size ≤ q) (tm := tmS) (len := xlen) (byt := xbyt) st_n (fun i hi => hs _ (List.mem_of_getElem? (st_ex i hi))) (fun i hi => hs _ (List.mem_of_getElem? (st_co i hi))) (fun i hi => hs _ (List.mem_of_getElem? (st_ar i hi))) (fun i hi => hs _ (List.mem_of_getElem? (st_le i hi))) (fun i hi j hj => hs _ (List.mem_of_getElem? (st_el i hi j hj))) (fun i j hi hj hn => (st_ne i hi j hj hn).elim (fun h => Or.inl (hs _ h)) (fun h => Or.inr (hs _ h))) hA
  obtain ⟨t1, e1, v1⟩ := va_Tof (f := fun j => .int (Int32.ofNat (48 + j % 10))) (A := fun q => s.heap.size ≤ q) (N := 100) (by decide) (hs _ st_m0) (va_eqt (hs _ st_m1)) (fun j hj => va_eqt (hs _ (List.mem_of_getElem? (st_d1 j hj)))) hA
  obtain ⟨t2, e2, v2⟩ := va_Tof (f := fun j => .int (Int32.ofNat (48 + j / 10))) (A := fun q => s.heap.size ≤ q) (N := 100) (by decide) (hs _ st_m2) (va_eqt (hs _ st_m3)) (fun j hj => va_eqt (hs _ (List.mem_of_getElem? (st_d2 j hj)))) hA
  refine ⟨((dC, dI), (fun k => [a0, a1, a2, a3, a4, a5, a6].getD k a0), s.heap.size, 0, adK, adV), rfl, ⟨hC, ?_⟩, ?_, ?_, hV, va_Zof (hts _ (List.mem_of_getElem? (i := 304) (by decide +kernel))) (hts _ (List.mem_of_getElem? (i := 103) (by decide +kernel))) (va_eqt (hs _ st_m4)) hA, va_Zqof (hts _ (List.mem_of_getElem? (i := 555) (by decide +kernel))) (hts _ (List.mem_of_getElem? (i := 112) (by decide +kernel))) (hs _ st_m5) hA, vx_Zqof (hts _ (List.mem_of_getElem? (i := 1348) (by decide +kernel))) (hts _ (List.mem_of_getElem? (i := 115) (by decide +kernel))) (hs _ st_m6) hA, vx_Zqof (hts _ (List.mem_of_getElem? (i := 1350) (by decide +kernel))) (hts _ (List.mem_of_getElem? (i := 115) (by decide +kernel))) (hs _ st_m7) hA, ⟨t2, _, va_Zof (hts _ (List.mem_of_getElem? (i := 873) (by decide +kernel))) (hts _ (List.mem_of_getElem? (i := 114) (by decide +kernel))) e2 hA, v2⟩, ⟨t1, _, va_Zof (hts _ (List.mem_of_getElem? (i := 871) (by decide +kernel))) (hts _ (List.mem_of_getElem? (i := 114) (by decide +kernel))) e1 hA, v1⟩⟩
  · intro k q hq
    match k, hq with
    | 0, hq => cases hq; exact ⟨x0, y0⟩
    | 1, hq => cases hq; exact ⟨x1, y1⟩
    | 2, hq => cases hq; exact ⟨x2, y2⟩
    | 3, hq => cases hq; exact ⟨x3, y3⟩
    | 4, hq => cases hq; exact ⟨x4, y4⟩
    | 5, hq => cases hq; exact ⟨x5, y5⟩
    | 6, hq => cases hq; exact ⟨x6, y6⟩
    | k + 7, hq => simp [xty] at hq
  · exact List.forall_mem_cons.mpr ⟨va_Nw.of rfl (hts _ (List.mem_of_getElem? (i := 518) (by decide +kernel))), List.forall_mem_cons.mpr ⟨va_Nw.of rfl (hts _ (List.mem_of_getElem? (i := 683) (by decide +kernel))), List.forall_mem_cons.mpr ⟨va_Nw.of rfl (hts _ (List.mem_of_getElem? (i := 693) (by decide +kernel))), List.forall_mem_cons.mpr ⟨va_Nw.of rfl (hts _ (List.mem_of_getElem? (i := 696) (by decide +kernel))), List.forall_mem_cons.mpr ⟨va_Nw.of rfl (hts _ (List.mem_of_getElem? (i := 710) (by decide +kernel))), List.forall_mem_cons.mpr ⟨va_Nw.of rfl (hts _ (List.mem_of_getElem? (i := 731) (by decide +kernel))), List.forall_mem_cons.mpr ⟨va_Nw.of rfl (hts _ (List.mem_of_getElem? (i := 732) (by decide +kernel))), List.forall_mem_cons.mpr ⟨va_Nw.of rfl (hts _ (List.mem_of_getElem? (i := 1278) (by decide +kernel))), List.forall_mem_cons.mpr ⟨va_Nw.of rfl (hts _ (List.mem_of_getElem? (i := 1279) (by decide +kernel))), List.forall_mem_cons.mpr ⟨va_Nw.of rfl (hts _ (List.mem_of_getElem? (i := 1296) (by decide +kernel))), (fun _ h => absurd h List.not_mem_nil)⟩⟩⟩⟩⟩⟩⟩⟩⟩⟩
  · intro i q hq
    match i, hq with
    | 0, hq => cases hq; exact vk_R.of (hts _ (List.mem_of_getElem? (i := 521) (by decide +kernel))) (hR 0 (by decide))
    | 1, hq => cases hq; exact vk_R.of (hts _ (List.mem_of_getElem? (i := 522) (by decide +kernel))) (hR 1 (by decide))
    | 2, hq => cases hq; exact vk_R.of (hts _ (List.mem_of_getElem? (i := 523) (by decide +kernel))) (hR 2 (by decide))
    | 3, hq => cases hq; exact vk_R.of (hts _ (List.mem_of_getElem? (i := 524) (by decide +kernel))) (hR 3 (by decide))
    | 4, hq => cases hq; exact vk_R.of (hts _ (List.mem_of_getElem? (i := 525) (by decide +kernel))) (hR 4 (by decide))
    | 5, hq => cases hq; exact vk_R.of (hts _ (List.mem_of_getElem? (i := 526) (by decide +kernel))) (hR 5 (by decide))
    | 6, hq => cases hq; exact vk_R.of (hts _ (List.mem_of_getElem? (i := 655) (by decide +kernel))) (hR 6 (by decide))
    | 7, hq => cases hq; exact vk_R.of (hts _ (List.mem_of_getElem? (i := 656) (by decide +kernel))) (hR 7 (by decide))
    | 8, hq => cases hq; exact vk_R.of (hts _ (List.mem_of_getElem? (i := 657) (by decide +kernel))) (hR 8 (by decide))
    | 9, hq => cases hq; exact vk_R.of (hts _ (List.mem_of_getElem? (i := 658) (by decide +kernel))) (hR 9 (by decide))
    | 10, hq => cases hq; exact vk_R.of (hts _ (List.mem_of_getElem? (i := 795) (by decide +kernel))) (hR 10 (by decide))
    | 11, hq => cases hq; exact vk_R.of (hts _ (List.mem_of_getElem? (i := 1360) (by decide +kernel))) (hR 11 (by decide))
    | 12, hq => cases hq; exact vk_R.of (hts _ (List.mem_of_getElem? (i := 1393) (by decide +kernel))) (hR 12 (by decide))
    | i + 13, hq => simp [xsl] at hq

