theorem x_enterF {l : Launch} {y : MethodName} {bytes : ByteArray} {maxL : Nat} {ret : Option FieldType} {rm : Room} {mc ms : Nat} {av : List Value} {P : State → Prop} {Qc : Array Value → State → Outcome → State → Prop} {free : Addr → Prop} (hy : plainFor y = true) (hlen : (lg_sl av).length ≤ maxL)
    (body : ∀ (p : Program) (e : Env) (s : State) (m : MethodId) (args : Array Value) (below : List Frame) (meth : Method) (c : Code) (Q : State → Prop), CallFix p m c bytes maxL s args (xw y bytes maxL ret) y.cls → meth.sig.returnType = ret → meth.locks = false → meth.name = y.name → Q = MQ below Qc args s mc ms free → P s → ∀ ls : Array Slot, lv_has ls maxL (lv_args 0 av) → W p l e rm s m args below meth c s.heap [] 0 0 Q (F0 m 0 ls [])) : Met l y (xw y bytes maxL ret) rm (va_Pc av P) Qc mc ms free := by
  refine va_MetF (cc := bytes) (maxL := maxL) (ret := ret) hy rfl ?_
  intro p e s m args below meth c s₁ B hml hv
  obtain ⟨rfl, hP⟩ := hv
  have hl := lv_entry av (n := maxL) hlen
  rw [lg_entry_eq]
  exact body p e s m _ below meth c _ ⟨B.exec, B.bytes, hml, findClass_of_methodNamed B.named, atoms_spec (ws := xw y bytes maxL ret) B.pre⟩ B.returns B.notSynchronized (name_of_methodNamed B.named B.method).1 rfl hP _ hl
theorem xdivn (x y : Int32) (h0 : x.toInt ≤ 0) (h1 : 0 < y.toInt) : (x / y).toInt = -((-x.toInt) / y.toInt) := by
  have hx := xr x
  have h3 : 0 ≤ (-x.toInt) / y.toInt := Int.ediv_nonneg (by omega) (by omega)
  have h4 : (-x.toInt) / y.toInt ≤ -x.toInt := Int.ediv_le_self _ (by omega)
  have h2 : x.toInt.tdiv y.toInt = -((-x.toInt) / y.toInt) := by
    rw [← Int.tdiv_eq_ediv_of_nonneg (show 0 ≤ -x.toInt by omega), Int.neg_tdiv, Int.neg_neg]
  rw [Int32.toInt_div, h2]
  exact Int.bmod_eq_of_le (by omega) (by omega)

theorem z_J9_max_7cf53_1 (a0 : Int) (a1 : Int) (h0 : a0 < a1) : (a1 ≤ a0 ∧ a1 = a0) ∨ (a0 < a1 ∧ a1 = a1) := by omega
theorem z_J9_max_7cf53_2 (a0 : Int) (a1 : Int) (h0 : ¬ (a0 < a1)) : (a1 ≤ a0 ∧ a0 = a0) ∨ (a0 < a1 ∧ a0 = a1) := by omega
abbrev rm_J9_max_7cf53 : Room := { frames := 0, cells := 0, slots := 0, locals := 0 }
set_option maxHeartbeats 4000000 in
set_option maxRecDepth 100000 in
theorem c_J9_max_7cf53 (l : Launch) (E : XE) (K : Nat → Nat) (F : Nat → Nat → Nat) (G : XG) (h0 : Heap) (p0 : Int32) (p1 : Int32)  : Met l yJ9_max_7cf53 (xw yJ9_max_7cf53 cJ9_max_7cf53 2 (some .int)) rm_J9_max_7cf53 (va_Pc [.int p0, .int p1] (XPh E K F G h0)) (XQ E (fun v (u : Unit) => ∃ r : Int32, v = .int r ∧ ((p1.toInt ≤ p0.toInt ∧ r.toInt = p0.toInt) ∨ (p0.toInt < p1.toInt ∧ r.toInt = p1.toInt))) (fun _ H => H = h0)) 0 0 (xA E) := by
  refine x_enterF (by decide +kernel) (Nat.le_of_ble_eq_true rfl) ?_
  intro p e s m args below meth c Q S hr hlk hnm hQ hP ls hl
  obtain ⟨⟨hz, hK, hT⟩, hh⟩ := hP
  obtain ⟨hx, hb, -, -, -⟩ := id S
  have hS : va_S (xA E) s.heap s.heap [] := va_S.rf
  have hl : lv_has ls 2 [(0, .int p0), (1, .int p1)] := hl
  refine lv_iload_n hx hb dJ9_max_7cf53_0 rfl (lv_at hl 0 rfl) ?_
  refine lv_iload_n hx hb dJ9_max_7cf53_1 rfl (lv_at hl 1 rfl) ?_
  refine xi_clt (tgt := 9) hx hb (rfl : Int32.toInt p0 = p0.toInt) (rfl : Int32.toInt p1 = p1.toInt) dJ9_max_7cf53_2 (by decide) (fun c1 => ?_) (fun c1 => ?_)
  · refine lv_iload_n hx hb dJ9_max_7cf53_9 rfl (lv_at hl 1 rfl) ?_
    exact x_ri hx hb hr hlk hQ (Nat.le_of_ble_eq_true rfl) (Nat.le_of_ble_eq_true rfl) hS dJ9_max_7cf53_10 () ⟨_, rfl, (z_J9_max_7cf53_1 p0.toInt p1.toInt c1)⟩ hh
  · refine lv_iload_n hx hb dJ9_max_7cf53_5 rfl (lv_at hl 0 rfl) ?_
    refine lv_goto (tgt := 10) hx hb dJ9_max_7cf53_6 (by decide) ?_
    exact x_ri hx hb hr hlk hQ (Nat.le_of_ble_eq_true rfl) (Nat.le_of_ble_eq_true rfl) hS dJ9_max_7cf53_10 () ⟨_, rfl, (z_J9_max_7cf53_2 p0.toInt p1.toInt c1)⟩ hh

theorem z_J9_min_7cf53_1 (a0 : Int) (a1 : Int) (h0 : a1 < a0) : (a0 ≤ a1 ∧ a1 = a0) ∨ (a1 < a0 ∧ a1 = a1) := by omega
theorem z_J9_min_7cf53_2 (a0 : Int) (a1 : Int) (h0 : ¬ (a1 < a0)) : (a0 ≤ a1 ∧ a0 = a0) ∨ (a1 < a0 ∧ a0 = a1) := by omega
abbrev rm_J9_min_7cf53 : Room := { frames := 0, cells := 0, slots := 0, locals := 0 }
set_option maxHeartbeats 4000000 in
set_option maxRecDepth 100000 in
theorem c_J9_min_7cf53 (l : Launch) (E : XE) (K : Nat → Nat) (F : Nat → Nat → Nat) (G : XG) (h0 : Heap) (p0 : Int32) (p1 : Int32)  : Met l yJ9_min_7cf53 (xw yJ9_min_7cf53 cJ9_min_7cf53 2 (some .int)) rm_J9_min_7cf53 (va_Pc [.int p0, .int p1] (XPh E K F G h0)) (XQ E (fun v (u : Unit) => ∃ r : Int32, v = .int r ∧ ((p0.toInt ≤ p1.toInt ∧ r.toInt = p0.toInt) ∨ (p1.toInt < p0.toInt ∧ r.toInt = p1.toInt))) (fun _ H => H = h0)) 0 0 (xA E) := by
  refine x_enterF (by decide +kernel) (Nat.le_of_ble_eq_true rfl) ?_
  intro p e s m args below meth c Q S hr hlk hnm hQ hP ls hl
  obtain ⟨⟨hz, hK, hT⟩, hh⟩ := hP
  obtain ⟨hx, hb, -, -, -⟩ := id S
  have hS : va_S (xA E) s.heap s.heap [] := va_S.rf
  have hl : lv_has ls 2 [(0, .int p0), (1, .int p1)] := hl
  refine lv_iload_n hx hb dJ9_min_7cf53_0 rfl (lv_at hl 0 rfl) ?_
  refine lv_iload_n hx hb dJ9_min_7cf53_1 rfl (lv_at hl 1 rfl) ?_
  refine xi_cgt (tgt := 9) hx hb (rfl : Int32.toInt p0 = p0.toInt) (rfl : Int32.toInt p1 = p1.toInt) dJ9_min_7cf53_2 (by decide) (fun c1 => ?_) (fun c1 => ?_)
  · refine lv_iload_n hx hb dJ9_min_7cf53_9 rfl (lv_at hl 1 rfl) ?_
    exact x_ri hx hb hr hlk hQ (Nat.le_of_ble_eq_true rfl) (Nat.le_of_ble_eq_true rfl) hS dJ9_min_7cf53_10 () ⟨_, rfl, (z_J9_min_7cf53_1 p0.toInt p1.toInt c1)⟩ hh
  · refine lv_iload_n hx hb dJ9_min_7cf53_5 rfl (lv_at hl 0 rfl) ?_
    refine lv_goto (tgt := 10) hx hb dJ9_min_7cf53_6 (by decide) ?_
    exact x_ri hx hb hr hlk hQ (Nat.le_of_ble_eq_true rfl) (Nat.le_of_ble_eq_true rfl) hS dJ9_min_7cf53_10 () ⟨_, rfl, (z_J9_min_7cf53_2 p0.toInt p1.toInt c1)⟩ hh

theorem z_J1_canEncode_fc78d_1 (a0 : Int) (h0 : (255 : Int) < a0) : a0 ≤ 255 → (0 : Int) = 1 := by omega
theorem z_J1_canEncode_fc78d_2 (a0 : Int) : a0 ≤ 255 → (1 : Int) = 1 := by omega
abbrev rm_J1_canEncode_fc78d : Room := { frames := 0, cells := 0, slots := 0, locals := 0 }
set_option maxHeartbeats 4000000 in
set_option maxRecDepth 100000 in
theorem c_J1_canEncode_fc78d (l : Launch) (E : XE) (K : Nat → Nat) (F : Nat → Nat → Nat) (G : XG) (h0 : Heap) (p0 : Int32)  : Met l yJ1_canEncode_fc78d (xw yJ1_canEncode_fc78d cJ1_canEncode_fc78d 1 (some .boolean)) rm_J1_canEncode_fc78d (va_Pc [.int p0] (XPh E K F G h0)) (XQ E (fun v (u : Unit) => ∃ r : Int32, v = .int r ∧ (r = 0 ∨ r = 1) ∧ (p0.toInt ≤ 255 → r.toInt = 1)) (fun _ H => H = h0)) 0 0 (xA E) := by
  refine x_enter (by decide) (Nat.le_of_ble_eq_true rfl) ?_
  intro p e s m args below meth c Q S hr hlk hnm hQ hP ls hl
  obtain ⟨⟨hz, hK, hT⟩, hh⟩ := hP
  obtain ⟨hx, hb, -, -, -⟩ := id S
  have hS : va_S (xA E) s.heap s.heap [] := va_S.rf
  have hl : lv_has ls 1 [(0, .int p0)] := hl
  refine lv_iload_n hx hb dJ1_canEncode_fc78d_0 rfl (lv_at hl 0 rfl) ?_
  refine lv_sipush (v := 255) hx hb dJ1_canEncode_fc78d_1 (by decide) ?_
  refine xi_cgt (tgt := 11) hx hb (rfl : Int32.toInt p0 = p0.toInt) ((by decide) : Int32.toInt 255 = (255 : Int)) dJ1_canEncode_fc78d_4 (by decide) (fun c1 => ?_) (fun c1 => ?_)
  · refine lv_iconst (v := 0) hx hb dJ1_canEncode_fc78d_11 (by decide) ?_
    exact x_rz hx hb hr (xnz (Or.inl rfl)) hlk hQ (Nat.le_of_ble_eq_true rfl) (Nat.le_of_ble_eq_true rfl) hS dJ1_canEncode_fc78d_12 () ⟨_, rfl, (Or.inl rfl), (z_J1_canEncode_fc78d_1 p0.toInt c1)⟩ hh
  · refine lv_iconst (v := 1) hx hb dJ1_canEncode_fc78d_7 (by decide) ?_
    refine lv_goto (tgt := 12) hx hb dJ1_canEncode_fc78d_8 (by decide) ?_
    exact x_rz hx hb hr (xnz (Or.inr rfl)) hlk hQ (Nat.le_of_ble_eq_true rfl) (Nat.le_of_ble_eq_true rfl) hS dJ1_canEncode_fc78d_12 () ⟨_, rfl, (Or.inr rfl), (z_J1_canEncode_fc78d_2 p0.toInt)⟩ hh

theorem z_J8_newLength_cabcc_1 (a0 : Int) (a1 : Int) (a2 : Int) (a3 : Int) (a4 : Int) (h0 : 0 ≤ a0 ∧ a0 ≤ 100) (h1 : 0 ≤ a1 ∧ a1 ≤ 100) (h2 : 1 ≤ a2 ∧ a2 ≤ 200) (h3 : (a2 ≤ a1 ∧ a3 = a1) ∨ (a1 < a2 ∧ a3 = a2)) (h4 : a4 = a0 + a3 ∨ a0 + a3 < -2147483648 ∨ 2147483648 ≤ a0 + a3) (h5 : a4 ≤ (0 : Int)) : (0 : Int) = 1 ∧ a4 = a4 := by omega
theorem z_J8_newLength_cabcc_2 (a0 : Int) (a1 : Int) (a2 : Int) (a3 : Int) (a4 : Int) (h0 : 0 ≤ a0 ∧ a0 ≤ 100) (h1 : 0 ≤ a1 ∧ a1 ≤ 100) (h2 : 1 ≤ a2 ∧ a2 ≤ 200) (h3 : (a2 ≤ a1 ∧ a3 = a1) ∨ (a1 < a2 ∧ a3 = a2)) (h4 : a4 = a0 + a3 ∨ a0 + a3 < -2147483648 ∨ 2147483648 ≤ a0 + a3) (h5 : (2147483639 : Int) < a4) : (0 : Int) = 1 ∧ a4 = a4 := by omega
theorem z_J8_newLength_cabcc_3 (a0 : Int) (a1 : Int) (a2 : Int) (a3 : Int) (a4 : Int) (h0 : 0 ≤ a0 ∧ a0 ≤ 100) (h1 : 0 ≤ a1 ∧ a1 ≤ 100) (h2 : 1 ≤ a2 ∧ a2 ≤ 200) (h3 : (a2 ≤ a1 ∧ a3 = a1) ∨ (a1 < a2 ∧ a3 = a2)) (h4 : a4 = a0 + a3 ∨ a0 + a3 < -2147483648 ∨ 2147483648 ≤ a0 + a3) : (a2 ≤ a1 ∧ a4 = a0 + a1) ∨ (a1 < a2 ∧ a4 = a0 + a2) := by omega
abbrev rm_J8_newLength_cabcc : Room := { frames := 1, cells := 0, slots := 0, locals := 21 }
set_option maxHeartbeats 4000000 in
set_option maxRecDepth 100000 in
theorem c_J8_newLength_cabcc (l : Launch) (E : XE) (K : Nat → Nat) (F : Nat → Nat → Nat) (G : XG) (h0 : Heap) (p0 : Int32) (p1 : Int32) (p2 : Int32) (e0 : 0 ≤ p0.toInt ∧ p0.toInt ≤ 100) (e1 : 0 ≤ p1.toInt ∧ p1.toInt ≤ 100) (e2 : 1 ≤ p2.toInt ∧ p2.toInt ≤ 200) : Met l yJ8_newLength_cabcc (xw yJ8_newLength_cabcc cJ8_newLength_cabcc 4 (some .int)) rm_J8_newLength_cabcc (va_Pc [.int p0, .int p1, .int p2] (XPh E K F G h0)) (XQ E (fun v (u : Unit) => ∃ r : Int32, v = .int r ∧ ((p2.toInt ≤ p1.toInt ∧ r.toInt = p0.toInt + p1.toInt) ∨ (p1.toInt < p2.toInt ∧ r.toInt = p0.toInt + p2.toInt))) (fun _ H => H = h0)) 0 0 (xA E) := by
  refine x_enter (by decide) (Nat.le_of_ble_eq_true rfl) ?_
  intro p e s m args below meth c Q S hr hlk hnm hQ hP ls hl
  obtain ⟨⟨hz, hK, hT⟩, hh⟩ := hP
  obtain ⟨hx, hb, -, -, -⟩ := id S
  have hS : va_S (xA E) s.heap s.heap [] := va_S.rf
  have hl : lv_has ls 4 [(0, .int p0), (1, .int p1), (2, .int p2)] := hl
  refine lv_iload_n hx hb dJ8_newLength_cabcc_0 rfl (lv_at hl 0 rfl) ?_
  refine lv_iload_n hx hb dJ8_newLength_cabcc_1 rfl (lv_at hl 1 rfl) ?_
  refine lv_iload_n hx hb dJ8_newLength_cabcc_2 rfl (lv_at hl 2 rfl) ?_
  refine x_clp (x_runS (As := [.int p1, .int p2]) (rest := [.int p0]) S (c_J9_max_7cf53 l E K F G s.heap p1 p2) ms_J9_max_7cf53 km_J8_194 rfl rfl ⟨Nat.le_of_ble_eq_true rfl, Nat.le_of_ble_eq_true rfl⟩ hK (fun _ => XPh.blind) (fun U hU hW => XPh.at hK hz hS hT hU hW) rfl hl.1 (Nat.le_of_ble_eq_true rfl) dJ8_newLength_cabcc_3 ⟨Nat.le_of_ble_eq_true rfl, Nat.le_of_ble_eq_true rfl⟩) hS ?_
  rintro _ _ locs ⟨x1, rfl, t2⟩ hS
  have t2 : (p2.toInt ≤ p1.toInt ∧ x1.toInt = p1.toInt) ∨ (p1.toInt < p2.toInt ∧ x1.toInt = p2.toInt) := t2
  refine xi_iadd hx hb (rfl : Int32.toInt p0 = p0.toInt) (rfl : Int32.toInt x1 = x1.toInt) dJ8_newLength_cabcc_6 (fun x3 t4 => ?_)
  refine lv_istore_n (lv' := [(3, .int x3), (0, .int p0), (1, .int p1), (2, .int p2)]) hx hb dJ8_newLength_cabcc_7 rfl hl (by decide) rfl (fun ls hl => ?_)
  refine lv_iconst (v := 0) hx hb dJ8_newLength_cabcc_8 (by decide) ?_
  refine lv_iload_n hx hb dJ8_newLength_cabcc_9 rfl (lv_at hl 0 rfl) ?_
  refine xi_cge (tgt := 21) hx hb ((by decide) : Int32.toInt 0 = (0 : Int)) (rfl : Int32.toInt x3 = x3.toInt) dJ8_newLength_cabcc_10 (by decide) (fun c5 => ?_) (fun c5 => ?_)
  · exact absurd ((z_J8_newLength_cabcc_1 p0.toInt p1.toInt p2.toInt x1.toInt x3.toInt e0 e1 e2 t2 t4 c5)).1 (by decide)
  · refine lv_iload_n hx hb dJ8_newLength_cabcc_13 rfl (lv_at hl 0 rfl) ?_
    refine lv_ldc (v := 2147483639) hx hb S.2.2.2.1 (S.2.2.2.2 _ (List.mem_cons_of_mem _ kc_J8_200)) dJ8_newLength_cabcc_14 ?_
    refine xi_cgt (tgt := 21) hx hb (rfl : Int32.toInt x3 = x3.toInt) ((by decide) : Int32.toInt 2147483639 = (2147483639 : Int)) dJ8_newLength_cabcc_16 (by decide) (fun c6 => ?_) (fun c6 => ?_)
    · exact absurd ((z_J8_newLength_cabcc_2 p0.toInt p1.toInt p2.toInt x1.toInt x3.toInt e0 e1 e2 t2 t4 c6)).1 (by decide)
    · refine lv_iload_n hx hb dJ8_newLength_cabcc_19 rfl (lv_at hl 0 rfl) ?_
      exact x_ri hx hb hr hlk hQ (Nat.le_of_ble_eq_true rfl) (Nat.le_of_ble_eq_true rfl) hS dJ8_newLength_cabcc_20 () ⟨_, rfl, (z_J8_newLength_cabcc_3 p0.toInt p1.toInt p2.toInt x1.toInt x3.toInt e0 e1 e2 t2 t4)⟩ hh

theorem z_J6_stringSize_0f7a4_1 (a0 : Int) (a1 : Int) (a2 : Int) (a3 : Int) (h0 : (a0 < 0 ∧ a2 = 1 ∧ a1 = a0) ∨ (0 ≤ a0 ∧ a2 = 0 ∧ a1 = -a0)) (h1 : a3 = (10 : Int) + a2 ∨ (10 : Int) + a2 < -2147483648 ∨ 2147483648 ≤ (10 : Int) + a2) : 1 ≤ a3 ∧ a3 ≤ 11 ∧ (a0 < 0 → 2 ≤ a3) ∧ (a0 ≤ -10 → 3 ≤ a3) ∧ (10 ≤ a0 → 2 ≤ a3) ∧ (a0 ≤ -100 → 4 ≤ a3) ∧ (100 ≤ a0 → 3 ≤ a3) ∧ (a0 ≤ -1000 → 5 ≤ a3) ∧ (1000 ≤ a0 → 4 ≤ a3) ∧ (a0 ≤ -10000 → 6 ≤ a3) ∧ (10000 ≤ a0 → 5 ≤ a3) ∧ (a0 ≤ -100000 → 7 ≤ a3) ∧ (100000 ≤ a0 → 6 ≤ a3) ∧ (a0 ≤ -1000000 → 8 ≤ a3) ∧ (1000000 ≤ a0 → 7 ≤ a3) ∧ (a0 ≤ -10000000 → 9 ≤ a3) ∧ (10000000 ≤ a0 → 8 ≤ a3) ∧ (a0 ≤ -100000000 → 10 ≤ a3) ∧ (100000000 ≤ a0 → 9 ≤ a3) ∧ (a0 ≤ -1000000000 → 11 ≤ a3) ∧ (1000000000 ≤ a0 → 10 ≤ a3) := by omega
theorem z_J6_stringSize_0f7a4_2 (a0 : Int) (a1 : Int) (a2 : Int) (a3 : Int) (h0 : (a0 < 0 ∧ a2 = 1 ∧ a1 = a0) ∨ (0 ≤ a0 ∧ a2 = 0 ∧ a1 = -a0)) (h1 : ¬ (a1 ≤ (-1000000000 : Int))) (h2 : a3 = (9 : Int) + a2 ∨ (9 : Int) + a2 < -2147483648 ∨ 2147483648 ≤ (9 : Int) + a2) : 1 ≤ a3 ∧ a3 ≤ 11 ∧ (a0 < 0 → 2 ≤ a3) ∧ (a0 ≤ -10 → 3 ≤ a3) ∧ (10 ≤ a0 → 2 ≤ a3) ∧ (a0 ≤ -100 → 4 ≤ a3) ∧ (100 ≤ a0 → 3 ≤ a3) ∧ (a0 ≤ -1000 → 5 ≤ a3) ∧ (1000 ≤ a0 → 4 ≤ a3) ∧ (a0 ≤ -10000 → 6 ≤ a3) ∧ (10000 ≤ a0 → 5 ≤ a3) ∧ (a0 ≤ -100000 → 7 ≤ a3) ∧ (100000 ≤ a0 → 6 ≤ a3) ∧ (a0 ≤ -1000000 → 8 ≤ a3) ∧ (1000000 ≤ a0 → 7 ≤ a3) ∧ (a0 ≤ -10000000 → 9 ≤ a3) ∧ (10000000 ≤ a0 → 8 ≤ a3) ∧ (a0 ≤ -100000000 → 10 ≤ a3) ∧ (100000000 ≤ a0 → 9 ≤ a3) ∧ (a0 ≤ -1000000000 → 11 ≤ a3) ∧ (1000000000 ≤ a0 → 10 ≤ a3) := by omega
theorem z_J6_stringSize_0f7a4_3 (a0 : Int) (a1 : Int) (a2 : Int) (a3 : Int) (h0 : (a0 < 0 ∧ a2 = 1 ∧ a1 = a0) ∨ (0 ≤ a0 ∧ a2 = 0 ∧ a1 = -a0)) (h1 : ¬ (a1 ≤ (-100000000 : Int))) (h2 : a3 = (8 : Int) + a2 ∨ (8 : Int) + a2 < -2147483648 ∨ 2147483648 ≤ (8 : Int) + a2) : 1 ≤ a3 ∧ a3 ≤ 11 ∧ (a0 < 0 → 2 ≤ a3) ∧ (a0 ≤ -10 → 3 ≤ a3) ∧ (10 ≤ a0 → 2 ≤ a3) ∧ (a0 ≤ -100 → 4 ≤ a3) ∧ (100 ≤ a0 → 3 ≤ a3) ∧ (a0 ≤ -1000 → 5 ≤ a3) ∧ (1000 ≤ a0 → 4 ≤ a3) ∧ (a0 ≤ -10000 → 6 ≤ a3) ∧ (10000 ≤ a0 → 5 ≤ a3) ∧ (a0 ≤ -100000 → 7 ≤ a3) ∧ (100000 ≤ a0 → 6 ≤ a3) ∧ (a0 ≤ -1000000 → 8 ≤ a3) ∧ (1000000 ≤ a0 → 7 ≤ a3) ∧ (a0 ≤ -10000000 → 9 ≤ a3) ∧ (10000000 ≤ a0 → 8 ≤ a3) ∧ (a0 ≤ -100000000 → 10 ≤ a3) ∧ (100000000 ≤ a0 → 9 ≤ a3) ∧ (a0 ≤ -1000000000 → 11 ≤ a3) ∧ (1000000000 ≤ a0 → 10 ≤ a3) := by omega
theorem z_J6_stringSize_0f7a4_4 (a0 : Int) (a1 : Int) (a2 : Int) (a3 : Int) (h0 : (a0 < 0 ∧ a2 = 1 ∧ a1 = a0) ∨ (0 ≤ a0 ∧ a2 = 0 ∧ a1 = -a0)) (h1 : ¬ (a1 ≤ (-10000000 : Int))) (h2 : a3 = (7 : Int) + a2 ∨ (7 : Int) + a2 < -2147483648 ∨ 2147483648 ≤ (7 : Int) + a2) : 1 ≤ a3 ∧ a3 ≤ 11 ∧ (a0 < 0 → 2 ≤ a3) ∧ (a0 ≤ -10 → 3 ≤ a3) ∧ (10 ≤ a0 → 2 ≤ a3) ∧ (a0 ≤ -100 → 4 ≤ a3) ∧ (100 ≤ a0 → 3 ≤ a3) ∧ (a0 ≤ -1000 → 5 ≤ a3) ∧ (1000 ≤ a0 → 4 ≤ a3) ∧ (a0 ≤ -10000 → 6 ≤ a3) ∧ (10000 ≤ a0 → 5 ≤ a3) ∧ (a0 ≤ -100000 → 7 ≤ a3) ∧ (100000 ≤ a0 → 6 ≤ a3) ∧ (a0 ≤ -1000000 → 8 ≤ a3) ∧ (1000000 ≤ a0 → 7 ≤ a3) ∧ (a0 ≤ -10000000 → 9 ≤ a3) ∧ (10000000 ≤ a0 → 8 ≤ a3) ∧ (a0 ≤ -100000000 → 10 ≤ a3) ∧ (100000000 ≤ a0 → 9 ≤ a3) ∧ (a0 ≤ -1000000000 → 11 ≤ a3) ∧ (1000000000 ≤ a0 → 10 ≤ a3) := by omega
theorem z_J6_stringSize_0f7a4_5 (a0 : Int) (a1 : Int) (a2 : Int) (a3 : Int) (h0 : (a0 < 0 ∧ a2 = 1 ∧ a1 = a0) ∨ (0 ≤ a0 ∧ a2 = 0 ∧ a1 = -a0)) (h1 : ¬ (a1 ≤ (-1000000 : Int))) (h2 : a3 = (6 : Int) + a2 ∨ (6 : Int) + a2 < -2147483648 ∨ 2147483648 ≤ (6 : Int) + a2) : 1 ≤ a3 ∧ a3 ≤ 11 ∧ (a0 < 0 → 2 ≤ a3) ∧ (a0 ≤ -10 → 3 ≤ a3) ∧ (10 ≤ a0 → 2 ≤ a3) ∧ (a0 ≤ -100 → 4 ≤ a3) ∧ (100 ≤ a0 → 3 ≤ a3) ∧ (a0 ≤ -1000 → 5 ≤ a3) ∧ (1000 ≤ a0 → 4 ≤ a3) ∧ (a0 ≤ -10000 → 6 ≤ a3) ∧ (10000 ≤ a0 → 5 ≤ a3) ∧ (a0 ≤ -100000 → 7 ≤ a3) ∧ (100000 ≤ a0 → 6 ≤ a3) ∧ (a0 ≤ -1000000 → 8 ≤ a3) ∧ (1000000 ≤ a0 → 7 ≤ a3) ∧ (a0 ≤ -10000000 → 9 ≤ a3) ∧ (10000000 ≤ a0 → 8 ≤ a3) ∧ (a0 ≤ -100000000 → 10 ≤ a3) ∧ (100000000 ≤ a0 → 9 ≤ a3) ∧ (a0 ≤ -1000000000 → 11 ≤ a3) ∧ (1000000000 ≤ a0 → 10 ≤ a3) := by omega
theorem z_J6_stringSize_0f7a4_6 (a0 : Int) (a1 : Int) (a2 : Int) (a3 : Int) (h0 : (a0 < 0 ∧ a2 = 1 ∧ a1 = a0) ∨ (0 ≤ a0 ∧ a2 = 0 ∧ a1 = -a0)) (h1 : ¬ (a1 ≤ (-100000 : Int))) (h2 : a3 = (5 : Int) + a2 ∨ (5 : Int) + a2 < -2147483648 ∨ 2147483648 ≤ (5 : Int) + a2) : 1 ≤ a3 ∧ a3 ≤ 11 ∧ (a0 < 0 → 2 ≤ a3) ∧ (a0 ≤ -10 → 3 ≤ a3) ∧ (10 ≤ a0 → 2 ≤ a3) ∧ (a0 ≤ -100 → 4 ≤ a3) ∧ (100 ≤ a0 → 3 ≤ a3) ∧ (a0 ≤ -1000 → 5 ≤ a3) ∧ (1000 ≤ a0 → 4 ≤ a3) ∧ (a0 ≤ -10000 → 6 ≤ a3) ∧ (10000 ≤ a0 → 5 ≤ a3) ∧ (a0 ≤ -100000 → 7 ≤ a3) ∧ (100000 ≤ a0 → 6 ≤ a3) ∧ (a0 ≤ -1000000 → 8 ≤ a3) ∧ (1000000 ≤ a0 → 7 ≤ a3) ∧ (a0 ≤ -10000000 → 9 ≤ a3) ∧ (10000000 ≤ a0 → 8 ≤ a3) ∧ (a0 ≤ -100000000 → 10 ≤ a3) ∧ (100000000 ≤ a0 → 9 ≤ a3) ∧ (a0 ≤ -1000000000 → 11 ≤ a3) ∧ (1000000000 ≤ a0 → 10 ≤ a3) := by omega
theorem z_J6_stringSize_0f7a4_7 (a0 : Int) (a1 : Int) (a2 : Int) (a3 : Int) (h0 : (a0 < 0 ∧ a2 = 1 ∧ a1 = a0) ∨ (0 ≤ a0 ∧ a2 = 0 ∧ a1 = -a0)) (h1 : ¬ (a1 ≤ (-10000 : Int))) (h2 : a3 = (4 : Int) + a2 ∨ (4 : Int) + a2 < -2147483648 ∨ 2147483648 ≤ (4 : Int) + a2) : 1 ≤ a3 ∧ a3 ≤ 11 ∧ (a0 < 0 → 2 ≤ a3) ∧ (a0 ≤ -10 → 3 ≤ a3) ∧ (10 ≤ a0 → 2 ≤ a3) ∧ (a0 ≤ -100 → 4 ≤ a3) ∧ (100 ≤ a0 → 3 ≤ a3) ∧ (a0 ≤ -1000 → 5 ≤ a3) ∧ (1000 ≤ a0 → 4 ≤ a3) ∧ (a0 ≤ -10000 → 6 ≤ a3) ∧ (10000 ≤ a0 → 5 ≤ a3) ∧ (a0 ≤ -100000 → 7 ≤ a3) ∧ (100000 ≤ a0 → 6 ≤ a3) ∧ (a0 ≤ -1000000 → 8 ≤ a3) ∧ (1000000 ≤ a0 → 7 ≤ a3) ∧ (a0 ≤ -10000000 → 9 ≤ a3) ∧ (10000000 ≤ a0 → 8 ≤ a3) ∧ (a0 ≤ -100000000 → 10 ≤ a3) ∧ (100000000 ≤ a0 → 9 ≤ a3) ∧ (a0 ≤ -1000000000 → 11 ≤ a3) ∧ (1000000000 ≤ a0 → 10 ≤ a3) := by omega
theorem z_J6_stringSize_0f7a4_8 (a0 : Int) (a1 : Int) (a2 : Int) (a3 : Int) (h0 : (a0 < 0 ∧ a2 = 1 ∧ a1 = a0) ∨ (0 ≤ a0 ∧ a2 = 0 ∧ a1 = -a0)) (h1 : ¬ (a1 ≤ (-1000 : Int))) (h2 : a3 = (3 : Int) + a2 ∨ (3 : Int) + a2 < -2147483648 ∨ 2147483648 ≤ (3 : Int) + a2) : 1 ≤ a3 ∧ a3 ≤ 11 ∧ (a0 < 0 → 2 ≤ a3) ∧ (a0 ≤ -10 → 3 ≤ a3) ∧ (10 ≤ a0 → 2 ≤ a3) ∧ (a0 ≤ -100 → 4 ≤ a3) ∧ (100 ≤ a0 → 3 ≤ a3) ∧ (a0 ≤ -1000 → 5 ≤ a3) ∧ (1000 ≤ a0 → 4 ≤ a3) ∧ (a0 ≤ -10000 → 6 ≤ a3) ∧ (10000 ≤ a0 → 5 ≤ a3) ∧ (a0 ≤ -100000 → 7 ≤ a3) ∧ (100000 ≤ a0 → 6 ≤ a3) ∧ (a0 ≤ -1000000 → 8 ≤ a3) ∧ (1000000 ≤ a0 → 7 ≤ a3) ∧ (a0 ≤ -10000000 → 9 ≤ a3) ∧ (10000000 ≤ a0 → 8 ≤ a3) ∧ (a0 ≤ -100000000 → 10 ≤ a3) ∧ (100000000 ≤ a0 → 9 ≤ a3) ∧ (a0 ≤ -1000000000 → 11 ≤ a3) ∧ (1000000000 ≤ a0 → 10 ≤ a3) := by omega
theorem z_J6_stringSize_0f7a4_9 (a0 : Int) (a1 : Int) (a2 : Int) (a3 : Int) (h0 : (a0 < 0 ∧ a2 = 1 ∧ a1 = a0) ∨ (0 ≤ a0 ∧ a2 = 0 ∧ a1 = -a0)) (h1 : ¬ (a1 ≤ (-100 : Int))) (h2 : a3 = (2 : Int) + a2 ∨ (2 : Int) + a2 < -2147483648 ∨ 2147483648 ≤ (2 : Int) + a2) : 1 ≤ a3 ∧ a3 ≤ 11 ∧ (a0 < 0 → 2 ≤ a3) ∧ (a0 ≤ -10 → 3 ≤ a3) ∧ (10 ≤ a0 → 2 ≤ a3) ∧ (a0 ≤ -100 → 4 ≤ a3) ∧ (100 ≤ a0 → 3 ≤ a3) ∧ (a0 ≤ -1000 → 5 ≤ a3) ∧ (1000 ≤ a0 → 4 ≤ a3) ∧ (a0 ≤ -10000 → 6 ≤ a3) ∧ (10000 ≤ a0 → 5 ≤ a3) ∧ (a0 ≤ -100000 → 7 ≤ a3) ∧ (100000 ≤ a0 → 6 ≤ a3) ∧ (a0 ≤ -1000000 → 8 ≤ a3) ∧ (1000000 ≤ a0 → 7 ≤ a3) ∧ (a0 ≤ -10000000 → 9 ≤ a3) ∧ (10000000 ≤ a0 → 8 ≤ a3) ∧ (a0 ≤ -100000000 → 10 ≤ a3) ∧ (100000000 ≤ a0 → 9 ≤ a3) ∧ (a0 ≤ -1000000000 → 11 ≤ a3) ∧ (1000000000 ≤ a0 → 10 ≤ a3) := by omega
theorem z_J6_stringSize_0f7a4_10 (a0 : Int) (a1 : Int) (a2 : Int) (a3 : Int) (h0 : (a0 < 0 ∧ a2 = 1 ∧ a1 = a0) ∨ (0 ≤ a0 ∧ a2 = 0 ∧ a1 = -a0)) (h1 : ¬ (a1 ≤ (-10 : Int))) (h2 : a3 = (1 : Int) + a2 ∨ (1 : Int) + a2 < -2147483648 ∨ 2147483648 ≤ (1 : Int) + a2) : 1 ≤ a3 ∧ a3 ≤ 11 ∧ (a0 < 0 → 2 ≤ a3) ∧ (a0 ≤ -10 → 3 ≤ a3) ∧ (10 ≤ a0 → 2 ≤ a3) ∧ (a0 ≤ -100 → 4 ≤ a3) ∧ (100 ≤ a0 → 3 ≤ a3) ∧ (a0 ≤ -1000 → 5 ≤ a3) ∧ (1000 ≤ a0 → 4 ≤ a3) ∧ (a0 ≤ -10000 → 6 ≤ a3) ∧ (10000 ≤ a0 → 5 ≤ a3) ∧ (a0 ≤ -100000 → 7 ≤ a3) ∧ (100000 ≤ a0 → 6 ≤ a3) ∧ (a0 ≤ -1000000 → 8 ≤ a3) ∧ (1000000 ≤ a0 → 7 ≤ a3) ∧ (a0 ≤ -10000000 → 9 ≤ a3) ∧ (10000000 ≤ a0 → 8 ≤ a3) ∧ (a0 ≤ -100000000 → 10 ≤ a3) ∧ (100000000 ≤ a0 → 9 ≤ a3) ∧ (a0 ≤ -1000000000 → 11 ≤ a3) ∧ (1000000000 ≤ a0 → 10 ≤ a3) := by omega
theorem z_J6_stringSize_0f7a4_11 (a0 : Int) (h0 : a0 < 0) : (a0 < 0 ∧ (1 : Int) = 1 ∧ a0 = a0) ∨ (0 ≤ a0 ∧ (1 : Int) = 0 ∧ a0 = -a0) := by omega
theorem z_J6_stringSize_0f7a4_12 (a0 : Int) (a1 : Int) (h0 : ¬ (a0 < 0)) (h1 : a1 = -a0 ∨ -a0 < -2147483648 ∨ 2147483648 ≤ -a0) (h2 : -2147483648 ≤ a0 ∧ a0 < 2147483648) : (a0 < 0 ∧ (0 : Int) = 1 ∧ a1 = a0) ∨ (0 ≤ a0 ∧ (0 : Int) = 0 ∧ a1 = -a0) := by omega
abbrev rm_J6_stringSize_0f7a4 : Room := { frames := 0, cells := 0, slots := 0, locals := 0 }
set_option maxHeartbeats 4000000 in
set_option maxRecDepth 100000 in
theorem c_J6_stringSize_0f7a4 (l : Launch) (E : XE) (K : Nat → Nat) (F : Nat → Nat → Nat) (G : XG) (h0 : Heap) (p0 : Int32)  : Met l yJ6_stringSize_0f7a4 (xw yJ6_stringSize_0f7a4 cJ6_stringSize_0f7a4 4 (some .int)) rm_J6_stringSize_0f7a4 (va_Pc [.int p0] (XPh E K F G h0)) (XQ E (fun v (u : Unit) => ∃ r : Int32, v = .int r ∧ (1 ≤ r.toInt ∧ r.toInt ≤ 11 ∧ (p0.toInt < 0 → 2 ≤ r.toInt) ∧ (p0.toInt ≤ -10 → 3 ≤ r.toInt) ∧ (10 ≤ p0.toInt → 2 ≤ r.toInt) ∧ (p0.toInt ≤ -100 → 4 ≤ r.toInt) ∧ (100 ≤ p0.toInt → 3 ≤ r.toInt) ∧ (p0.toInt ≤ -1000 → 5 ≤ r.toInt) ∧ (1000 ≤ p0.toInt → 4 ≤ r.toInt) ∧ (p0.toInt ≤ -10000 → 6 ≤ r.toInt) ∧ (10000 ≤ p0.toInt → 5 ≤ r.toInt) ∧ (p0.toInt ≤ -100000 → 7 ≤ r.toInt) ∧ (100000 ≤ p0.toInt → 6 ≤ r.toInt) ∧ (p0.toInt ≤ -1000000 → 8 ≤ r.toInt) ∧ (1000000 ≤ p0.toInt → 7 ≤ r.toInt) ∧ (p0.toInt ≤ -10000000 → 9 ≤ r.toInt) ∧ (10000000 ≤ p0.toInt → 8 ≤ r.toInt) ∧ (p0.toInt ≤ -100000000 → 10 ≤ r.toInt) ∧ (100000000 ≤ p0.toInt → 9 ≤ r.toInt) ∧ (p0.toInt ≤ -1000000000 → 11 ≤ r.toInt) ∧ (1000000000 ≤ p0.toInt → 10 ≤ r.toInt))) (fun _ H => H = h0)) 0 0 (xA E) := by
  refine x_enter (by decide) (Nat.le_of_ble_eq_true rfl) ?_
  intro p e s m args below meth c Q S hr hlk hnm hQ hP ls hl
  obtain ⟨⟨hz, hK, hT⟩, hh⟩ := hP
  obtain ⟨hx, hb, -, -, -⟩ := id S
  have hS : va_S (xA E) s.heap s.heap [] := va_S.rf
  have hl : lv_has ls 4 [(0, .int p0)] := hl
  refine lv_iconst (v := 1) hx hb dJ6_stringSize_0f7a4_0 (by decide) ?_
  refine lv_istore_n (lv' := [(1, .int 1), (0, .int p0)]) hx hb dJ6_stringSize_0f7a4_1 rfl hl (by decide) rfl (fun ls hl => ?_)
  refine lv_iload_n hx hb dJ6_stringSize_0f7a4_2 rfl (lv_at hl 1 rfl) ?_
  have J11 : ∀ (x1 : Int32) (x2 : Int32) (locs : List Loc) (ls : Array Slot), (p0.toInt < 0 ∧ x2.toInt = 1 ∧ x1.toInt = p0.toInt) ∨ (0 ≤ p0.toInt ∧ x2.toInt = 0 ∧ x1.toInt = -p0.toInt) → TW E K F G s.heap → va_S (xA E) s.heap s.heap locs → lv_has ls 4 [(0, .int x1), (1, .int x2)] → W p l e rm_J6_stringSize_0f7a4 s m args below meth c s.heap locs 0 0 Q (F0 m 11 ls []) := by
    intro x1 x2 locs ls hf3 hT hS hl
    refine lv_bipush (v := (-10)) hx hb dJ6_stringSize_0f7a4_11 (by decide) ?_
    refine lv_istore_n (lv' := [(2, .int (-10)), (0, .int x1), (1, .int x2)]) hx hb dJ6_stringSize_0f7a4_13 rfl hl (by decide) rfl (fun ls hl => ?_)
    refine lv_iconst (v := 1) hx hb dJ6_stringSize_0f7a4_14 (by decide) ?_
    refine lv_istore_n (lv' := [(3, .int 1), (2, .int (-10)), (0, .int x1), (1, .int x2)]) hx hb dJ6_stringSize_0f7a4_15 rfl hl (by decide) rfl (fun ls hl => ?_)
    refine lv_iload_n hx hb dJ6_stringSize_0f7a4_16 rfl (lv_at hl 0 rfl) ?_
    refine lv_bipush (v := 10) hx hb dJ6_stringSize_0f7a4_17 (by decide) ?_
    refine xi_cge (tgt := 42) hx hb ((by decide) : Int32.toInt 1 = (1 : Int)) ((by decide) : Int32.toInt 10 = (10 : Int)) dJ6_stringSize_0f7a4_19 (by decide) (fun c => absurd c (show ¬ ((10 : Int) ≤ (1 : Int)) by decide)) (fun _ => ?_)
    refine lv_iload_n hx hb dJ6_stringSize_0f7a4_22 rfl (lv_at hl 2 rfl) ?_
    refine lv_iload_n hx hb dJ6_stringSize_0f7a4_23 rfl (lv_at hl 1 rfl) ?_
    refine xi_cle (tgt := 31) hx hb (rfl : Int32.toInt x1 = x1.toInt) ((by decide) : Int32.toInt (-10) = (-10 : Int)) dJ6_stringSize_0f7a4_24 (by decide) (fun c4 => ?_) (fun c4 => ?_)
    · refine lv_bipush (v := 10) hx hb dJ6_stringSize_0f7a4_31 (by decide) ?_
      refine lv_iload_n hx hb dJ6_stringSize_0f7a4_33 rfl (lv_at hl 1 rfl) ?_
      refine xi_imul hx hb ((by decide) : Int32.toInt 10 = (10 : Int)) ((by decide) : Int32.toInt (-10) = (-10 : Int)) dJ6_stringSize_0f7a4_34 (fun x5 t6 => ?_)
      have e9 : ((-100) : Int32).toInt = (-100) := by decide
      have h9 : x5 = (-100) := Int32.toInt_inj.mp (by rw [e9]; omega)
      subst h9
      refine lv_istore_n (lv' := [(2, .int (-100)), (3, .int 1), (0, .int x1), (1, .int x2)]) hx hb dJ6_stringSize_0f7a4_35 rfl hl (by decide) rfl (fun ls hl => ?_)
      refine xi_iinc (n := 1) (lv' := fun z9 => [(3, .int z9), (2, .int (-100)), (0, .int x1), (1, .int x2)]) (k := 1) hx hb ((by decide) : Int32.toInt 1 = (1 : Int)) (by decide) dJ6_stringSize_0f7a4_36 hl rfl (by decide) (fun _ => rfl) (fun x7 ls t8 hl => ?_)
      have hl : lv_has ls 4 [(3, .int x7), (2, .int (-100)), (0, .int x1), (1, .int x2)] := hl
      have e9 : (2 : Int32).toInt = 2 := by decide
      have h9 : x7 = 2 := Int32.toInt_inj.mp (by rw [e9]; omega)
      subst h9
      have hl : lv_has ls 4 [(3, .int 2), (2, .int (-100)), (0, .int x1), (1, .int x2)] := hl
      refine lv_goto (tgt := 16) hx hb dJ6_stringSize_0f7a4_39 (by decide) ?_
      refine lv_iload_n hx hb dJ6_stringSize_0f7a4_16 rfl (lv_at hl 0 rfl) ?_
      refine lv_bipush (v := 10) hx hb dJ6_stringSize_0f7a4_17 (by decide) ?_
      refine xi_cge (tgt := 42) hx hb ((by decide) : Int32.toInt 2 = (2 : Int)) ((by decide) : Int32.toInt 10 = (10 : Int)) dJ6_stringSize_0f7a4_19 (by decide) (fun c => absurd c (show ¬ ((10 : Int) ≤ (2 : Int)) by decide)) (fun _ => ?_)
      refine lv_iload_n hx hb dJ6_stringSize_0f7a4_22 rfl (lv_at hl 2 rfl) ?_
      refine lv_iload_n hx hb dJ6_stringSize_0f7a4_23 rfl (lv_at hl 1 rfl) ?_
      refine xi_cle (tgt := 31) hx hb (rfl : Int32.toInt x1 = x1.toInt) ((by decide) : Int32.toInt (-100) = (-100 : Int)) dJ6_stringSize_0f7a4_24 (by decide) (fun c9 => ?_) (fun c9 => ?_)
      · refine lv_bipush (v := 10) hx hb dJ6_stringSize_0f7a4_31 (by decide) ?_
        refine lv_iload_n hx hb dJ6_stringSize_0f7a4_33 rfl (lv_at hl 1 rfl) ?_
        refine xi_imul hx hb ((by decide) : Int32.toInt 10 = (10 : Int)) ((by decide) : Int32.toInt (-100) = (-100 : Int)) dJ6_stringSize_0f7a4_34 (fun x10 t11 => ?_)
        have e9 : ((-1000) : Int32).toInt = (-1000) := by decide
        have h9 : x10 = (-1000) := Int32.toInt_inj.mp (by rw [e9]; omega)
        subst h9
        refine lv_istore_n (lv' := [(2, .int (-1000)), (3, .int 2), (0, .int x1), (1, .int x2)]) hx hb dJ6_stringSize_0f7a4_35 rfl hl (by decide) rfl (fun ls hl => ?_)
        refine xi_iinc (n := 1) (lv' := fun z9 => [(3, .int z9), (2, .int (-1000)), (0, .int x1), (1, .int x2)]) (k := 1) hx hb ((by decide) : Int32.toInt 2 = (2 : Int)) (by decide) dJ6_stringSize_0f7a4_36 hl rfl (by decide) (fun _ => rfl) (fun x12 ls t13 hl => ?_)
        have hl : lv_has ls 4 [(3, .int x12), (2, .int (-1000)), (0, .int x1), (1, .int x2)] := hl
        have e9 : (3 : Int32).toInt = 3 := by decide
        have h9 : x12 = 3 := Int32.toInt_inj.mp (by rw [e9]; omega)
        subst h9
        have hl : lv_has ls 4 [(3, .int 3), (2, .int (-1000)), (0, .int x1), (1, .int x2)] := hl
        refine lv_goto (tgt := 16) hx hb dJ6_stringSize_0f7a4_39 (by decide) ?_
        refine lv_iload_n hx hb dJ6_stringSize_0f7a4_16 rfl (lv_at hl 0 rfl) ?_
        refine lv_bipush (v := 10) hx hb dJ6_stringSize_0f7a4_17 (by decide) ?_
        refine xi_cge (tgt := 42) hx hb ((by decide) : Int32.toInt 3 = (3 : Int)) ((by decide) : Int32.toInt 10 = (10 : Int)) dJ6_stringSize_0f7a4_19 (by decide) (fun c => absurd c (show ¬ ((10 : Int) ≤ (3 : Int)) by decide)) (fun _ => ?_)
        refine lv_iload_n hx hb dJ6_stringSize_0f7a4_22 rfl (lv_at hl 2 rfl) ?_
        refine lv_iload_n hx hb dJ6_stringSize_0f7a4_23 rfl (lv_at hl 1 rfl) ?_
        refine xi_cle (tgt := 31) hx hb (rfl : Int32.toInt x1 = x1.toInt) ((by decide) : Int32.toInt (-1000) = (-1000 : Int)) dJ6_stringSize_0f7a4_24 (by decide) (fun c14 => ?_) (fun c14 => ?_)
        · refine lv_bipush (v := 10) hx hb dJ6_stringSize_0f7a4_31 (by decide) ?_
          refine lv_iload_n hx hb dJ6_stringSize_0f7a4_33 rfl (lv_at hl 1 rfl) ?_
          refine xi_imul hx hb ((by decide) : Int32.toInt 10 = (10 : Int)) ((by decide) : Int32.toInt (-1000) = (-1000 : Int)) dJ6_stringSize_0f7a4_34 (fun x15 t16 => ?_)
          have e9 : ((-10000) : Int32).toInt = (-10000) := by decide
          have h9 : x15 = (-10000) := Int32.toInt_inj.mp (by rw [e9]; omega)
          subst h9
          refine lv_istore_n (lv' := [(2, .int (-10000)), (3, .int 3), (0, .int x1), (1, .int x2)]) hx hb dJ6_stringSize_0f7a4_35 rfl hl (by decide) rfl (fun ls hl => ?_)
          refine xi_iinc (n := 1) (lv' := fun z9 => [(3, .int z9), (2, .int (-10000)), (0, .int x1), (1, .int x2)]) (k := 1) hx hb ((by decide) : Int32.toInt 3 = (3 : Int)) (by decide) dJ6_stringSize_0f7a4_36 hl rfl (by decide) (fun _ => rfl) (fun x17 ls t18 hl => ?_)
          have hl : lv_has ls 4 [(3, .int x17), (2, .int (-10000)), (0, .int x1), (1, .int x2)] := hl
          have e9 : (4 : Int32).toInt = 4 := by decide
          have h9 : x17 = 4 := Int32.toInt_inj.mp (by rw [e9]; omega)
          subst h9
          have hl : lv_has ls 4 [(3, .int 4), (2, .int (-10000)), (0, .int x1), (1, .int x2)] := hl
          refine lv_goto (tgt := 16) hx hb dJ6_stringSize_0f7a4_39 (by decide) ?_
          refine lv_iload_n hx hb dJ6_stringSize_0f7a4_16 rfl (lv_at hl 0 rfl) ?_
          refine lv_bipush (v := 10) hx hb dJ6_stringSize_0f7a4_17 (by decide) ?_
          refine xi_cge (tgt := 42) hx hb ((by decide) : Int32.toInt 4 = (4 : Int)) ((by decide) : Int32.toInt 10 = (10 : Int)) dJ6_stringSize_0f7a4_19 (by decide) (fun c => absurd c (show ¬ ((10 : Int) ≤ (4 : Int)) by decide)) (fun _ => ?_)
          refine lv_iload_n hx hb dJ6_stringSize_0f7a4_22 rfl (lv_at hl 2 rfl) ?_
          refine lv_iload_n hx hb dJ6_stringSize_0f7a4_23 rfl (lv_at hl 1 rfl) ?_
          refine xi_cle (tgt := 31) hx hb (rfl : Int32.toInt x1 = x1.toInt) ((by decide) : Int32.toInt (-10000) = (-10000 : Int)) dJ6_stringSize_0f7a4_24 (by decide) (fun c19 => ?_) (fun c19 => ?_)
          · refine lv_bipush (v := 10) hx hb dJ6_stringSize_0f7a4_31 (by decide) ?_
            refine lv_iload_n hx hb dJ6_stringSize_0f7a4_33 rfl (lv_at hl 1 rfl) ?_
            refine xi_imul hx hb ((by decide) : Int32.toInt 10 = (10 : Int)) ((by decide) : Int32.toInt (-10000) = (-10000 : Int)) dJ6_stringSize_0f7a4_34 (fun x20 t21 => ?_)
            have e9 : ((-100000) : Int32).toInt = (-100000) := by decide
            have h9 : x20 = (-100000) := Int32.toInt_inj.mp (by rw [e9]; omega)
            subst h9
            refine lv_istore_n (lv' := [(2, .int (-100000)), (3, .int 4), (0, .int x1), (1, .int x2)]) hx hb dJ6_stringSize_0f7a4_35 rfl hl (by decide) rfl (fun ls hl => ?_)
            refine xi_iinc (n := 1) (lv' := fun z9 => [(3, .int z9), (2, .int (-100000)), (0, .int x1), (1, .int x2)]) (k := 1) hx hb ((by decide) : Int32.toInt 4 = (4 : Int)) (by decide) dJ6_stringSize_0f7a4_36 hl rfl (by decide) (fun _ => rfl) (fun x22 ls t23 hl => ?_)
            have hl : lv_has ls 4 [(3, .int x22), (2, .int (-100000)), (0, .int x1), (1, .int x2)] := hl
            have e9 : (5 : Int32).toInt = 5 := by decide
            have h9 : x22 = 5 := Int32.toInt_inj.mp (by rw [e9]; omega)
            subst h9
            have hl : lv_has ls 4 [(3, .int 5), (2, .int (-100000)), (0, .int x1), (1, .int x2)] := hl
            refine lv_goto (tgt := 16) hx hb dJ6_stringSize_0f7a4_39 (by decide) ?_
            refine lv_iload_n hx hb dJ6_stringSize_0f7a4_16 rfl (lv_at hl 0 rfl) ?_
            refine lv_bipush (v := 10) hx hb dJ6_stringSize_0f7a4_17 (by decide) ?_
            refine xi_cge (tgt := 42) hx hb ((by decide) : Int32.toInt 5 = (5 : Int)) ((by decide) : Int32.toInt 10 = (10 : Int)) dJ6_stringSize_0f7a4_19 (by decide) (fun c => absurd c (show ¬ ((10 : Int) ≤ (5 : Int)) by decide)) (fun _ => ?_)
            refine lv_iload_n hx hb dJ6_stringSize_0f7a4_22 rfl (lv_at hl 2 rfl) ?_
            refine lv_iload_n hx hb dJ6_stringSize_0f7a4_23 rfl (lv_at hl 1 rfl) ?_
            refine xi_cle (tgt := 31) hx hb (rfl : Int32.toInt x1 = x1.toInt) ((by decide) : Int32.toInt (-100000) = (-100000 : Int)) dJ6_stringSize_0f7a4_24 (by decide) (fun c24 => ?_) (fun c24 => ?_)
            · refine lv_bipush (v := 10) hx hb dJ6_stringSize_0f7a4_31 (by decide) ?_
              refine lv_iload_n hx hb dJ6_stringSize_0f7a4_33 rfl (lv_at hl 1 rfl) ?_
              refine xi_imul hx hb ((by decide) : Int32.toInt 10 = (10 : Int)) ((by decide) : Int32.toInt (-100000) = (-100000 : Int)) dJ6_stringSize_0f7a4_34 (fun x25 t26 => ?_)
              have e9 : ((-1000000) : Int32).toInt = (-1000000) := by decide
              have h9 : x25 = (-1000000) := Int32.toInt_inj.mp (by rw [e9]; omega)
              subst h9
              refine lv_istore_n (lv' := [(2, .int (-1000000)), (3, .int 5), (0, .int x1), (1, .int x2)]) hx hb dJ6_stringSize_0f7a4_35 rfl hl (by decide) rfl (fun ls hl => ?_)
              refine xi_iinc (n := 1) (lv' := fun z9 => [(3, .int z9), (2, .int (-1000000)), (0, .int x1), (1, .int x2)]) (k := 1) hx hb ((by decide) : Int32.toInt 5 = (5 : Int)) (by decide) dJ6_stringSize_0f7a4_36 hl rfl (by decide) (fun _ => rfl) (fun x27 ls t28 hl => ?_)
              have hl : lv_has ls 4 [(3, .int x27), (2, .int (-1000000)), (0, .int x1), (1, .int x2)] := hl
              have e9 : (6 : Int32).toInt = 6 := by decide
              have h9 : x27 = 6 := Int32.toInt_inj.mp (by rw [e9]; omega)
              subst h9
              have hl : lv_has ls 4 [(3, .int 6), (2, .int (-1000000)), (0, .int x1), (1, .int x2)] := hl
              refine lv_goto (tgt := 16) hx hb dJ6_stringSize_0f7a4_39 (by decide) ?_
              refine lv_iload_n hx hb dJ6_stringSize_0f7a4_16 rfl (lv_at hl 0 rfl) ?_
              refine lv_bipush (v := 10) hx hb dJ6_stringSize_0f7a4_17 (by decide) ?_
              refine xi_cge (tgt := 42) hx hb ((by decide) : Int32.toInt 6 = (6 : Int)) ((by decide) : Int32.toInt 10 = (10 : Int)) dJ6_stringSize_0f7a4_19 (by decide) (fun c => absurd c (show ¬ ((10 : Int) ≤ (6 : Int)) by decide)) (fun _ => ?_)
              refine lv_iload_n hx hb dJ6_stringSize_0f7a4_22 rfl (lv_at hl 2 rfl) ?_
              refine lv_iload_n hx hb dJ6_stringSize_0f7a4_23 rfl (lv_at hl 1 rfl) ?_
              refine xi_cle (tgt := 31) hx hb (rfl : Int32.toInt x1 = x1.toInt) ((by decide) : Int32.toInt (-1000000) = (-1000000 : Int)) dJ6_stringSize_0f7a4_24 (by decide) (fun c29 => ?_) (fun c29 => ?_)
              · refine lv_bipush (v := 10) hx hb dJ6_stringSize_0f7a4_31 (by decide) ?_
                refine lv_iload_n hx hb dJ6_stringSize_0f7a4_33 rfl (lv_at hl 1 rfl) ?_
                refine xi_imul hx hb ((by decide) : Int32.toInt 10 = (10 : Int)) ((by decide) : Int32.toInt (-1000000) = (-1000000 : Int)) dJ6_stringSize_0f7a4_34 (fun x30 t31 => ?_)
                have e9 : ((-10000000) : Int32).toInt = (-10000000) := by decide
                have h9 : x30 = (-10000000) := Int32.toInt_inj.mp (by rw [e9]; omega)
                subst h9
                refine lv_istore_n (lv' := [(2, .int (-10000000)), (3, .int 6), (0, .int x1), (1, .int x2)]) hx hb dJ6_stringSize_0f7a4_35 rfl hl (by decide) rfl (fun ls hl => ?_)
                refine xi_iinc (n := 1) (lv' := fun z9 => [(3, .int z9), (2, .int (-10000000)), (0, .int x1), (1, .int x2)]) (k := 1) hx hb ((by decide) : Int32.toInt 6 = (6 : Int)) (by decide) dJ6_stringSize_0f7a4_36 hl rfl (by decide) (fun _ => rfl) (fun x32 ls t33 hl => ?_)
                have hl : lv_has ls 4 [(3, .int x32), (2, .int (-10000000)), (0, .int x1), (1, .int x2)] := hl
                have e9 : (7 : Int32).toInt = 7 := by decide
                have h9 : x32 = 7 := Int32.toInt_inj.mp (by rw [e9]; omega)
                subst h9
                have hl : lv_has ls 4 [(3, .int 7), (2, .int (-10000000)), (0, .int x1), (1, .int x2)] := hl
                refine lv_goto (tgt := 16) hx hb dJ6_stringSize_0f7a4_39 (by decide) ?_
                refine lv_iload_n hx hb dJ6_stringSize_0f7a4_16 rfl (lv_at hl 0 rfl) ?_
                refine lv_bipush (v := 10) hx hb dJ6_stringSize_0f7a4_17 (by decide) ?_
                refine xi_cge (tgt := 42) hx hb ((by decide) : Int32.toInt 7 = (7 : Int)) ((by decide) : Int32.toInt 10 = (10 : Int)) dJ6_stringSize_0f7a4_19 (by decide) (fun c => absurd c (show ¬ ((10 : Int) ≤ (7 : Int)) by decide)) (fun _ => ?_)
                refine lv_iload_n hx hb dJ6_stringSize_0f7a4_22 rfl (lv_at hl 2 rfl) ?_
                refine lv_iload_n hx hb dJ6_stringSize_0f7a4_23 rfl (lv_at hl 1 rfl) ?_
                refine xi_cle (tgt := 31) hx hb (rfl : Int32.toInt x1 = x1.toInt) ((by decide) : Int32.toInt (-10000000) = (-10000000 : Int)) dJ6_stringSize_0f7a4_24 (by decide) (fun c34 => ?_) (fun c34 => ?_)
                · refine lv_bipush (v := 10) hx hb dJ6_stringSize_0f7a4_31 (by decide) ?_
                  refine lv_iload_n hx hb dJ6_stringSize_0f7a4_33 rfl (lv_at hl 1 rfl) ?_
                  refine xi_imul hx hb ((by decide) : Int32.toInt 10 = (10 : Int)) ((by decide) : Int32.toInt (-10000000) = (-10000000 : Int)) dJ6_stringSize_0f7a4_34 (fun x35 t36 => ?_)
                  have e9 : ((-100000000) : Int32).toInt = (-100000000) := by decide
                  have h9 : x35 = (-100000000) := Int32.toInt_inj.mp (by rw [e9]; omega)
                  subst h9
                  refine lv_istore_n (lv' := [(2, .int (-100000000)), (3, .int 7), (0, .int x1), (1, .int x2)]) hx hb dJ6_stringSize_0f7a4_35 rfl hl (by decide) rfl (fun ls hl => ?_)
                  refine xi_iinc (n := 1) (lv' := fun z9 => [(3, .int z9), (2, .int (-100000000)), (0, .int x1), (1, .int x2)]) (k := 1) hx hb ((by decide) : Int32.toInt 7 = (7 : Int)) (by decide) dJ6_stringSize_0f7a4_36 hl rfl (by decide) (fun _ => rfl) (fun x37 ls t38 hl => ?_)
                  have hl : lv_has ls 4 [(3, .int x37), (2, .int (-100000000)), (0, .int x1), (1, .int x2)] := hl
                  have e9 : (8 : Int32).toInt = 8 := by decide
                  have h9 : x37 = 8 := Int32.toInt_inj.mp (by rw [e9]; omega)
                  subst h9
                  have hl : lv_has ls 4 [(3, .int 8), (2, .int (-100000000)), (0, .int x1), (1, .int x2)] := hl
                  refine lv_goto (tgt := 16) hx hb dJ6_stringSize_0f7a4_39 (by decide) ?_
                  refine lv_iload_n hx hb dJ6_stringSize_0f7a4_16 rfl (lv_at hl 0 rfl) ?_
                  refine lv_bipush (v := 10) hx hb dJ6_stringSize_0f7a4_17 (by decide) ?_
                  refine xi_cge (tgt := 42) hx hb ((by decide) : Int32.toInt 8 = (8 : Int)) ((by decide) : Int32.toInt 10 = (10 : Int)) dJ6_stringSize_0f7a4_19 (by decide) (fun c => absurd c (show ¬ ((10 : Int) ≤ (8 : Int)) by decide)) (fun _ => ?_)
                  refine lv_iload_n hx hb dJ6_stringSize_0f7a4_22 rfl (lv_at hl 2 rfl) ?_
                  refine lv_iload_n hx hb dJ6_stringSize_0f7a4_23 rfl (lv_at hl 1 rfl) ?_
                  refine xi_cle (tgt := 31) hx hb (rfl : Int32.toInt x1 = x1.toInt) ((by decide) : Int32.toInt (-100000000) = (-100000000 : Int)) dJ6_stringSize_0f7a4_24 (by decide) (fun c39 => ?_) (fun c39 => ?_)
                  · refine lv_bipush (v := 10) hx hb dJ6_stringSize_0f7a4_31 (by decide) ?_
                    refine lv_iload_n hx hb dJ6_stringSize_0f7a4_33 rfl (lv_at hl 1 rfl) ?_
                    refine xi_imul hx hb ((by decide) : Int32.toInt 10 = (10 : Int)) ((by decide) : Int32.toInt (-100000000) = (-100000000 : Int)) dJ6_stringSize_0f7a4_34 (fun x40 t41 => ?_)
                    have e9 : ((-1000000000) : Int32).toInt = (-1000000000) := by decide
                    have h9 : x40 = (-1000000000) := Int32.toInt_inj.mp (by rw [e9]; omega)
                    subst h9
                    refine lv_istore_n (lv' := [(2, .int (-1000000000)), (3, .int 8), (0, .int x1), (1, .int x2)]) hx hb dJ6_stringSize_0f7a4_35 rfl hl (by decide) rfl (fun ls hl => ?_)
                    refine xi_iinc (n := 1) (lv' := fun z9 => [(3, .int z9), (2, .int (-1000000000)), (0, .int x1), (1, .int x2)]) (k := 1) hx hb ((by decide) : Int32.toInt 8 = (8 : Int)) (by decide) dJ6_stringSize_0f7a4_36 hl rfl (by decide) (fun _ => rfl) (fun x42 ls t43 hl => ?_)
                    have hl : lv_has ls 4 [(3, .int x42), (2, .int (-1000000000)), (0, .int x1), (1, .int x2)] := hl
                    have e9 : (9 : Int32).toInt = 9 := by decide
                    have h9 : x42 = 9 := Int32.toInt_inj.mp (by rw [e9]; omega)
                    subst h9
                    have hl : lv_has ls 4 [(3, .int 9), (2, .int (-1000000000)), (0, .int x1), (1, .int x2)] := hl
                    refine lv_goto (tgt := 16) hx hb dJ6_stringSize_0f7a4_39 (by decide) ?_
                    refine lv_iload_n hx hb dJ6_stringSize_0f7a4_16 rfl (lv_at hl 0 rfl) ?_
                    refine lv_bipush (v := 10) hx hb dJ6_stringSize_0f7a4_17 (by decide) ?_
                    refine xi_cge (tgt := 42) hx hb ((by decide) : Int32.toInt 9 = (9 : Int)) ((by decide) : Int32.toInt 10 = (10 : Int)) dJ6_stringSize_0f7a4_19 (by decide) (fun c => absurd c (show ¬ ((10 : Int) ≤ (9 : Int)) by decide)) (fun _ => ?_)
                    refine lv_iload_n hx hb dJ6_stringSize_0f7a4_22 rfl (lv_at hl 2 rfl) ?_
                    refine lv_iload_n hx hb dJ6_stringSize_0f7a4_23 rfl (lv_at hl 1 rfl) ?_
                    refine xi_cle (tgt := 31) hx hb (rfl : Int32.toInt x1 = x1.toInt) ((by decide) : Int32.toInt (-1000000000) = (-1000000000 : Int)) dJ6_stringSize_0f7a4_24 (by decide) (fun c44 => ?_) (fun c44 => ?_)
                    · refine lv_bipush (v := 10) hx hb dJ6_stringSize_0f7a4_31 (by decide) ?_
                      refine lv_iload_n hx hb dJ6_stringSize_0f7a4_33 rfl (lv_at hl 1 rfl) ?_
                      refine xi_imul hx hb ((by decide) : Int32.toInt 10 = (10 : Int)) ((by decide) : Int32.toInt (-1000000000) = (-1000000000 : Int)) dJ6_stringSize_0f7a4_34 (fun x45 t46 => ?_)
                      refine lv_istore_n (lv' := [(2, .int x45), (3, .int 9), (0, .int x1), (1, .int x2)]) hx hb dJ6_stringSize_0f7a4_35 rfl hl (by decide) rfl (fun ls hl => ?_)
                      refine xi_iinc (n := 1) (lv' := fun z9 => [(3, .int z9), (2, .int x45), (0, .int x1), (1, .int x2)]) (k := 1) hx hb ((by decide) : Int32.toInt 9 = (9 : Int)) (by decide) dJ6_stringSize_0f7a4_36 hl rfl (by decide) (fun _ => rfl) (fun x47 ls t48 hl => ?_)
                      have hl : lv_has ls 4 [(3, .int x47), (2, .int x45), (0, .int x1), (1, .int x2)] := hl
                      have e9 : (10 : Int32).toInt = 10 := by decide
                      have h9 : x47 = 10 := Int32.toInt_inj.mp (by rw [e9]; omega)
                      subst h9
                      have hl : lv_has ls 4 [(3, .int 10), (2, .int x45), (0, .int x1), (1, .int x2)] := hl
                      refine lv_goto (tgt := 16) hx hb dJ6_stringSize_0f7a4_39 (by decide) ?_
                      refine lv_iload_n hx hb dJ6_stringSize_0f7a4_16 rfl (lv_at hl 0 rfl) ?_
                      refine lv_bipush (v := 10) hx hb dJ6_stringSize_0f7a4_17 (by decide) ?_
                      refine xi_cge (tgt := 42) hx hb ((by decide) : Int32.toInt 10 = (10 : Int)) ((by decide) : Int32.toInt 10 = (10 : Int)) dJ6_stringSize_0f7a4_19 (by decide) (fun _ => ?_) (fun c => absurd (show (10 : Int) ≤ (10 : Int) by decide) c)
                      refine lv_bipush (v := 10) hx hb dJ6_stringSize_0f7a4_42 (by decide) ?_
                      refine lv_iload_n hx hb dJ6_stringSize_0f7a4_44 rfl (lv_at hl 3 rfl) ?_
                      refine xi_iadd hx hb ((by decide) : Int32.toInt 10 = (10 : Int)) (rfl : Int32.toInt x2 = x2.toInt) dJ6_stringSize_0f7a4_45 (fun x49 t50 => ?_)
                      exact x_ri hx hb hr hlk hQ (Nat.le_of_ble_eq_true rfl) (Nat.le_of_ble_eq_true rfl) hS dJ6_stringSize_0f7a4_46 () ⟨_, rfl, (z_J6_stringSize_0f7a4_1 p0.toInt x1.toInt x2.toInt x49.toInt hf3 t50)⟩ hh
                    · refine lv_iload_n hx hb dJ6_stringSize_0f7a4_27 rfl (lv_at hl 0 rfl) ?_
                      refine lv_iload_n hx hb dJ6_stringSize_0f7a4_28 rfl (lv_at hl 3 rfl) ?_
                      refine xi_iadd hx hb ((by decide) : Int32.toInt 9 = (9 : Int)) (rfl : Int32.toInt x2 = x2.toInt) dJ6_stringSize_0f7a4_29 (fun x51 t52 => ?_)
                      exact x_ri hx hb hr hlk hQ (Nat.le_of_ble_eq_true rfl) (Nat.le_of_ble_eq_true rfl) hS dJ6_stringSize_0f7a4_30 () ⟨_, rfl, (z_J6_stringSize_0f7a4_2 p0.toInt x1.toInt x2.toInt x51.toInt hf3 c44 t52)⟩ hh
                  · refine lv_iload_n hx hb dJ6_stringSize_0f7a4_27 rfl (lv_at hl 0 rfl) ?_
                    refine lv_iload_n hx hb dJ6_stringSize_0f7a4_28 rfl (lv_at hl 3 rfl) ?_
                    refine xi_iadd hx hb ((by decide) : Int32.toInt 8 = (8 : Int)) (rfl : Int32.toInt x2 = x2.toInt) dJ6_stringSize_0f7a4_29 (fun x53 t54 => ?_)
                    exact x_ri hx hb hr hlk hQ (Nat.le_of_ble_eq_true rfl) (Nat.le_of_ble_eq_true rfl) hS dJ6_stringSize_0f7a4_30 () ⟨_, rfl, (z_J6_stringSize_0f7a4_3 p0.toInt x1.toInt x2.toInt x53.toInt hf3 c39 t54)⟩ hh
                · refine lv_iload_n hx hb dJ6_stringSize_0f7a4_27 rfl (lv_at hl 0 rfl) ?_
                  refine lv_iload_n hx hb dJ6_stringSize_0f7a4_28 rfl (lv_at hl 3 rfl) ?_
                  refine xi_iadd hx hb ((by decide) : Int32.toInt 7 = (7 : Int)) (rfl : Int32.toInt x2 = x2.toInt) dJ6_stringSize_0f7a4_29 (fun x55 t56 => ?_)
                  exact x_ri hx hb hr hlk hQ (Nat.le_of_ble_eq_true rfl) (Nat.le_of_ble_eq_true rfl) hS dJ6_stringSize_0f7a4_30 () ⟨_, rfl, (z_J6_stringSize_0f7a4_4 p0.toInt x1.toInt x2.toInt x55.toInt hf3 c34 t56)⟩ hh
              · refine lv_iload_n hx hb dJ6_stringSize_0f7a4_27 rfl (lv_at hl 0 rfl) ?_
                refine lv_iload_n hx hb dJ6_stringSize_0f7a4_28 rfl (lv_at hl 3 rfl) ?_
                refine xi_iadd hx hb ((by decide) : Int32.toInt 6 = (6 : Int)) (rfl : Int32.toInt x2 = x2.toInt) dJ6_stringSize_0f7a4_29 (fun x57 t58 => ?_)
                exact x_ri hx hb hr hlk hQ (Nat.le_of_ble_eq_true rfl) (Nat.le_of_ble_eq_true rfl) hS dJ6_stringSize_0f7a4_30 () ⟨_, rfl, (z_J6_stringSize_0f7a4_5 p0.toInt x1.toInt x2.toInt x57.toInt hf3 c29 t58)⟩ hh
            · refine lv_iload_n hx hb dJ6_stringSize_0f7a4_27 rfl (lv_at hl 0 rfl) ?_
              refine lv_iload_n hx hb dJ6_stringSize_0f7a4_28 rfl (lv_at hl 3 rfl) ?_
              refine xi_iadd hx hb ((by decide) : Int32.toInt 5 = (5 : Int)) (rfl : Int32.toInt x2 = x2.toInt) dJ6_stringSize_0f7a4_29 (fun x59 t60 => ?_)
              exact x_ri hx hb hr hlk hQ (Nat.le_of_ble_eq_true rfl) (Nat.le_of_ble_eq_true rfl) hS dJ6_stringSize_0f7a4_30 () ⟨_, rfl, (z_J6_stringSize_0f7a4_6 p0.toInt x1.toInt x2.toInt x59.toInt hf3 c24 t60)⟩ hh
          · refine lv_iload_n hx hb dJ6_stringSize_0f7a4_27 rfl (lv_at hl 0 rfl) ?_
            refine lv_iload_n hx hb dJ6_stringSize_0f7a4_28 rfl (lv_at hl 3 rfl) ?_
            refine xi_iadd hx hb ((by decide) : Int32.toInt 4 = (4 : Int)) (rfl : Int32.toInt x2 = x2.toInt) dJ6_stringSize_0f7a4_29 (fun x61 t62 => ?_)
            exact x_ri hx hb hr hlk hQ (Nat.le_of_ble_eq_true rfl) (Nat.le_of_ble_eq_true rfl) hS dJ6_stringSize_0f7a4_30 () ⟨_, rfl, (z_J6_stringSize_0f7a4_7 p0.toInt x1.toInt x2.toInt x61.toInt hf3 c19 t62)⟩ hh
        · refine lv_iload_n hx hb dJ6_stringSize_0f7a4_27 rfl (lv_at hl 0 rfl) ?_
          refine lv_iload_n hx hb dJ6_stringSize_0f7a4_28 rfl (lv_at hl 3 rfl) ?_
          refine xi_iadd hx hb ((by decide) : Int32.toInt 3 = (3 : Int)) (rfl : Int32.toInt x2 = x2.toInt) dJ6_stringSize_0f7a4_29 (fun x63 t64 => ?_)
          exact x_ri hx hb hr hlk hQ (Nat.le_of_ble_eq_true rfl) (Nat.le_of_ble_eq_true rfl) hS dJ6_stringSize_0f7a4_30 () ⟨_, rfl, (z_J6_stringSize_0f7a4_8 p0.toInt x1.toInt x2.toInt x63.toInt hf3 c14 t64)⟩ hh
      · refine lv_iload_n hx hb dJ6_stringSize_0f7a4_27 rfl (lv_at hl 0 rfl) ?_
        refine lv_iload_n hx hb dJ6_stringSize_0f7a4_28 rfl (lv_at hl 3 rfl) ?_
        refine xi_iadd hx hb ((by decide) : Int32.toInt 2 = (2 : Int)) (rfl : Int32.toInt x2 = x2.toInt) dJ6_stringSize_0f7a4_29 (fun x65 t66 => ?_)
        exact x_ri hx hb hr hlk hQ (Nat.le_of_ble_eq_true rfl) (Nat.le_of_ble_eq_true rfl) hS dJ6_stringSize_0f7a4_30 () ⟨_, rfl, (z_J6_stringSize_0f7a4_9 p0.toInt x1.toInt x2.toInt x65.toInt hf3 c9 t66)⟩ hh
    · refine lv_iload_n hx hb dJ6_stringSize_0f7a4_27 rfl (lv_at hl 0 rfl) ?_
      refine lv_iload_n hx hb dJ6_stringSize_0f7a4_28 rfl (lv_at hl 3 rfl) ?_
      refine xi_iadd hx hb ((by decide) : Int32.toInt 1 = (1 : Int)) (rfl : Int32.toInt x2 = x2.toInt) dJ6_stringSize_0f7a4_29 (fun x67 t68 => ?_)
      exact x_ri hx hb hr hlk hQ (Nat.le_of_ble_eq_true rfl) (Nat.le_of_ble_eq_true rfl) hS dJ6_stringSize_0f7a4_30 () ⟨_, rfl, (z_J6_stringSize_0f7a4_10 p0.toInt x1.toInt x2.toInt x67.toInt hf3 c4 t68)⟩ hh
  refine xi_zlt (tgt := 11) hx hb (rfl : Int32.toInt p0 = p0.toInt) dJ6_stringSize_0f7a4_3 (by decide) (fun c69 => ?_) (fun c69 => ?_)
  · exact J11 p0 1 _ _ (z_J6_stringSize_0f7a4_11 p0.toInt c69) hT hS (lv_sub hl [1, 0] rfl)
  · refine lv_iconst (v := 0) hx hb dJ6_stringSize_0f7a4_6 (by decide) ?_
    refine lv_istore_n (lv' := [(1, .int 0), (0, .int p0)]) hx hb dJ6_stringSize_0f7a4_7 rfl hl (by decide) rfl (fun ls hl => ?_)
    refine lv_iload_n hx hb dJ6_stringSize_0f7a4_8 rfl (lv_at hl 1 rfl) ?_
    refine xi_ineg hx hb (rfl : Int32.toInt p0 = p0.toInt) dJ6_stringSize_0f7a4_9 (fun x70 t71 => ?_)
    refine lv_istore_n (lv' := [(0, .int x70), (1, .int 0)]) hx hb dJ6_stringSize_0f7a4_10 rfl hl (by decide) rfl (fun ls hl => ?_)
    exact J11 x70 0 _ _ (z_J6_stringSize_0f7a4_12 p0.toInt x70.toInt c69 t71 (xr p0)) hT hS (lv_sub hl [0, 1] rfl)
