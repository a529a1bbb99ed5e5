abbrev rm_J6_bitCount_0f7a4 : Room := { frames := 0, cells := 0, slots := 0, locals := 0 }
set_option maxHeartbeats 4000000 in
set_option maxRecDepth 100000 in
theorem c_J6_bitCount_0f7a4 (l : Launch) (E : XE) (K : Nat → Nat) (F : Nat → Nat → Nat) (G : XG) (h0 : Heap) (p0 : Int32) (n0 : 0 ≤ p0.toInt) : Met l yJ6_bitCount_0f7a4 (xw yJ6_bitCount_0f7a4 cJ6_bitCount_0f7a4 1 (some .int)) rm_J6_bitCount_0f7a4 (va_Pc [.int p0] (XPh E K F G h0)) (XQ E (fun v (u : Unit) => ∃ r : Int32, v = .int r ∧ (r.toInt = ((p32 (p0.toInt).toNat : Nat) : Int))) (fun _ H => H = h0)) 0 0 (xA E) := by
  refine x_enter (by decide) (Nat.le_of_ble_eq_true rfl) ?_
  intro p e s m args below meth c Q S hr hlk hnm hQ hP ls hl
  obtain ⟨⟨hz, hK, hT⟩, hh⟩ := hP
  obtain ⟨hx, hb, -, -, -⟩ := id S
  have hS : va_S (xA E) s.heap s.heap [] := va_S.rf
  have hl : lv_has ls 1 [(0, .int p0)] := hl
  refine lv_iload_n hx hb dJ6_bitCount_0f7a4_0 rfl (lv_at hl 0 rfl) ?_
  refine lv_iload_n hx hb dJ6_bitCount_0f7a4_1 rfl (lv_at hl 0 rfl) ?_
  refine lv_iconst (v := 1) hx hb dJ6_bitCount_0f7a4_2 (by decide) ?_
  refine lv_iushr hx hb dJ6_bitCount_0f7a4_3 rfl (lv_topi (fun x3 eb3 => ?_))
  refine lv_ldcw (v := 1431655765) hx hb S.2.2.2.1 (S.2.2.2.2 _ (List.mem_cons_of_mem _ kc_J6_265)) dJ6_bitCount_0f7a4_4 ?_
  refine lv_iand hx hb dJ6_bitCount_0f7a4_7 (lv_topi (fun x7 he7 => ?_))
  refine xi_isub hx hb (rfl : Int32.toInt p0 = p0.toInt) (rfl : Int32.toInt x7 = x7.toInt) dJ6_bitCount_0f7a4_8 (fun x8 t8 => ?_)
  refine lv_istore_n (lv' := [(0, .int x8)]) hx hb dJ6_bitCount_0f7a4_9 rfl hl (by decide) rfl (fun ls hl => ?_)
  refine lv_iload_n hx hb dJ6_bitCount_0f7a4_10 rfl (lv_at hl 0 rfl) ?_
  refine lv_ldcw (v := 858993459) hx hb S.2.2.2.1 (S.2.2.2.2 _ (List.mem_cons_of_mem _ kc_J6_266)) dJ6_bitCount_0f7a4_11 ?_
  refine lv_iand hx hb dJ6_bitCount_0f7a4_14 (lv_topi (fun x14 he14 => ?_))
  refine lv_iload_n hx hb dJ6_bitCount_0f7a4_15 rfl (lv_at hl 0 rfl) ?_
  refine lv_iconst (v := 2) hx hb dJ6_bitCount_0f7a4_16 (by decide) ?_
  refine lv_iushr hx hb dJ6_bitCount_0f7a4_17 rfl (lv_topi (fun x17 eb17 => ?_))
  refine lv_ldcw (v := 858993459) hx hb S.2.2.2.1 (S.2.2.2.2 _ (List.mem_cons_of_mem _ kc_J6_266)) dJ6_bitCount_0f7a4_18 ?_
  refine lv_iand hx hb dJ6_bitCount_0f7a4_21 (lv_topi (fun x21 he21 => ?_))
  refine xi_iadd hx hb (rfl : Int32.toInt x14 = x14.toInt) (rfl : Int32.toInt x21 = x21.toInt) dJ6_bitCount_0f7a4_22 (fun x22 t22 => ?_)
  refine lv_istore_n (lv' := [(0, .int x22)]) hx hb dJ6_bitCount_0f7a4_23 rfl hl (by decide) rfl (fun ls hl => ?_)
  refine lv_iload_n hx hb dJ6_bitCount_0f7a4_24 rfl (lv_at hl 0 rfl) ?_
  refine lv_iload_n hx hb dJ6_bitCount_0f7a4_25 rfl (lv_at hl 0 rfl) ?_
  refine lv_iconst (v := 4) hx hb dJ6_bitCount_0f7a4_26 (by decide) ?_
  refine lv_iushr hx hb dJ6_bitCount_0f7a4_27 rfl (lv_topi (fun x27 eb27 => ?_))
  refine xi_iadd hx hb (rfl : Int32.toInt x22 = x22.toInt) (rfl : Int32.toInt x27 = x27.toInt) dJ6_bitCount_0f7a4_28 (fun x28 t28 => ?_)
  refine lv_ldcw (v := 252645135) hx hb S.2.2.2.1 (S.2.2.2.2 _ (List.mem_cons_of_mem _ kc_J6_267)) dJ6_bitCount_0f7a4_29 ?_
  refine lv_iand hx hb dJ6_bitCount_0f7a4_32 (lv_topi (fun x32 he32 => ?_))
  refine lv_istore_n (lv' := [(0, .int x32)]) hx hb dJ6_bitCount_0f7a4_33 rfl hl (by decide) rfl (fun ls hl => ?_)
  refine lv_iload_n hx hb dJ6_bitCount_0f7a4_34 rfl (lv_at hl 0 rfl) ?_
  refine lv_iload_n hx hb dJ6_bitCount_0f7a4_35 rfl (lv_at hl 0 rfl) ?_
  refine lv_bipush (v := 8) hx hb dJ6_bitCount_0f7a4_36 (by decide) ?_
  refine lv_iushr hx hb dJ6_bitCount_0f7a4_38 rfl (lv_topi (fun x38 eb38 => ?_))
  refine xi_iadd hx hb (rfl : Int32.toInt x32 = x32.toInt) (rfl : Int32.toInt x38 = x38.toInt) dJ6_bitCount_0f7a4_39 (fun x39 t39 => ?_)
  refine lv_istore_n (lv' := [(0, .int x39)]) hx hb dJ6_bitCount_0f7a4_40 rfl hl (by decide) rfl (fun ls hl => ?_)
  refine lv_iload_n hx hb dJ6_bitCount_0f7a4_41 rfl (lv_at hl 0 rfl) ?_
  refine lv_iload_n hx hb dJ6_bitCount_0f7a4_42 rfl (lv_at hl 0 rfl) ?_
  refine lv_bipush (v := 16) hx hb dJ6_bitCount_0f7a4_43 (by decide) ?_
  refine lv_iushr hx hb dJ6_bitCount_0f7a4_45 rfl (lv_topi (fun x45 eb45 => ?_))
  refine xi_iadd hx hb (rfl : Int32.toInt x39 = x39.toInt) (rfl : Int32.toInt x45 = x45.toInt) dJ6_bitCount_0f7a4_46 (fun x46 t46 => ?_)
  refine lv_istore_n (lv' := [(0, .int x46)]) hx hb dJ6_bitCount_0f7a4_47 rfl hl (by decide) rfl (fun ls hl => ?_)
  refine lv_iload_n hx hb dJ6_bitCount_0f7a4_48 rfl (lv_at hl 0 rfl) ?_
  refine lv_bipush (v := 63) hx hb dJ6_bitCount_0f7a4_49 (by decide) ?_
  refine lv_iand hx hb dJ6_bitCount_0f7a4_51 (lv_topi (fun x51 he51 => ?_))
  exact x_ri hx hb hr hlk hQ (Nat.le_of_ble_eq_true rfl) (Nat.le_of_ble_eq_true rfl) hS dJ6_bitCount_0f7a4_52 () ⟨_, rfl, (v_J6_bitCount_0f7a4_52_1 x3 p0 x7 x14 x8 x17 x21 x27 x22 x32 x28 x38 x45 x39 x51 x46 eb3 he7 he14 eb17 he21 eb27 he32 eb38 eb45 he51 n0 t8 t22 t28 t39 t46)⟩ hh

theorem z_X6_size_2 (a0 : Int) (a1 : Int) (a2 : Int) (h0 : ((0 ≤ a0 ∧ a0 < 3) ∧ a1 = a2) ∨ (¬ (0 ≤ a0 ∧ a0 < 3) ∧ a1 = 0)) (h1 : 0 ≤ a1 ∧ a1 ≤ 30) : (((0 ≤ a0 ∧ a0 < 3) ∧ a1 = a2) ∨ (¬ (0 ≤ a0 ∧ a0 < 3) ∧ a1 = 0)) ∧ (0 ≤ a1 ∧ a1 ≤ 30) := by omega
abbrev rm_X6_size : Room := { frames := 2, cells := 0, slots := 0, locals := 41 }
set_option maxHeartbeats 4000000 in
set_option maxRecDepth 100000 in
theorem c_X6_size (l : Launch) (E : XE) (K : Nat → Nat) (F : Nat → Nat → Nat) (G : XG) (h0 : Heap) (a : Nat) (p0 : Int32) (ha : K a = 8) (hro : RO (vw (G.2.1 (F a 0))) (aI (G.2.1 (F a 1)))) : Met l yX6_size (xw yX6_size cX6_size 2 (some .int)) rm_X6_size (va_Pc [.ref a, .int p0] (XPh E K F G h0)) (XQ E (fun v (u : Unit) => ∃ r : Int32, v = .int r ∧ ((((0 ≤ p0.toInt ∧ p0.toInt < 3) ∧ r.toInt = (szB (aI (G.2.1 (F a 1))) (p0.toInt))) ∨ (¬ (0 ≤ p0.toInt ∧ p0.toInt < 3) ∧ r.toInt = 0)) ∧ (0 ≤ r.toInt ∧ r.toInt ≤ 30))) (fun _ H => H = h0)) 0 0 (xA E) := by
  refine x_enter (by decide) (Nat.le_of_ble_eq_true rfl) ?_
  intro p e s m args below meth c Q S hr hlk hnm hQ hP ls hl
  obtain ⟨⟨hz, hK, hT⟩, hh⟩ := hP
  obtain ⟨hx, hb, -, -, -⟩ := id S
  have hS : va_S (xA E) s.heap s.heap [] := va_S.rf
  have hl : lv_has ls 2 [(0, .ref a), (1, .int p0)] := hl
  obtain ⟨hk9999, hj9999⟩ := fkX6_0 hT ha
  obtain ⟨hk9999a, hj9999a⟩ := fkX6_1 hT ha
  refine lv_aload_n hx hb dX6_size_0 rfl (lv_at hl 0 rfl) ?_
  refine lv_iload_n hx hb dX6_size_1 rfl (lv_at hl 1 rfl) ?_
  refine x_clp (x_runV (b := a) (As := [.int p0]) (rest := []) S (c_X6_keyBits l E K F G s.heap a p0 ha) mv_X6_keyBits km_X6_38 rfl rfl ⟨Nat.le_of_ble_eq_true rfl, Nat.le_of_ble_eq_true rfl⟩ (rc_8 hK hT ha) hK (fun _ => XPh.blind) (fun U hU hW => XPh.at hK hz hS hT hU hW) rfl hl.1 (Nat.le_of_ble_eq_true rfl) dX6_size_2 ⟨Nat.le_of_ble_eq_true rfl, Nat.le_of_ble_eq_true rfl⟩) hS ?_
  rintro _ _ locs ⟨x2, rfl, t2⟩ hS
  have t2 : (0 ≤ p0.toInt ∧ p0.toInt < 3 ∧ x2.toInt = (aI (G.2.1 (F a 1)) (p0.toInt))) ∨ ((p0.toInt < 0 ∨ 3 ≤ p0.toInt) ∧ x2.toInt = 0) := t2
  have z5 : 0 ≤ x2.toInt := sz_p (z := G.2.1 (F a 1) (p0.toInt).toNat) hro rfl t2
  refine x_clp (x_runS (As := [.int x2]) (rest := []) S (c_J6_bitCount_0f7a4 l E K F G s.heap x2 (z5)) ms_J6_bitCount_0f7a4 km_X6_42 rfl rfl ⟨Nat.le_of_ble_eq_true rfl, Nat.le_of_ble_eq_true rfl⟩ hK (fun _ => XPh.blind) (fun U hU hW => XPh.at hK hz hS hT hU hW) rfl hl.1 (Nat.le_of_ble_eq_true rfl) dX6_size_5 ⟨Nat.le_of_ble_eq_true rfl, Nat.le_of_ble_eq_true rfl⟩) hS ?_
  rintro _ _ locs ⟨x5, rfl, oq5⟩ hS
  have z8 : ((0 ≤ p0.toInt ∧ p0.toInt < 3) ∧ x5.toInt = (szB (aI (G.2.1 (F a 1))) (p0.toInt))) ∨ (¬ (0 ≤ p0.toInt ∧ p0.toInt < 3) ∧ x5.toInt = 0) := (sz_bd (z := G.2.1 (F a 1) (p0.toInt).toNat) hro rfl t2 oq5).1
  have z8a : 0 ≤ x5.toInt ∧ x5.toInt ≤ 30 := (sz_bd (z := G.2.1 (F a 1) (p0.toInt).toNat) hro rfl t2 oq5).2
  exact x_ri hx hb hr hlk hQ (Nat.le_of_ble_eq_true rfl) (Nat.le_of_ble_eq_true rfl) hS dX6_size_8 () ⟨_, rfl, (z_X6_size_2 p0.toInt x5.toInt (szB (aI (G.2.1 (F a 1))) (p0.toInt)) z8 z8a)⟩ hh

theorem z_X6_total_1 (a0 : Int) (h0 : 0 ≤ a0 ∧ a0 ≤ 3) : ¬ (100 - a0 < ((0 : Nat) : Int)) := by omega
theorem z_X6_total_2 (a0 : Int) (a1 : Int) (a2 : Int) (a3 : Int) (h0 : 0 ≤ a1 ∧ a1 ≤ 3) (h1 : a0 = a2) (h2 : 0 ≤ a0 ∧ a0 ≤ 30 * a1) (h3 : (3 : Int) ≤ a1) (h4 : a1 = 3 → a2 = a3) : a0 = a3 ∧ (0 ≤ a0 ∧ a0 ≤ 90) := by omega
theorem z_X6_total_3 (a0 : Int) (h0 : 0 ≤ a0 ∧ a0 ≤ 3) : 0 ≤ a0 := by omega
theorem z_X6_total_4 (a0 : Int) (a1 : Int) (h0 : 0 ≤ a0 ∧ a0 ≤ 3) (h1 : a1 = (a0 + 1) ∨ (a0 + 1) < -2147483648 ∨ 2147483648 ≤ (a0 + 1)) : a1 = (a0 + 1) := by omega
theorem z_X6_total_5 (a0 : Int) (h0 : 0 ≤ a0 ∧ a0 ≤ 3) (h1 : ¬ ((3 : Int) ≤ a0)) : 0 ≤ (a0 + 1) ∧ (a0 + 1) ≤ 3 := by omega
theorem z_X6_total_6 (a0 : Int) (a1 : Int) (a2 : Int) (a3 : Int) (a4 : Int) (a5 : Int) (a6 : Int) (h0 : a0 = a6) (h1 : 0 ≤ a0 ∧ a0 ≤ 30 * a1) (h2 : ¬ ((3 : Int) ≤ a1)) (h3 : a5 = a6 + a4) (h4 : ((0 ≤ a1 ∧ a1 < 3) ∧ a2 = a4) ∨ (¬ (0 ≤ a1 ∧ a1 < 3) ∧ a2 = 0)) (h5 : 0 ≤ a2 ∧ a2 ≤ 30) (h6 : a3 = a0 + a2 ∨ a0 + a2 < -2147483648 ∨ 2147483648 ≤ a0 + a2) : a3 = a5 := by omega
theorem z_X6_total_7 (a0 : Int) (a1 : Int) (a2 : Int) (a3 : Int) (h0 : 0 ≤ a0 ∧ a0 ≤ 30 * a1) (h1 : ¬ ((3 : Int) ≤ a1)) (h2 : 0 ≤ a2 ∧ a2 ≤ 30) (h3 : a3 = a0 + a2 ∨ a0 + a2 < -2147483648 ∨ 2147483648 ≤ a0 + a2) : 0 ≤ a3 ∧ a3 ≤ 30 * (a1 + 1) := by omega
theorem z_X6_total_8 (a0 : Int) (a1 : Nat) (h0 : 100 - a0 < ((a1 + 1 : Nat) : Int)) : 100 - (a0 + 1) < ((a1 : Nat) : Int) := by omega
theorem z_X6_total_9 (a0 : Int) (h0 : a0 = 0) : (0 : Int) = a0 := by omega
abbrev rm_X6_total : Room := { frames := 3, cells := 0, slots := 0, locals := 62 }
set_option maxHeartbeats 4000000 in
set_option maxRecDepth 100000 in
theorem c_X6_total (l : Launch) (E : XE) (K : Nat → Nat) (F : Nat → Nat → Nat) (G : XG) (h0 : Heap) (a : Nat) (ha : K a = 8) (hro : RO (vw (G.2.1 (F a 0))) (aI (G.2.1 (F a 1)))) : Met l yX6_total (xw yX6_total cX6_total 3 (some .int)) rm_X6_total (va_Pc [.ref a] (XPh E K F G h0)) (XQ E (fun v (u : Unit) => ∃ r : Int32, v = .int r ∧ (r.toInt = (toB (aI (G.2.1 (F a 1))) 3) ∧ (0 ≤ r.toInt ∧ r.toInt ≤ 90))) (fun _ H => H = h0)) 0 0 (xA E) := by
  refine x_enter (by decide) (Nat.le_of_ble_eq_true rfl) ?_
  intro p e s m args below meth c Q S hr hlk hnm hQ hP ls hl
  obtain ⟨⟨hz, hK, hT⟩, hh⟩ := hP
  obtain ⟨hx, hb, -, -, -⟩ := id S
  have hS : va_S (xA E) s.heap s.heap [] := va_S.rf
  have hl : lv_has ls 3 [(0, .ref a)] := hl
  obtain ⟨hk9999, hj9999⟩ := fkX6_0 hT ha
  obtain ⟨hk9999a, hj9999a⟩ := fkX6_1 hT ha
  have z0 : (toB (aI (G.2.1 (F a 1))) 0) = 0 := toB_0 _
  refine lv_iconst (v := 0) hx hb dX6_total_0 (by decide) ?_
  refine lv_istore_n (lv' := [(1, .int 0), (0, .ref a)]) hx hb dX6_total_1 rfl hl (by decide) rfl (fun ls hl => ?_)
  refine lv_iconst (v := 0) hx hb dX6_total_2 (by decide) ?_
  refine lv_istore_n (lv' := [(2, .int 0), (1, .int 0), (0, .ref a)]) hx hb dX6_total_3 rfl hl (by decide) rfl (fun ls hl => ?_)
  have L4 : ∀ (N4 : Nat) (l1_4 : Int32) (l2_4 : Int32) (locs : List Loc) (ls : Array Slot), 0 ≤ l2_4.toInt ∧ l2_4.toInt ≤ 3 → l1_4.toInt = (toB (aI (G.2.1 (F a 1))) (l2_4.toInt)) → 0 ≤ l1_4.toInt ∧ l1_4.toInt ≤ 30 * l2_4.toInt → 100 - l2_4.toInt < ((N4 : Nat) : Int) → TW E K F G s.heap → va_S (xA E) s.heap s.heap locs → lv_has ls 3 [(0, .ref a), (1, .int l1_4), (2, .int l2_4)] → W p l e rm_X6_total s m args below meth c s.heap locs 0 0 Q (F0 m 4 ls []) := by
    intro N4
    induction N4 with
    | zero =>
      intro l1_4 l2_4 locs ls I4_0 I4_1 I4_2 hm4
      exact absurd hm4 (z_X6_total_1 l2_4.toInt I4_0)
    | succ N4 ih4 =>
      intro l1_4 l2_4 locs ls I4_0 I4_1 I4_2 hm4 hT hS hl
      refine lv_iload_n hx hb dX6_total_4 rfl (lv_at hl 2 rfl) ?_
      refine lv_iconst (v := 3) hx hb dX6_total_5 (by decide) ?_
      refine xi_cge (tgt := 23) hx hb (rfl : Int32.toInt l2_4 = l2_4.toInt) ((by decide) : Int32.toInt 3 = (3 : Int)) dX6_total_6 (by decide) (fun c6 => ?_) (fun c6 => ?_)
      · have z23 : l2_4.toInt = 3 → (toB (aI (G.2.1 (F a 1))) (l2_4.toInt)) = (toB (aI (G.2.1 (F a 1))) 3) := fun h9 => by rw [h9]
        refine lv_iload_n hx hb dX6_total_23 rfl (lv_at hl 1 rfl) ?_
        exact x_ri hx hb hr hlk hQ (Nat.le_of_ble_eq_true rfl) (Nat.le_of_ble_eq_true rfl) hS dX6_total_24 () ⟨_, rfl, (z_X6_total_2 l1_4.toInt l2_4.toInt (toB (aI (G.2.1 (F a 1))) (l2_4.toInt)) (toB (aI (G.2.1 (F a 1))) 3) I4_0 I4_1 I4_2 c6 z23)⟩ hh
      · have z9 : (toB (aI (G.2.1 (F a 1))) (l2_4.toInt + 1)) = (toB (aI (G.2.1 (F a 1))) (l2_4.toInt)) + (szB (aI (G.2.1 (F a 1))) (l2_4.toInt)) := toB_s _ (z_X6_total_3 l2_4.toInt I4_0)
        refine lv_iload_n hx hb dX6_total_9 rfl (lv_at hl 1 rfl) ?_
        refine lv_aload_n hx hb dX6_total_10 rfl (lv_at hl 0 rfl) ?_
        refine lv_iload_n hx hb dX6_total_11 rfl (lv_at hl 2 rfl) ?_
        refine x_clp (x_runV (b := a) (As := [.int l2_4]) (rest := [.int l1_4]) S (c_X6_size l E K F G s.heap a l2_4 ha (v_X6_total_12_1 (F := F) a G hro)) mv_X6_size km_X6_47 rfl rfl ⟨Nat.le_of_ble_eq_true rfl, Nat.le_of_ble_eq_true rfl⟩ (rc_8 hK hT ha) hK (fun _ => XPh.blind) (fun U hU hW => XPh.at hK hz hS hT hU hW) rfl hl.1 (Nat.le_of_ble_eq_true rfl) dX6_total_12 ⟨Nat.le_of_ble_eq_true rfl, Nat.le_of_ble_eq_true rfl⟩) hS ?_
        rintro _ _ locs ⟨x12, rfl, t12⟩ hS
        have t12 : (((0 ≤ l2_4.toInt ∧ l2_4.toInt < 3) ∧ x12.toInt = (szB (aI (G.2.1 (F a 1))) (l2_4.toInt))) ∨ (¬ (0 ≤ l2_4.toInt ∧ l2_4.toInt < 3) ∧ x12.toInt = 0)) ∧ (0 ≤ x12.toInt ∧ x12.toInt ≤ 30) := t12
        refine xi_iadd hx hb (rfl : Int32.toInt l1_4 = l1_4.toInt) (rfl : Int32.toInt x12 = x12.toInt) dX6_total_15 (fun x15 t15 => ?_)
        refine lv_istore_n (lv' := [(1, .int x15), (0, .ref a), (2, .int l2_4)]) hx hb dX6_total_16 rfl hl (by decide) rfl (fun ls hl => ?_)
        refine xi_iinc (n := 1) (lv' := fun z9 => [(2, .int z9), (1, .int x15), (0, .ref a)]) (k := 2) hx hb (rfl : Int32.toInt l2_4 = l2_4.toInt) (by decide) dX6_total_17 hl rfl (by decide) (fun _ => rfl) (fun x17 ls t17 hl => ?_)
        have e17 : x17.toInt = (l2_4.toInt + 1) := (z_X6_total_4 l2_4.toInt x17.toInt I4_0 t17)
        have hl : lv_has ls 3 [(2, .int x17), (1, .int x15), (0, .ref a)] := hl
        refine lv_goto (tgt := 4) hx hb dX6_total_20 (by decide) ?_
        exact ih4 x15 x17 _ _ (by rw [(e17 : Int32.toInt x17 = (l2_4.toInt + 1))] <;> exact (z_X6_total_5 l2_4.toInt I4_0 c6)) (by rw [(e17 : Int32.toInt x17 = (l2_4.toInt + 1))] <;> exact (z_X6_total_6 l1_4.toInt l2_4.toInt x12.toInt x15.toInt (szB (aI (G.2.1 (F a 1))) (l2_4.toInt)) (toB (aI (G.2.1 (F a 1))) (l2_4.toInt + 1)) (toB (aI (G.2.1 (F a 1))) (l2_4.toInt)) I4_1 I4_2 c6 z9 (t12).1 (t12).2 t15)) (by rw [(e17 : Int32.toInt x17 = (l2_4.toInt + 1))] <;> exact (z_X6_total_7 l1_4.toInt l2_4.toInt x12.toInt x15.toInt I4_2 c6 (t12).2 t15)) (by rw [(e17 : Int32.toInt x17 = (l2_4.toInt + 1))] <;> exact (z_X6_total_8 l2_4.toInt N4 hm4)) hT hS (lv_sub hl [2, 1, 0] rfl)
  exact L4 4294967297 0 0 _ _ (by decide) (z_X6_total_9 (toB (aI (G.2.1 (F a 1))) 0) z0) (by decide) (by decide) hT hS (lv_sub hl [2, 1, 0] rfl)

theorem z_X10_begin_1 (a0 : Int) (h0 : -2147483648 ≤ a0 ∧ a0 < 2147483648) : ¬ (2147483648 - a0 < ((0 : Nat) : Int)) := by omega
theorem z_X10_begin_2 (a0 : Int) (a1 : Int) (a2 : Int) (h0 : a1 = 0) (h1 : a0 = a2 ∧ (0 ≤ a0 ∧ a0 ≤ 90)) : (a1 ≠ 0 ∧ a0 = -3 ∧ (1 : Int) = a1) ∨ (a1 = 0 ∧ (1 : Int) = 1 ∧ a0 = a2) := by omega
theorem z_X10_begin_3 (a0 : Int) (h0 : (0 : Int) ≤ a0) (h1 : ¬ ((6 : Int) ≤ a0)) : 0 ≤ a0 ∧ a0 < ((6 : Nat) : Int) := by omega
theorem z_X10_begin_4 (a0 : Int) (a1 : Int) (h0 : (0 : Int) ≤ a0) (h1 : ¬ ((6 : Int) ≤ a0)) (h2 : a1 = (a0 + 1) ∨ (a0 + 1) < -2147483648 ∨ 2147483648 ≤ (a0 + 1)) : a1 = (a0 + 1) := by omega
theorem z_X10_begin_5 (a0 : Int) (h0 : (0 : Int) ≤ a0) : (0 : Int) ≤ (a0 + 1) := by omega
theorem z_X10_begin_6 (a0 : Int) (a1 : Nat) (h0 : 2147483648 - a0 < ((a1 + 1 : Nat) : Int)) : 2147483648 - (a0 + 1) < ((a1 : Nat) : Int) := by omega
theorem z_X10_begin_7 (a0 : Int) (a1 : Int) (h0 : ¬ (a0 = 0)) : (a0 ≠ 0 ∧ (-3 : Int) = -3 ∧ a0 = a0) ∨ (a0 = 0 ∧ a0 = 1 ∧ (-3 : Int) = a1) := by omega
abbrev rm_X10_begin : Room := { frames := 4, cells := 0, slots := 0, locals := 84 }
set_option maxHeartbeats 4000000 in
set_option maxRecDepth 100000 in
theorem c_X10_begin (l : Launch) (E : XE) (K : Nat → Nat) (F : Nat → Nat → Nat) (G : XG) (a : Nat) (ha : K a = 12) (ron : RO (vw (G.2.1 (F (F a 3) 0))) (aI (G.2.1 (F (F a 3) 1)))) (rob : RO (vw (G.2.1 (F (F a 4) 0))) (aI (G.2.1 (F (F a 4) 1)))) : Met l yX10_begin (xw yX10_begin cX10_begin 2 (some .int)) rm_X10_begin (va_Pc [.ref a] (XP E K F G)) (XQ E (fun v (u : XG) => ∃ r : Int32, v = .int r ∧ XFr [(a, 18)] [F (F a 4) 0, F (F a 4) 1, F a 15] [] G u ∧ ((((G.1 a 18).toInt) ≠ 0 ∧ r.toInt = -3 ∧ ((u.1 a 18).toInt) = ((G.1 a 18).toInt)) ∨ (((G.1 a 18).toInt) = 0 ∧ ((u.1 a 18).toInt) = 1 ∧ r.toInt = (toB (aI (G.2.1 (F (F a 3) 1))) 3))) ∧ ((((G.1 a 18).toInt) ≠ 0 ∧ (vw (u.2.1 (F (F a 4) 0))) = (vw (G.2.1 (F (F a 4) 0)))) ∨ (((G.1 a 18).toInt) = 0 ∧ (vw (u.2.1 (F (F a 4) 0))) = (vw (G.2.1 (F (F a 3) 0))))) ∧ (RO (vw (u.2.1 (F (F a 4) 0))) (aI (u.2.1 (F (F a 4) 1))))) (fun u H => TW E K F u H)) 0 0 (xA E) := by
  refine x_enter (by decide) (Nat.le_of_ble_eq_true rfl) ?_
  intro p e s m args below meth c Q S hr hlk hnm hQ hP ls hl
  obtain ⟨hz, hK, hT⟩ := hP
  obtain ⟨hx, hb, -, -, -⟩ := id S
  obtain ⟨H, hT, hS, hgo⟩ : ∃ H : Heap, TW E K F G H ∧ va_S (xA E) s.heap H [] ∧ H = s.heap := ⟨_, hT, va_S.rf, rfl⟩
  rw [← hgo]
  have hl : lv_has ls 2 [(0, .ref a)] := hl
  obtain ⟨hk9999, hj9999⟩ := fkX10_4 hT ha
  obtain ⟨hk9999a, hj9999a⟩ := fkX6_0 hT hk9999
  have hj9999b : F (F (F a 4) 0) 99 = 1 := by rw [hj9999a, hj9999]
  obtain ⟨hk9999b, hj9999c⟩ := fkX6_1 hT hk9999
  have hj9999d : F (F (F a 4) 1) 99 = 1 := by rw [hj9999c, hj9999]
  obtain ⟨hk9999c, hj9999e⟩ := fkX10_15 hT ha
  obtain ⟨hk9999d, hj9999f⟩ := fkX10_3 hT ha
  obtain ⟨hk9999e, hj9999g⟩ := fkX6_0 hT hk9999d
  have hj9999h : F (F (F a 3) 0) 99 = 0 := by rw [hj9999g, hj9999f]
  obtain ⟨hk9999f, hj9999i⟩ := fkX6_1 hT hk9999d
  have hj9999j : F (F (F a 3) 1) 99 = 0 := by rw [hj9999i, hj9999f]
  refine lv_aload_n hx hb dX10_begin_0 rfl (lv_at hl 0 rfl) ?_
  refine gX10_18 S hK hT ha kf_X10_123 dX10_begin_1 (v := (G.1 a 18)) rfl (fun hz1 => ?_)
  refine xi_zeq (tgt := 10) hx hb (rfl : Int32.toInt (G.1 a 18) = ((G.1 a 18).toInt)) dX10_begin_4 (by decide) (fun c4 => ?_) (fun c4 => ?_)
  · refine lv_aload_n hx hb dX10_begin_10 rfl (lv_at hl 0 rfl) ?_
    refine lv_iconst (v := 1) hx hb dX10_begin_11 (by decide) ?_
    refine pX10_18 (v := 1) S hK hT hS ha kf_X10_123 (Or.inr rfl) dX10_begin_12 (fun H locs hT hS => ?_)
    obtain ⟨G12, hG12⟩ : ∃ GG : XG, GG = dput G a 18 1 := ⟨_, rfl⟩
    rw [← hG12] at hT
    refine lv_aload_n hx hb dX10_begin_15 rfl (lv_at hl 0 rfl) ?_
    refine gX10_4 S hK hT ha kf_X10_41 dX10_begin_16 (fun _ _ => ?_)
    refine lv_aload_n hx hb dX10_begin_19 rfl (lv_at hl 0 rfl) ?_
    refine gX10_3 S hK hT ha kf_X10_37 dX10_begin_20 (fun _ _ => ?_)
    refine x_cv0 (x_runV (b := (F a 4)) (As := [.ref (F a 3)]) (rest := []) S (c_X6_copy l E K F G12 (F a 4) (F a 3) hk9999 hk9999d (v_X10_begin_23_1 (F := F) a G12 G ron rob (ld_c hG12) (ld_c hG12))) mv_X6_copy km_X10_195 rfl rfl ⟨Nat.le_of_ble_eq_true rfl, Nat.le_of_ble_eq_true rfl⟩ (rc_8 hK hT hk9999) hK (fun _ => XP.blind) (fun U hU hW => XP.at hK hz hS hT hU hW) rfl hl.1 (Nat.le_of_ble_eq_true rfl) dX10_begin_23 ⟨Nat.le_of_ble_eq_true rfl, Nat.le_of_ble_eq_true rfl⟩) hS ?_
    rintro G23 H locs ⟨hF23, oq23, oq23a⟩ hT hS
    have oq23 : (vw (G23.2.1 (F (F a 4) 0))) = (vw (G.2.1 (F (F a 3) 0))) := by simp only [(show G12.2.1 (F (F a 3) 0) = G.2.1 (F (F a 3) 0) from (ld_c hG12))] at oq23; exact oq23
    refine lv_iconst (v := 0) hx hb dX10_begin_26 (by decide) ?_
    refine lv_istore_n (lv' := [(1, .int 0), (0, .ref a)]) hx hb dX10_begin_27 rfl hl (by decide) rfl (fun ls hl => ?_)
    have L28 : ∀ (N28 : Nat) (l1_28 : Int32) (G_28 : XG) (H : Heap) (locs : List Loc) (ls : Array Slot), XFr [] [F a 15] [] G23 G_28 → (0 : Int) ≤ l1_28.toInt → 2147483648 - l1_28.toInt < ((N28 : Nat) : Int) → TW E K F G_28 H → va_S (xA E) s.heap H locs → lv_has ls 2 [(0, .ref a), (1, .int l1_28)] → W p l e rm_X10_begin s m args below meth c H locs 0 0 Q (F0 m 28 ls []) := by
      intro N28
      induction N28 with
      | zero =>
        intro l1_28 G_28 H locs ls hF_28 I28_0 hm28
        exact absurd hm28 (z_X10_begin_1 l1_28.toInt (xr l1_28))
      | succ N28 ih28 =>
        intro l1_28 G_28 H locs ls hF_28 I28_0 hm28 hT hS hl
        refine lv_iload_n hx hb dX10_begin_28 rfl (lv_at hl 1 rfl) ?_
        refine lv_bipush (v := 6) hx hb dX10_begin_29 (by decide) ?_
        refine xi_cge (tgt := 47) hx hb (rfl : Int32.toInt l1_28 = l1_28.toInt) ((by decide) : Int32.toInt 6 = (6 : Int)) dX10_begin_31 (by decide) (fun c31 => ?_) (fun c31 => ?_)
        · refine lv_aload_n hx hb dX10_begin_47 rfl (lv_at hl 0 rfl) ?_
          refine gX10_3 S hK hT ha kf_X10_37 dX10_begin_48 (fun _ _ => ?_)
          refine x_clp (x_runV (b := (F a 3)) (As := []) (rest := []) S (c_X6_total l E K F G_28 H (F a 3) hk9999d (v_X10_begin_51_2 (F := F) a G G_28 ron ((hF_28.2.1 _ (xn1 (xne_k hk9999e hk9999c (by decide)) xn0)).trans ((hF23.2.1 _ (xn1 (xne_j hj9999h hj9999b (by first | decide | omega)) (xn1 (xne_k hk9999e hk9999b (by decide)) xn0))).trans (ld_c hG12))) ((hF_28.2.1 _ (xn1 (xne_k hk9999f hk9999c (by decide)) xn0)).trans ((hF23.2.1 _ (xn1 (xne_k hk9999f hk9999a (by decide)) (xn1 (xne_j hj9999j hj9999d (by first | decide | omega)) xn0))).trans (ld_c hG12))))) mv_X6_total km_X10_222 rfl rfl ⟨Nat.le_of_ble_eq_true rfl, Nat.le_of_ble_eq_true rfl⟩ (rc_8 hK hT hk9999d) hK (fun _ => XPh.blind) (fun U hU hW => XPh.at hK hz hS hT hU hW) rfl hl.1 (Nat.le_of_ble_eq_true rfl) dX10_begin_51 ⟨Nat.le_of_ble_eq_true rfl, Nat.le_of_ble_eq_true rfl⟩) hS ?_
          rintro _ _ locs ⟨x51, rfl, t51⟩ hS
          have t51 : x51.toInt = (toB (aI (G.2.1 (F (F a 3) 1))) 3) ∧ (0 ≤ x51.toInt ∧ x51.toInt ≤ 90) := by rw [(show G_28.2.1 (F (F a 3) 1) = G.2.1 (F (F a 3) 1) from ((hF_28.2.1 _ (xn1 (xne_k hk9999f hk9999c (by decide)) xn0)).trans ((hF23.2.1 _ (xn1 (xne_k hk9999f hk9999a (by decide)) (xn1 (xne_j hj9999j hj9999d (by first | decide | omega)) xn0))).trans (ld_c hG12))))] at t51; exact t51
          exact x_ri hx hb hr hlk hQ (Nat.le_of_ble_eq_true rfl) (Nat.le_of_ble_eq_true rfl) hS dX10_begin_54 G_28 ⟨_, rfl, (XFr.call (XFr.call (by rw [hG12]; exact XFr.dput XFr.rf (List.mem_of_getElem? (i := 0) rfl)) hF23 xm0 (xm1 0 rfl (xm1 1 rfl xm0)) xm0) hF_28 xm0 (xm1 2 rfl xm0) xm0), (by rw [(show (G_28.1 a 18).toInt = (1 : Int) from (congrArg Int32.toInt ((hF_28.1 _ _ xn0).trans ((hF23.1 _ _ xn0).trans (ld_at hG12)))).trans ((by decide) : Int32.toInt 1 = (1 : Int)))] <;> exact (z_X10_begin_2 x51.toInt ((G.1 a 18).toInt) (toB (aI (G.2.1 (F (F a 3) 1))) 3) c4 t51)), (v_X10_begin_54_3 (K := K) (F := F) a G G23 G_28 l1_28 N28 x51 ha oq23 (xzi hz1) c4 I28_0 hm28 c31 t51 (hF_28.2.1 _ (xn1 (xne_k hk9999a hk9999c (by decide)) xn0))), (v_X10_begin_54_4 (F := F) a G23 G_28 oq23a (hF_28.2.1 _ (xn1 (xne_k hk9999a hk9999c (by decide)) xn0)) (hF_28.2.1 _ (xn1 (xne_k hk9999b hk9999c (by decide)) xn0)))⟩ hT
        · refine lv_aload_n hx hb dX10_begin_34 rfl (lv_at hl 0 rfl) ?_
          refine gX10_15 S hK hT ha kf_X10_95 dX10_begin_35 (fun _ _ => ?_)
          refine lv_iload_n hx hb dX10_begin_38 rfl (lv_at hl 1 rfl) ?_
          refine lv_iconst (v := 0) hx hb dX10_begin_39 (by decide) ?_
          refine as_0 (x := 0) S hK hT hS hk9999c ar_26 aw_26 (by decide) (z_X10_begin_3 l1_28.toInt I28_0 c31) dX10_begin_40 (fun H locs hT hS => ?_)
          obtain ⟨G40, hG40⟩ : ∃ GG : XG, GG = cput G_28 (F a 15) l1_28.toNatClampNeg 0 := ⟨_, rfl⟩
          rw [← hG40] at hT
          refine xi_iinc (n := 1) (lv' := fun z9 => [(1, .int z9), (0, .ref a)]) (k := 1) hx hb (rfl : Int32.toInt l1_28 = l1_28.toInt) (by decide) dX10_begin_41 hl rfl (by decide) (fun _ => rfl) (fun x41 ls t41 hl => ?_)
          have e41 : x41.toInt = (l1_28.toInt + 1) := (z_X10_begin_4 l1_28.toInt x41.toInt I28_0 c31 t41)
          have hl : lv_has ls 2 [(1, .int x41), (0, .ref a)] := hl
          refine lv_goto (tgt := 28) hx hb dX10_begin_44 (by decide) ?_
          exact ih28 x41 G40 _ _ _ (by rw [hG40]; exact XFr.cput (XFr.call XFr.rf hF_28 xm0 (xm1 0 rfl xm0) xm0) (List.mem_of_getElem? (i := 0) rfl)) (by rw [(e41 : Int32.toInt x41 = (l1_28.toInt + 1))] <;> exact (z_X10_begin_5 l1_28.toInt I28_0)) (by rw [(e41 : Int32.toInt x41 = (l1_28.toInt + 1))] <;> exact (z_X10_begin_6 l1_28.toInt N28 hm28)) hT hS (lv_sub hl [1, 0] rfl)
    exact L28 4294967297 0 G23 _ _ _ XFr.rf (by decide) (by decide) hT hS (lv_sub hl [1, 0] rfl)
  · refine lv_bipush (v := (-3)) hx hb dX10_begin_7 (by decide) ?_
    exact x_ri hx hb hr hlk hQ (Nat.le_of_ble_eq_true rfl) (Nat.le_of_ble_eq_true rfl) hS dX10_begin_9 G ⟨_, rfl, XFr.rf, (by rw [((by decide) : Int32.toInt (-3) = (-3 : Int))] <;> exact (z_X10_begin_7 ((G.1 a 18).toInt) (toB (aI (G.2.1 (F (F a 3) 1))) 3) c4)), (v_X10_begin_9_5 (K := K) (F := F) a G ha (xzi hz1) c4), (v_X10_begin_9_6 (F := F) a G rob)⟩ hT

