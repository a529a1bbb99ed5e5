theorem xlen_lt {i : Nat} (h : i < 13) : xlen.getD i 0 < 2 ^ 31 := by
  have : ∀ j, j < 13 → xlen.getD j 0 < 2 ^ 31 := by decide
  exact this i h
theorem x_dummy : True := trivial

abbrev rm_J0_coder_7d493 : Room := { frames := 0, cells := 0, slots := 0, locals := 0 }
set_option maxHeartbeats 4000000 in
set_option maxRecDepth 100000 in
theorem c_J0_coder_7d493 (l : Launch) (E : XE) (K : Nat → Nat) (F : Nat → Nat → Nat) (G : XG) (h0 : Heap) (i : Nat) (hi : i < 13) : Met l yJ0_coder_7d493 (xw yJ0_coder_7d493 cJ0_coder_7d493 1 (some .byte)) rm_J0_coder_7d493 (va_Pc [.ref (E.2.2.2.2.1 i)] (XPh E K F G h0)) (XQ E (fun v (u : Unit) => ∃ r : Int32, v = .int r ∧ r = 0) (fun _ H => H = h0)) 0 0 (xA E) := by
  refine x_enter (by decide) (Nat.le_of_ble_eq_true rfl) ?_
  intro p e s m args below meth c Q S hr hlk hnm hQ hP ls hl
  obtain ⟨⟨hz, hK, hT⟩, hh⟩ := hP
  obtain ⟨hx, hb, -, -, -⟩ := id S
  have hS : va_S (xA E) s.heap s.heap [] := va_S.rf
  have hl : lv_has ls 1 [(0, .ref (E.2.2.2.2.1 i))] := hl
  refine va_gets hx hb hK.2.2.2.2.1 hS S.2.2.2.1 (S.2.2.2.2 _ (List.mem_cons_of_mem _ kf_J0_38)) (fun _ h => h) dJ0_coder_7d493_0 ?_
  refine xi_zeq (tgt := 13) hx hb ((by decide) : Int32.toInt 1 = (1 : Int)) dJ0_coder_7d493_3 (by decide) (fun c => absurd c (show ¬ ((1 : Int) = 0) by decide)) (fun _ => ?_)
  refine lv_aload_n hx hb dJ0_coder_7d493_6 rfl (lv_at hl 0 rfl) ?_
  refine vk_getf hx hb (hK.2.2.2.1.1 i hi).2.1 hS S.2.2.2.1 (S.2.2.2.2 _ (List.mem_cons_of_mem _ kf_J0_15)) (fun _ h => h) dJ0_coder_7d493_7 ?_
  refine lv_goto (tgt := 14) hx hb dJ0_coder_7d493_10 (by decide) ?_
  exact x_rz hx hb hr rfl hlk hQ (Nat.le_of_ble_eq_true rfl) (Nat.le_of_ble_eq_true rfl) hS dJ0_coder_7d493_14 () ⟨_, rfl, rfl⟩ hh

abbrev rm_J0_isLatin1_aae02 : Room := { frames := 0, cells := 0, slots := 0, locals := 0 }
set_option maxHeartbeats 4000000 in
set_option maxRecDepth 100000 in
theorem c_J0_isLatin1_aae02 (l : Launch) (E : XE) (K : Nat → Nat) (F : Nat → Nat → Nat) (G : XG) (h0 : Heap) (i : Nat) (hi : i < 13) : Met l yJ0_isLatin1_aae02 (xw yJ0_isLatin1_aae02 cJ0_isLatin1_aae02 1 (some .boolean)) rm_J0_isLatin1_aae02 (va_Pc [.ref (E.2.2.2.2.1 i)] (XPh E K F G h0)) (XQ E (fun v (u : Unit) => ∃ r : Int32, v = .int r ∧ r = 1) (fun _ H => H = h0)) 0 0 (xA E) := by
  refine x_enter (by decide) (Nat.le_of_ble_eq_true rfl) ?_
  intro p e s m args below meth c Q S hr hlk hnm hQ hP ls hl
  obtain ⟨⟨hz, hK, hT⟩, hh⟩ := hP
  obtain ⟨hx, hb, -, -, -⟩ := id S
  have hS : va_S (xA E) s.heap s.heap [] := va_S.rf
  have hl : lv_has ls 1 [(0, .ref (E.2.2.2.2.1 i))] := hl
  refine va_gets hx hb hK.2.2.2.2.1 hS S.2.2.2.1 (S.2.2.2.2 _ (List.mem_cons_of_mem _ kf_J0_38)) (fun _ h => h) dJ0_isLatin1_aae02_0 ?_
  refine xi_zeq (tgt := 17) hx hb ((by decide) : Int32.toInt 1 = (1 : Int)) dJ0_isLatin1_aae02_3 (by decide) (fun c => absurd c (show ¬ ((1 : Int) = 0) by decide)) (fun _ => ?_)
  refine lv_aload_n hx hb dJ0_isLatin1_aae02_6 rfl (lv_at hl 0 rfl) ?_
  refine vk_getf hx hb (hK.2.2.2.1.1 i hi).2.1 hS S.2.2.2.1 (S.2.2.2.2 _ (List.mem_cons_of_mem _ kf_J0_15)) (fun _ h => h) dJ0_isLatin1_aae02_7 ?_
  refine xi_zne (tgt := 17) hx hb ((by decide) : Int32.toInt 0 = (0 : Int)) dJ0_isLatin1_aae02_10 (by decide) (fun c => absurd c (show ¬ ((0 : Int) ≠ 0) by decide)) (fun _ => ?_)
  refine lv_iconst (v := 1) hx hb dJ0_isLatin1_aae02_13 (by decide) ?_
  refine lv_goto (tgt := 18) hx hb dJ0_isLatin1_aae02_14 (by decide) ?_
  exact x_rz hx hb hr (xnz (Or.inr rfl)) hlk hQ (Nat.le_of_ble_eq_true rfl) (Nat.le_of_ble_eq_true rfl) hS dJ0_isLatin1_aae02_18 () ⟨_, rfl, rfl⟩ hh

abbrev rm_J0_length_8abf5 : Room := { frames := 1, cells := 0, slots := 0, locals := 20 }
set_option maxHeartbeats 4000000 in
set_option maxRecDepth 100000 in
theorem c_J0_length_8abf5 (l : Launch) (E : XE) (K : Nat → Nat) (F : Nat → Nat → Nat) (G : XG) (h0 : Heap) (i : Nat) (hi : i < 13) : Met l yJ0_length_8abf5 (xw yJ0_length_8abf5 cJ0_length_8abf5 1 (some .int)) rm_J0_length_8abf5 (va_Pc [.ref (E.2.2.2.2.1 i)] (XPh E K F G h0)) (XQ E (fun v (u : Unit) => ∃ r : Int32, v = .int r ∧ r.toInt = ((xlen.getD i 0 : Nat) : Int)) (fun _ H => H = h0)) 0 0 (xA E) := by
  refine x_enter (by decide) (Nat.le_of_ble_eq_true rfl) ?_
  intro p e s m args below meth c Q S hr hlk hnm hQ hP ls hl
  obtain ⟨⟨hz, hK, hT⟩, hh⟩ := hP
  obtain ⟨hx, hb, -, -, -⟩ := id S
  have hS : va_S (xA E) s.heap s.heap [] := va_S.rf
  have hl : lv_has ls 1 [(0, .ref (E.2.2.2.2.1 i))] := hl
  refine lv_aload_n hx hb dJ0_length_8abf5_0 rfl (lv_at hl 0 rfl) ?_
  refine vk_getf hx hb (hK.2.2.2.1.1 i hi).2.2.1 hS S.2.2.2.1 (S.2.2.2.2 _ (List.mem_cons_of_mem _ kf_J0_9)) (fun _ h => h) dJ0_length_8abf5_1 ?_
  refine va_tlen hx hb (hK.2.2.2.1.1 i hi).2.2.2 hS rfl dJ0_length_8abf5_4 (lv_topi (fun x1 t2 => ?_))
  have t2 : x1.toInt = ((xlen.getD i 0 : Nat) : Int) := by rw [t2]; exact nI_toInt (xlen_lt hi)
  refine lv_aload_n hx hb dJ0_length_8abf5_5 rfl (lv_at hl 0 rfl) ?_
  refine x_clp (x_runV (b := (E.2.2.2.2.1 i)) (As := []) (rest := [.int x1]) S (c_J0_coder_7d493 l E K F G s.heap i hi) mv_J0_coder_7d493 km_J0_335 rfl rfl ⟨Nat.le_of_ble_eq_true rfl, Nat.le_of_ble_eq_true rfl⟩ (vk_recv hK.2.2.2.1 hi hS) hK (fun _ => XPh.blind) (fun U hU hW => XPh.at hK hz hS hT hU hW) rfl hl.1 (Nat.le_of_ble_eq_true rfl) dJ0_length_8abf5_6 ⟨Nat.le_of_ble_eq_true rfl, Nat.le_of_ble_eq_true rfl⟩) hS ?_
  rintro _ _ locs ⟨_, rfl, rfl⟩ hS
  refine lv_ishr hx hb dJ0_length_8abf5_9 ?_
  rw [sb_shr0]
  exact x_ri hx hb hr hlk hQ (Nat.le_of_ble_eq_true rfl) (Nat.le_of_ble_eq_true rfl) hS dJ0_length_8abf5_10 () ⟨_, rfl, (t2)⟩ hh

theorem z_J3_checkIndex_8e157_n_1 (a0 : Int) (a1 : Int) (h0 : 0 ≤ a0 ∧ a0 < a1) (h1 : a0 < 0) : (0 : Int) = 1 ∧ a0 = a0 := by omega
theorem z_J3_checkIndex_8e157_n_2 (a0 : Int) (a1 : Int) (h0 : 0 ≤ a0 ∧ a0 < a1) (h1 : ¬ (a0 < a1)) : (0 : Int) = 1 ∧ a0 = a0 := by omega
abbrev rm_J3_checkIndex_8e157_n : Room := { frames := 0, cells := 0, slots := 0, locals := 0 }
set_option maxHeartbeats 4000000 in
set_option maxRecDepth 100000 in
theorem c_J3_checkIndex_8e157_n (l : Launch) (E : XE) (K : Nat → Nat) (F : Nat → Nat → Nat) (G : XG) (h0 : Heap) (p0 : Int32) (p1 : Int32) (e0 : 0 ≤ p0.toInt ∧ p0.toInt < p1.toInt) : Met l yJ3_checkIndex_8e157 (xw yJ3_checkIndex_8e157 cJ3_checkIndex_8e157 3 (some .int)) rm_J3_checkIndex_8e157_n (va_Pc [.int p0, .int p1, .null] (XPh E K F G h0)) (XQ E (fun v (u : Unit) => ∃ r : Int32, v = .int r) (fun _ H => H = h0)) 0 0 (xA E) := by
  refine x_enter (by decide) (Nat.le_of_ble_eq_true rfl) ?_
  intro p e s m args below meth c Q S hr hlk hnm hQ hP ls hl
  obtain ⟨⟨hz, hK, hT⟩, hh⟩ := hP
  obtain ⟨hx, hb, -, -, -⟩ := id S
  have hS : va_S (xA E) s.heap s.heap [] := va_S.rf
  have hl : lv_has ls 3 [(0, .int p0), (1, .int p1), (2, .null)] := hl
  refine lv_iload_n hx hb dJ3_checkIndex_8e157_0 rfl (lv_at hl 0 rfl) ?_
  refine xi_zlt (tgt := 9) hx hb (rfl : Int32.toInt p0 = p0.toInt) dJ3_checkIndex_8e157_1 (by decide) (fun c1 => ?_) (fun c1 => ?_)
  · exact absurd ((z_J3_checkIndex_8e157_n_1 p0.toInt p1.toInt e0 c1)).1 (by decide)
  · refine lv_iload_n hx hb dJ3_checkIndex_8e157_4 rfl (lv_at hl 0 rfl) ?_
    refine lv_iload_n hx hb dJ3_checkIndex_8e157_5 rfl (lv_at hl 1 rfl) ?_
    refine xi_clt (tgt := 16) hx hb (rfl : Int32.toInt p0 = p0.toInt) (rfl : Int32.toInt p1 = p1.toInt) dJ3_checkIndex_8e157_6 (by decide) (fun c2 => ?_) (fun c2 => ?_)
    · refine lv_iload_n hx hb dJ3_checkIndex_8e157_16 rfl (lv_at hl 0 rfl) ?_
      exact x_ri hx hb hr hlk hQ (Nat.le_of_ble_eq_true rfl) (Nat.le_of_ble_eq_true rfl) hS dJ3_checkIndex_8e157_17 () ⟨_, rfl⟩ hh
    · exact absurd ((z_J3_checkIndex_8e157_n_2 p0.toInt p1.toInt e0 c2)).1 (by decide)

abbrev rm_J3_checkIndex_8e157_r : Room := { frames := 0, cells := 0, slots := 0, locals := 0 }
set_option maxHeartbeats 4000000 in
set_option maxRecDepth 100000 in
theorem c_J3_checkIndex_8e157_r (l : Launch) (E : XE) (K : Nat → Nat) (F : Nat → Nat → Nat) (G : XG) (h0 : Heap) (p0 : Int32) (p1 : Int32) (p2 : Nat) (e0 : 0 ≤ p0.toInt ∧ p0.toInt < p1.toInt) : Met l yJ3_checkIndex_8e157 (xw yJ3_checkIndex_8e157 cJ3_checkIndex_8e157 3 (some .int)) rm_J3_checkIndex_8e157_r (va_Pc [.int p0, .int p1, .ref p2] (XPh E K F G h0)) (XQ E (fun v (u : Unit) => ∃ r : Int32, v = .int r) (fun _ H => H = h0)) 0 0 (xA E) := by
  refine x_enter (by decide) (Nat.le_of_ble_eq_true rfl) ?_
  intro p e s m args below meth c Q S hr hlk hnm hQ hP ls hl
  obtain ⟨⟨hz, hK, hT⟩, hh⟩ := hP
  obtain ⟨hx, hb, -, -, -⟩ := id S
  have hS : va_S (xA E) s.heap s.heap [] := va_S.rf
  have hl : lv_has ls 3 [(0, .int p0), (1, .int p1), (2, .ref p2)] := hl
  refine lv_iload_n hx hb dJ3_checkIndex_8e157_0 rfl (lv_at hl 0 rfl) ?_
  refine xi_zlt (tgt := 9) hx hb (rfl : Int32.toInt p0 = p0.toInt) dJ3_checkIndex_8e157_1 (by decide) (fun c1 => ?_) (fun c1 => ?_)
  · exact absurd ((z_J3_checkIndex_8e157_n_1 p0.toInt p1.toInt e0 c1)).1 (by decide)
  · refine lv_iload_n hx hb dJ3_checkIndex_8e157_4 rfl (lv_at hl 0 rfl) ?_
    refine lv_iload_n hx hb dJ3_checkIndex_8e157_5 rfl (lv_at hl 1 rfl) ?_
    refine xi_clt (tgt := 16) hx hb (rfl : Int32.toInt p0 = p0.toInt) (rfl : Int32.toInt p1 = p1.toInt) dJ3_checkIndex_8e157_6 (by decide) (fun c2 => ?_) (fun c2 => ?_)
    · refine lv_iload_n hx hb dJ3_checkIndex_8e157_16 rfl (lv_at hl 0 rfl) ?_
      exact x_ri hx hb hr hlk hQ (Nat.le_of_ble_eq_true rfl) (Nat.le_of_ble_eq_true rfl) hS dJ3_checkIndex_8e157_17 () ⟨_, rfl⟩ hh
    · exact absurd ((z_J3_checkIndex_8e157_n_2 p0.toInt p1.toInt e0 c2)).1 (by decide)

abbrev rm_J0_checkIndex_df160 : Room := { frames := 1, cells := 0, slots := 0, locals := 22 }
set_option maxHeartbeats 4000000 in
set_option maxRecDepth 100000 in
theorem c_J0_checkIndex_df160 (l : Launch) (E : XE) (K : Nat → Nat) (F : Nat → Nat → Nat) (G : XG) (h0 : Heap) (p0 : Int32) (p1 : Int32) (e0 : 0 ≤ p0.toInt ∧ p0.toInt < p1.toInt) : Met l yJ0_checkIndex_df160 (xw yJ0_checkIndex_df160 cJ0_checkIndex_df160 2 none) rm_J0_checkIndex_df160 (va_Pc [.int p0, .int p1] (XPh E K F G h0)) (XQv E (fun (u : Unit) => True) (fun _ H => H = h0)) 0 0 (xA E) := by
  refine x_enter (by decide) (Nat.le_of_ble_eq_true rfl) ?_
  intro p e s m args below meth c Q S hr hlk hnm hQ hP ls hl
  obtain ⟨⟨hz, hK, hT⟩, hh⟩ := hP
  obtain ⟨hx, hb, -, -, -⟩ := id S
  have hS : va_S (xA E) s.heap s.heap [] := va_S.rf
  have hl : lv_has ls 2 [(0, .int p0), (1, .int p1)] := hl
  refine lv_iload_n hx hb dJ0_checkIndex_df160_0 rfl (lv_at hl 0 rfl) ?_
  refine lv_iload_n hx hb dJ0_checkIndex_df160_1 rfl (lv_at hl 1 rfl) ?_
  rcases hK.2.2.2.2.2.1 with hz2 | ⟨q1, hz2⟩
  · refine va_gets hx hb hz2 hS S.2.2.2.1 (S.2.2.2.2 _ (List.mem_cons_of_mem _ kf_J0_1053)) (fun _ h => h) dJ0_checkIndex_df160_2 ?_
    refine x_clp (x_runS (As := [.int p0, .int p1, .null]) (rest := []) S (c_J3_checkIndex_8e157_n l E K F G s.heap p0 p1 (e0)) ms_J3_checkIndex_8e157 km_J0_1059 rfl rfl ⟨Nat.le_of_ble_eq_true rfl, Nat.le_of_ble_eq_true rfl⟩ hK (fun _ => XPh.blind) (fun U hU hW => XPh.at hK hz hS hT hU hW) rfl hl.1 (Nat.le_of_ble_eq_true rfl) dJ0_checkIndex_df160_5 ⟨Nat.le_of_ble_eq_true rfl, Nat.le_of_ble_eq_true rfl⟩) hS ?_
    rintro _ _ locs ⟨x3, rfl⟩ hS
    refine lv_pop hx hb dJ0_checkIndex_df160_8 rfl ?_
    exact x_rv hx hb hr hlk hQ (Nat.le_of_ble_eq_true rfl) (Nat.le_of_ble_eq_true rfl) hS dJ0_checkIndex_df160_9 () trivial hh
  · refine va_gets hx hb hz2 hS S.2.2.2.1 (S.2.2.2.2 _ (List.mem_cons_of_mem _ kf_J0_1053)) (fun _ h => h) dJ0_checkIndex_df160_2 ?_
    refine x_clp (x_runS (As := [.int p0, .int p1, .ref q1]) (rest := []) S (c_J3_checkIndex_8e157_r l E K F G s.heap p0 p1 q1 (e0)) ms_J3_checkIndex_8e157 km_J0_1059 rfl rfl ⟨Nat.le_of_ble_eq_true rfl, Nat.le_of_ble_eq_true rfl⟩ hK (fun _ => XPh.blind) (fun U hU hW => XPh.at hK hz hS hT hU hW) rfl hl.1 (Nat.le_of_ble_eq_true rfl) dJ0_checkIndex_df160_5 ⟨Nat.le_of_ble_eq_true rfl, Nat.le_of_ble_eq_true rfl⟩) hS ?_
    rintro _ _ locs ⟨x4, rfl⟩ hS
    refine lv_pop hx hb dJ0_checkIndex_df160_8 rfl ?_
    exact x_rv hx hb hr hlk hQ (Nat.le_of_ble_eq_true rfl) (Nat.le_of_ble_eq_true rfl) hS dJ0_checkIndex_df160_9 () trivial hh

theorem z_J1_charAt_3b067_1 (a0 : Int) (a1 : Int) (a2 : Nat) (h0 : 0 ≤ a0 ∧ a0 < ((a2 : Nat) : Int)) (h1 : a1 = ((a2 : Nat) : Int)) : 0 ≤ a0 ∧ a0 < a1 := by omega
abbrev rm_J1_charAt_3b067 : Room := { frames := 2, cells := 0, slots := 0, locals := 43 }
set_option maxHeartbeats 4000000 in
set_option maxRecDepth 100000 in
theorem c_J1_charAt_3b067 (l : Launch) (E : XE) (K : Nat → Nat) (F : Nat → Nat → Nat) (G : XG) (h0 : Heap) (i : Nat) (p1 : Int32) (hi : i < 13) (e0 : 0 ≤ p1.toInt ∧ p1.toInt < ((xlen.getD i 0 : Nat) : Int)) : Met l yJ1_charAt_3b067 (xw yJ1_charAt_3b067 cJ1_charAt_3b067 2 (some .char)) rm_J1_charAt_3b067 (va_Pc [.ref (E.2.2.2.2.2 i), .int p1] (XPh E K F G h0)) (XQ E (fun v (u : Unit) => ∃ r : Int32, v = .int r ∧ xok 1 r) (fun _ H => H = h0)) 0 0 (xA E) := by
  refine x_enter (by decide) (Nat.le_of_ble_eq_true rfl) ?_
  intro p e s m args below meth c Q S hr hlk hnm hQ hP ls hl
  obtain ⟨⟨hz, hK, hT⟩, hh⟩ := hP
  obtain ⟨hx, hb, -, -, -⟩ := id S
  have hS : va_S (xA E) s.heap s.heap [] := va_S.rf
  have hl : lv_has ls 2 [(0, .ref (E.2.2.2.2.2 i)), (1, .int p1)] := hl
  refine lv_iload_n hx hb dJ1_charAt_3b067_0 rfl (lv_at hl 1 rfl) ?_
  refine lv_aload_n hx hb dJ1_charAt_3b067_1 rfl (lv_at hl 0 rfl) ?_
  refine va_tlen hx hb (hK.2.2.2.1.1 i hi).2.2.2 hS rfl dJ1_charAt_3b067_2 (lv_topi (fun x1 t2 => ?_))
  have t2 : x1.toInt = ((xlen.getD i 0 : Nat) : Int) := by rw [t2]; exact nI_toInt (xlen_lt hi)
  refine x_cvp (x_runS (As := [.int p1, .int x1]) (rest := []) S (c_J0_checkIndex_df160 l E K F G s.heap p1 x1 (z_J1_charAt_3b067_1 p1.toInt x1.toInt (xlen.getD i 0) e0 t2)) ms_J0_checkIndex_df160 km_J1_9 rfl rfl ⟨Nat.le_of_ble_eq_true rfl, Nat.le_of_ble_eq_true rfl⟩ hK (fun _ => XPh.blind) (fun U hU hW => XPh.at hK hz hS hT hU hW) rfl hl.1 (Nat.le_of_ble_eq_true rfl) dJ1_charAt_3b067_3 ⟨Nat.le_of_ble_eq_true rfl, Nat.le_of_ble_eq_true rfl⟩) hS ?_
  rintro _ locs - hS
  refine lv_aload_n hx hb dJ1_charAt_3b067_6 rfl (lv_at hl 0 rfl) ?_
  refine lv_iload_n hx hb dJ1_charAt_3b067_7 rfl (lv_at hl 1 rfl) ?_
  refine va_tb hx hb (hK.2.2.2.1.1 i hi).2.2.2 hS (vp_in_iff.mpr (e0)) rfl dJ1_charAt_3b067_8 (lv_topi (fun x3 _ => ?_))
  refine lv_sipush (v := 255) hx hb dJ1_charAt_3b067_9 (by decide) ?_
  refine lv_iand hx hb dJ1_charAt_3b067_12 (lv_topi (fun x4 _ => ?_))
  refine lv_i2c hx hb dJ1_charAt_3b067_13 rfl (lv_topi (fun x5 ec6 => ?_))
  exact x_rz hx hb hr (by rw [ec6]; exact pk_nc _) hlk hQ (Nat.le_of_ble_eq_true rfl) (Nat.le_of_ble_eq_true rfl) hS dJ1_charAt_3b067_14 () ⟨_, rfl, (by rw [ec6]; exact pk_nc _)⟩ hh

abbrev rm_J0_charAt_5068e : Room := { frames := 3, cells := 0, slots := 0, locals := 64 }
set_option maxHeartbeats 4000000 in
set_option maxRecDepth 100000 in
theorem c_J0_charAt_5068e (l : Launch) (E : XE) (K : Nat → Nat) (F : Nat → Nat → Nat) (G : XG) (h0 : Heap) (i : Nat) (p0 : Int32) (hi : i < 13) (e0 : 0 ≤ p0.toInt ∧ p0.toInt < ((xlen.getD i 0 : Nat) : Int)) : Met l yJ0_charAt_5068e (xw yJ0_charAt_5068e cJ0_charAt_5068e 2 (some .char)) rm_J0_charAt_5068e (va_Pc [.ref (E.2.2.2.2.1 i), .int p0] (XPh E K F G h0)) (XQ E (fun v (u : Unit) => ∃ r : Int32, v = .int r ∧ xok 1 r) (fun _ H => H = h0)) 0 0 (xA E) := by
  refine x_enter (by decide) (Nat.le_of_ble_eq_true rfl) ?_
  intro p e s m args below meth c Q S hr hlk hnm hQ hP ls hl
  obtain ⟨⟨hz, hK, hT⟩, hh⟩ := hP
  obtain ⟨hx, hb, -, -, -⟩ := id S
  have hS : va_S (xA E) s.heap s.heap [] := va_S.rf
  have hl : lv_has ls 2 [(0, .ref (E.2.2.2.2.1 i)), (1, .int p0)] := hl
  refine lv_aload_n hx hb dJ0_charAt_5068e_0 rfl (lv_at hl 0 rfl) ?_
  refine x_clp (x_runV (b := (E.2.2.2.2.1 i)) (As := []) (rest := []) S (c_J0_isLatin1_aae02 l E K F G s.heap i hi) mv_J0_isLatin1_aae02 km_J0_492 rfl rfl ⟨Nat.le_of_ble_eq_true rfl, Nat.le_of_ble_eq_true rfl⟩ (vk_recv hK.2.2.2.1 hi hS) hK (fun _ => XPh.blind) (fun U hU hW => XPh.at hK hz hS hT hU hW) rfl hl.1 (Nat.le_of_ble_eq_true rfl) dJ0_charAt_5068e_1 ⟨Nat.le_of_ble_eq_true rfl, Nat.le_of_ble_eq_true rfl⟩) hS ?_
  rintro _ _ locs ⟨_, rfl, rfl⟩ hS
  refine xi_zeq (tgt := 16) hx hb ((by decide) : Int32.toInt 1 = (1 : Int)) dJ0_charAt_5068e_4 (by decide) (fun c => absurd c (show ¬ ((1 : Int) = 0) by decide)) (fun _ => ?_)
  refine lv_aload_n hx hb dJ0_charAt_5068e_7 rfl (lv_at hl 0 rfl) ?_
  refine vk_getf hx hb (hK.2.2.2.1.1 i hi).2.2.1 hS S.2.2.2.1 (S.2.2.2.2 _ (List.mem_cons_of_mem _ kf_J0_9)) (fun _ h => h) dJ0_charAt_5068e_8 ?_
  refine lv_iload_n hx hb dJ0_charAt_5068e_11 rfl (lv_at hl 1 rfl) ?_
  refine x_clp (x_runS (As := [.ref (E.2.2.2.2.2 i), .int p0]) (rest := []) S (c_J1_charAt_3b067 l E K F G s.heap i p0 hi (e0)) ms_J1_charAt_3b067 km_J0_495 rfl rfl ⟨Nat.le_of_ble_eq_true rfl, Nat.le_of_ble_eq_true rfl⟩ hK (fun _ => XPh.blind) (fun U hU hW => XPh.at hK hz hS hT hU hW) rfl hl.1 (Nat.le_of_ble_eq_true rfl) dJ0_charAt_5068e_12 ⟨Nat.le_of_ble_eq_true rfl, Nat.le_of_ble_eq_true rfl⟩) hS ?_
  rintro _ _ locs ⟨x1, rfl, o2⟩ hS
  exact x_rz hx hb hr o2 hlk hQ (Nat.le_of_ble_eq_true rfl) (Nat.le_of_ble_eq_true rfl) hS dJ0_charAt_5068e_15 () ⟨_, rfl, o2⟩ hh
section
/-! ===== the builder ===== -/
def TWk (E : XE) (K : Nat → Nat) (F : Nat → Nat → Nat) (G : XG) (ws : va_W) : Prop := (∀ a : Nat, K a ≠ 0 → ∃ (i : Nat) (e : va_E), ws[i]? = some (a, e) ∧ SHQ E K F G a (K a) e) ∧ True
def XBs (E : XE) (K : Nat → Nat) (ws : va_W) (v n : Nat) (cnt : Int32) : Prop := ∃ (i j : Nat) (f : Nat → Int32) (ml : Int32), ws[i]? = some (E.2.2.2.1, .inr (0, [.ref v, .int 0, .int ml, .int cnt])) ∧ ws[j]? = some (v, .inl (E.2.1 2, n, .inl f)) ∧ K E.2.2.2.1 = 0 ∧ K v = 0 ∧ (∀ q, xok 2 (f q)) ∧ 0 ≤ cnt.toInt ∧ cnt.toInt ≤ n ∧ n ≤ 100
def TWb (E : XE) (K : Nat → Nat) (F : Nat → Nat → Nat) (G : XG) (v n : Nat) (cnt : Int32) (H : Heap) : Prop := ∃ ws, TWk E K F G ws ∧ XBs E K ws v n cnt ∧ va_P E.1 vwCl ws H ∧ va_D (xA E) ws
def TWc (E : XE) (K : Nat → Nat) (F : Nat → Nat → Nat) (G : XG) (v n : Nat) (cnt : Int32) (q nq : Nat) (H : Heap) : Prop := ∃ ws, TWk E K F G ws ∧ XBs E K ws v n cnt ∧ (∃ (k : Nat) (g : Nat → Int32), ws[k]? = some (q, .inl (E.2.1 2, nq, .inl g)) ∧ K q = 0 ∧ q ≠ v ∧ ∀ z, xok 2 (g z)) ∧ va_P E.1 vwCl ws H ∧ va_D (xA E) ws
theorem TW.op {E : XE} {K : Nat → Nat} {F : Nat → Nat → Nat} {G : XG} {H : Heap} (h : TW E K F G H) : ∃ (v n : Nat) (cnt : Int32), TWb E K F G v n cnt H := by
  obtain ⟨ws, ⟨h1, i, j, v, n, f, ml, cnt, h3⟩, hP, hD⟩ := h
  exact ⟨v, n, cnt, ws, ⟨h1, trivial⟩, ⟨i, j, f, ml, h3⟩, hP, hD⟩
theorem TWb.cl {E : XE} {K : Nat → Nat} {F : Nat → Nat → Nat} {G : XG} {v n : Nat} {cnt : Int32} {H : Heap} (h : TWb E K F G v n cnt H) : TW E K F G H := by
  obtain ⟨ws, ⟨h1, h2⟩, ⟨i, j, f, ml, h3⟩, hP, hD⟩ := h
  exact ⟨ws, ⟨h1, i, j, v, n, f, ml, cnt, h3⟩, hP, hD⟩
theorem TWc.cl {E : XE} {K : Nat → Nat} {F : Nat → Nat → Nat} {G : XG} {v n : Nat} {cnt : Int32} {q nq : Nat} {H : Heap} (h : TWc E K F G v n cnt q nq H) : TW E K F G H := by
  obtain ⟨ws, ⟨h1, h2⟩, ⟨i, j, f, ml, h3⟩, -, hP, hD⟩ := h
  exact ⟨ws, ⟨h1, i, j, v, n, f, ml, cnt, h3⟩, hP, hD⟩
theorem TWb.inv {E : XE} {K : Nat → Nat} {F : Nat → Nat → Nat} {G : XG} {v n : Nat} {cnt : Int32} {H : Heap} (h : TWb E K F G v n cnt H) : 0 ≤ cnt.toInt ∧ cnt.toInt ≤ ((n : Nat) : Int) ∧ ((n : Nat) : Int) ≤ 100 := by
  obtain ⟨ws, -, ⟨i, j, f, ml, -, -, -, -, -, h1, h2, h3⟩, -, -⟩ := h
  exact ⟨h1, h2, by omega⟩
theorem TWk.set {E : XE} {K : Nat → Nat} {F : Nat → Nat → Nat} {G : XG} {ws : va_W} {i b : Nat} {x x' : va_E} (h : TWk E K F G ws) (he : ws[i]? = some (b, x)) (hb : K b = 0) : TWk E K F G (ws.set i (b, x')) := by
  refine ⟨fun a ha => ?_, h.2⟩
  obtain ⟨i', e, h1, h2⟩ := h.1 a ha
  refine ⟨i', e, set_at he h1 ?_, h2⟩
  intro z
  rw [z] at ha
  exact ha hb
theorem TWk.push {E : XE} {K : Nat → Nat} {F : Nat → Nat → Nat} {G : XG} {ws : va_W} {x : Nat × va_E} (h : TWk E K F G ws) : TWk E K F G (ws ++ [x]) := by
  refine ⟨fun a ha => ?_, h.2⟩
  obtain ⟨i', e, h1, h2⟩ := h.1 a ha
  exact ⟨i', e, by rw [List.getElem?_append_left (List.getElem?_eq_some_iff.mp h1).1]; exact h1, h2⟩
theorem ne_oa {A : Nat → Prop} {ws : va_W} {i j a b : Nat} {x : Nat × List Value} {y : ClassId × vp_A} (hD : va_D A ws) (h1 : ws[i]? = some (a, .inr x)) (h2 : ws[j]? = some (b, .inl y)) : b ≠ a := by
  intro z
  subst z
  have e := hD.1 i j _ _ h1 h2 rfl
  subst e
  rw [h1] at h2
  cases h2
theorem xok_fit {v : Int32} (h : xok 2 v) : fits .byte (.int v) = true := by
  have h : narrow .byte (.int v) = .int v := h
  simp only [narrow] at h
  have h2 : v.toInt8.toInt32 = v := by injection h
  rw [← h2]
  exact pk_fb _
section XSB
variable {p : Program} {l : Launch} {e : Env} {R : Room} {s : State} {m : MethodId} {args : Array Value} {below : List Frame} {meth : Method} {c : Code} {H : Heap} {locs : List Loc} {cells slots : Nat} {Q : State → Prop}
variable {pc : Nat} {ls : Array Slot} {rest : List Value} {H0 : Heap} {E : XE} {cc : ByteArray} {nL : Nat} {own : String} {w0 : Cond} {K : Nat → Nat} {F : Nat → Nat → Nat} {G : XG} {v n : Nat} {cnt : Int32} {idx q nq : Nat}
theorem sbg_value (S : CallFix p m c cc nL s args (w0 :: GT) own) (hK : XK E s) (hT : TWb E K F G v n cnt H) (hl : Cond.fieldLink own idx "java/lang/AbstractStringBuilder" "value" "[B" ∈ GT) (hdg : decode cc pc = .ok (.getfield idx, 3)) (kk : W p l e R s m args below meth c H locs cells slots Q (F0 m (pc + 3) ls (.ref v :: rest))) : W p l e R s m args below meth c H locs cells slots Q (F0 m pc ls (.ref E.2.2.2.1 :: rest)) := by
  obtain ⟨ws, hk, ⟨i, j, f, ml, e1, e2, k1, k2, ho, c1, c2, c3⟩, hP, hD⟩ := hT
  exact va_get (D := E.1) (ci := 0) (v := .ref v) (C := RJ4) (T := TJ4) (N := 4) S.1 S.2.1 S.2.2.2.2 (fun w h => List.mem_cons_of_mem _ (inJ4 w h)) S.2.2.2.1 hK.1 hP i e1 rfl 0 (by decide) (S.2.2.2.2 _ (List.mem_cons_of_mem _ hl)) (fun _ h => h) rfl hdg kk
theorem sbg_coder (S : CallFix p m c cc nL s args (w0 :: GT) own) (hK : XK E s) (hT : TWb E K F G v n cnt H) (hl : Cond.fieldLink own idx "java/lang/AbstractStringBuilder" "coder" "B" ∈ GT) (hdg : decode cc pc = .ok (.getfield idx, 3)) (kk : W p l e R s m args below meth c H locs cells slots Q (F0 m (pc + 3) ls (.int 0 :: rest))) : W p l e R s m args below meth c H locs cells slots Q (F0 m pc ls (.ref E.2.2.2.1 :: rest)) := by
  obtain ⟨ws, hk, ⟨i, j, f, ml, e1, e2, k1, k2, ho, c1, c2, c3⟩, hP, hD⟩ := hT
  exact va_get (D := E.1) (ci := 0) (v := .int 0) (C := RJ4) (T := TJ4) (N := 4) S.1 S.2.1 S.2.2.2.2 (fun w h => List.mem_cons_of_mem _ (inJ4 w h)) S.2.2.2.1 hK.1 hP i e1 rfl 1 (by decide) (S.2.2.2.2 _ (List.mem_cons_of_mem _ hl)) (fun _ h => h) rfl hdg kk
theorem sbg_count (S : CallFix p m c cc nL s args (w0 :: GT) own) (hK : XK E s) (hT : TWb E K F G v n cnt H) (hl : Cond.fieldLink own idx "java/lang/AbstractStringBuilder" "count" "I" ∈ GT) (hdg : decode cc pc = .ok (.getfield idx, 3)) (kk : W p l e R s m args below meth c H locs cells slots Q (F0 m (pc + 3) ls (.int cnt :: rest))) : W p l e R s m args below meth c H locs cells slots Q (F0 m pc ls (.ref E.2.2.2.1 :: rest)) := by
  obtain ⟨ws, hk, ⟨i, j, f, ml, e1, e2, k1, k2, ho, c1, c2, c3⟩, hP, hD⟩ := hT
  exact va_get (D := E.1) (ci := 0) (v := .int cnt) (C := RJ4) (T := TJ4) (N := 4) S.1 S.2.1 S.2.2.2.2 (fun w h => List.mem_cons_of_mem _ (inJ4 w h)) S.2.2.2.1 hK.1 hP i e1 rfl 3 (by decide) (S.2.2.2.2 _ (List.mem_cons_of_mem _ hl)) (fun _ h => h) rfl hdg kk
theorem sbp_count (S : CallFix p m c cc nL s args (w0 :: GT) own) (hK : XK E s) (hT : TWb E K F G v n cnt H) (hS : va_S (xA E) H0 H locs) (hl : Cond.fieldLink own idx "java/lang/AbstractStringBuilder" "count" "I" ∈ GT) {x : Int32} (hx : 0 ≤ x.toInt ∧ x.toInt ≤ ((n : Nat) : Int)) (hdg : decode cc pc = .ok (.putfield idx, 3)) (kk : ∀ (H1 : Heap) (locs1 : List Loc), TWb E K F G v n x H1 → va_S (xA E) H0 H1 locs1 → W p l e R s m args below meth c H1 locs1 cells slots Q (F0 m (pc + 3) ls rest)) : W p l e R s m args below meth c H locs cells slots Q (F0 m pc ls (.int x :: .ref E.2.2.2.1 :: rest)) := by
  obtain ⟨ws, hk, ⟨i, j, f, ml, e1, e2, k1, k2, ho, c1, c2, c3⟩, hP, hD⟩ := hT
  have nv := ne_oa hD e1 e2
  exact va_put (D := E.1) (ci := 0) (v := .int x) (ty := .int) (C := RJ4) (T := TJ4) (N := 4) S.1 S.2.1 S.2.2.2.2 (fun w h => List.mem_cons_of_mem _ (inJ4 w h)) tyJ4 tyJ4_ok nmJ4 S.2.2.2.1 hK.1 hP hD hS i e1 rfl 3 (by decide) (S.2.2.2.2 _ (List.mem_cons_of_mem _ hl)) (fun _ h => h) rfl (by decide +kernel) rfl rfl (Nat.le_of_ble_eq_true rfl) hdg (fun H1 locs1 hP1 hD1 hS1 => kk H1 locs1 ⟨_, hk.set e1 k1, ⟨i, j, f, ml, set_here e1, set_at e1 e2 nv, k1, k2, ho, hx.1, hx.2, c3⟩, hP1, hD1⟩ hS1)
theorem sbp_maybe (S : CallFix p m c cc nL s args (w0 :: GT) own) (hK : XK E s) (hT : TWb E K F G v n cnt H) (hS : va_S (xA E) H0 H locs) (hl : Cond.fieldLink own idx "java/lang/AbstractStringBuilder" "maybeLatin1" "Z" ∈ GT) {x : Int32} (hx : x = 0 ∨ x = 1) (hdg : decode cc pc = .ok (.putfield idx, 3)) (kk : ∀ (H1 : Heap) (locs1 : List Loc), TWb E K F G v n cnt H1 → va_S (xA E) H0 H1 locs1 → W p l e R s m args below meth c H1 locs1 cells slots Q (F0 m (pc + 3) ls rest)) : W p l e R s m args below meth c H locs cells slots Q (F0 m pc ls (.int x :: .ref E.2.2.2.1 :: rest)) := by
  obtain ⟨ws, hk, ⟨i, j, f, ml, e1, e2, k1, k2, ho, c1, c2, c3⟩, hP, hD⟩ := hT
  have nv := ne_oa hD e1 e2
  exact va_put (D := E.1) (ci := 0) (v := .int x) (ty := .boolean) (C := RJ4) (T := TJ4) (N := 4) S.1 S.2.1 S.2.2.2.2 (fun w h => List.mem_cons_of_mem _ (inJ4 w h)) tyJ4 tyJ4_ok nmJ4 S.2.2.2.1 hK.1 hP hD hS i e1 rfl 2 (by decide) (S.2.2.2.2 _ (List.mem_cons_of_mem _ hl)) (fun _ h => h) rfl (by decide +kernel) (by rcases hx with h | h <;> subst h <;> rfl) (by rcases hx with h | h <;> subst h <;> rfl) (Nat.le_of_ble_eq_true rfl) hdg (fun H1 locs1 hP1 hD1 hS1 => kk H1 locs1 ⟨_, hk.set e1 k1, ⟨i, j, f, x, set_here e1, set_at e1 e2 nv, k1, k2, ho, c1, c2, c3⟩, hP1, hD1⟩ hS1)
theorem sbp_value (S : CallFix p m c cc nL s args (w0 :: GT) own) (hK : XK E s) (hT : TWc E K F G v n cnt q nq H) (hS : va_S (xA E) H0 H locs) (hl : Cond.fieldLink own idx "java/lang/AbstractStringBuilder" "value" "[B" ∈ GT) (hn : n ≤ nq ∧ nq ≤ 100) (hdg : decode cc pc = .ok (.putfield idx, 3)) (kk : ∀ (H1 : Heap) (locs1 : List Loc), TWb E K F G q nq cnt H1 → va_S (xA E) H0 H1 locs1 → W p l e R s m args below meth c H1 locs1 cells slots Q (F0 m (pc + 3) ls rest)) : W p l e R s m args below meth c H locs cells slots Q (F0 m pc ls (.ref q :: .ref E.2.2.2.1 :: rest)) := by
  obtain ⟨ws, hk, ⟨i, j, f, ml, e1, e2, k1, k2, ho, c1, c2, c3⟩, ⟨k, g, e3, k3, hqv, hg⟩, hP, hD⟩ := hT
  have nv := ne_oa hD e1 e2
  exact va_put (D := E.1) (ci := 0) (v := .ref q) (ty := (.array .byte)) (C := RJ4) (T := TJ4) (N := 4) S.1 S.2.1 S.2.2.2.2 (fun w h => List.mem_cons_of_mem _ (inJ4 w h)) tyJ4 tyJ4_ok nmJ4 S.2.2.2.1 hK.1 hP hD hS i e1 rfl 0 (by decide) (S.2.2.2.2 _ (List.mem_cons_of_mem _ hl)) (fun _ h => h) rfl (by decide +kernel) rfl rfl (Nat.le_of_ble_eq_true rfl) hdg (fun H1 locs1 hP1 hD1 hS1 => kk H1 locs1 ⟨_, hk.set e1 k1, ⟨i, k, g, ml, set_here e1, set_at e1 e3 (ne_oa hD e1 e3), k1, k3, hg, c1, by omega, hn.2⟩, hP1, hD1⟩ hS1)
theorem sb_len (S : CallFix p m c cc nL s args (w0 :: GT) own) (hK : XK E s) (hT : TWb E K F G v n cnt H) (hdg : decode cc pc = .ok (.arraylength, 1)) (kk : ∀ x : Int32, x.toInt = ((n : Nat) : Int) → W p l e R s m args below meth c H locs cells slots Q (F0 m (pc + 1) ls (.int x :: rest))) : W p l e R s m args below meth c H locs cells slots Q (F0 m pc ls (.ref v :: rest)) := by
  obtain ⟨ws, hk, ⟨i, j, f, ml, e1, e2, k1, k2, ho, c1, c2, c3⟩, hP, hD⟩ := hT
  exact va_alen S.1 S.2.1 hK.1 hP j 2 e2 rfl rfl hdg (kk _ (nI_toInt (by omega)))
theorem sc_len (S : CallFix p m c cc nL s args (w0 :: GT) own) (hK : XK E s) (hT : TWc E K F G v n cnt q nq H) (hdg : decode cc pc = .ok (.arraylength, 1)) (kk : ∀ x : Int32, x.toInt = ((n : Nat) : Int) → W p l e R s m args below meth c H locs cells slots Q (F0 m (pc + 1) ls (.int x :: rest))) : W p l e R s m args below meth c H locs cells slots Q (F0 m pc ls (.ref v :: rest)) := by
  obtain ⟨ws, hk, ⟨i, j, f, ml, e1, e2, k1, k2, ho, c1, c2, c3⟩, ⟨k, g, e3, k3, hqv, hg⟩, hP, hD⟩ := hT
  exact va_alen S.1 S.2.1 hK.1 hP j 2 e2 rfl rfl hdg (kk _ (nI_toInt (by omega)))
theorem sb_ld (S : CallFix p m c cc nL s args (w0 :: GT) own) (hK : XK E s) (hT : TWb E K F G v n cnt H) {x : Int32} (hin : 0 ≤ x.toInt ∧ x.toInt < ((n : Nat) : Int)) (hdg : decode cc pc = .ok (.baload, 1)) (kk : ∀ z : Int32, W p l e R s m args below meth c H locs cells slots Q (F0 m (pc + 1) ls (.int z :: rest))) : W p l e R s m args below meth c H locs cells slots Q (F0 m pc ls (.int x :: .ref v :: rest)) := by
  obtain ⟨ws, hk, ⟨i, j, f, ml, e1, e2, k1, k2, ho, c1, c2, c3⟩, hP, hD⟩ := hT
  exact va_bald S.1 S.2.1 hK.1 hP j 2 e2 rfl (vp_in_iff.mpr hin) hdg (kk _)
theorem sb_st (S : CallFix p m c cc nL s args (w0 :: GT) own) (hK : XK E s) (hT : TWb E K F G v n cnt H) (hS : va_S (xA E) H0 H locs) {x z : Int32} (hin : 0 ≤ x.toInt ∧ x.toInt < ((n : Nat) : Int)) (hdg : decode cc pc = .ok (.bastore, 1)) (kk : ∀ (H1 : Heap) (locs1 : List Loc), TWb E K F G v n cnt H1 → va_S (xA E) H0 H1 locs1 → W p l e R s m args below meth c H1 locs1 cells slots Q (F0 m (pc + 1) ls rest)) : W p l e R s m args below meth c H locs cells slots Q (F0 m pc ls (.int z :: .int x :: .ref v :: rest)) := by
  obtain ⟨ws, hk, ⟨i, j, f, ml, e1, e2, k1, k2, ho, c1, c2, c3⟩, hP, hD⟩ := hT
  have nv := ne_oa hD e1 e2
  exact va_bast S.1 S.2.1 hK.1 hP hD hS j 2 e2 rfl (vp_in_iff.mpr hin) hdg (fun H1 locs1 hP1 hD1 hS1 => kk H1 locs1 ⟨_, hk.set e2 k2, ⟨i, j, _, ml, set_at e2 e1 (Ne.symm nv), set_here e2, k1, k2, (fun y => by unfold upd; split <;> first | exact ho y | exact xok_b _), c1, c2, c3⟩, hP1, hD1⟩ hS1)
theorem xnn {x : Int32} (h : 0 ≤ x.toInt) : ¬ x < 0 := by
  intro q
  have h2 := Int32.lt_iff_toInt_lt.mp q
  have h3 : (0 : Int32).toInt = 0 := by decide
  omega
theorem xcl {x : Int32} (h : 0 ≤ x.toInt) : (x.toNatClampNeg : Int) = x.toInt := by
  have h2 : x.toNatClampNeg = x.toInt.toNat := rfl
  omega
theorem xok_cpy {f g : Nat → Int32} {sp dp z : Nat} (hf : ∀ q, xok 2 (f q)) (hg : ∀ q, xok 2 (g q)) : ∀ q, xok 2 (va_cpy f g sp dp z q) := by
  intro q
  unfold va_cpy
  split
  · exact hf _
  · exact hg _
theorem sc_copy (S : CallFix p m c cc nL s args (w0 :: GT) own) (hK : XK E s) (hT : TWc E K F G v n cnt q nq H) (hS : va_S (xA E) H0 H locs) (hac : (Cond.native arraycopyName ∈ GT ∧ Cond.static arraycopyName ∈ GT) ∧ Cond.initialized "java/lang/System" ∈ GT) (hl : Cond.methodLink own idx arraycopyName ∈ GT) {z : Int32} (hz : 0 ≤ z.toInt ∧ z.toInt ≤ ((n : Nat) : Int) ∧ z.toInt ≤ ((nq : Nat) : Int)) (hls : ls.size = nL) (hfr : 1 ≤ R.frames) (hlo : (rest.map fun v => v.category).sum + (nativeFrameWords "java/lang/System" "arraycopy" 5 + 11) ≤ R.locals) (hdg : decode cc pc = .ok (.invokestatic idx, 3)) (kk : ∀ (H1 : Heap) (locs1 : List Loc), TWc E K F G v n cnt q nq H1 → va_S (xA E) H0 H1 locs1 → W p l e R s m args below meth c H1 locs1 cells slots Q (F0 m (pc + 3) ls rest)) : W p l e R s m args below meth c H locs cells slots Q (F0 m pc ls (.int z :: .int 0 :: .ref q :: .int 0 :: .ref v :: rest)) := by
  obtain ⟨ws, hk, ⟨i, j, f, ml, e1, e2, k1, k2, ho, c1, c2, c3⟩, ⟨k, g, e3, k3, hqv, hg⟩, hP, hD⟩ := hT
  have hz2 := xcl hz.1
  have nv := ne_oa hD e1 e2
  have nq' := ne_oa hD e1 e3
  exact va_copyi (ty := .byte) S.1 S.2.1 (S.2.2.1.trans hls.symm) S.2.2.2.1 (S.2.2.2.2 _ (List.mem_cons_of_mem _ hl)) (S.2.2.2.2 _ (List.mem_cons_of_mem _ hac.1.1)) (S.2.2.2.2 _ (List.mem_cons_of_mem _ hac.1.2)) (S.2.2.2.2 _ (List.mem_cons_of_mem _ hac.2)) hK.1 hP hD hS j k 2 2 e2 e3 rfl rfl rfl (by decide) (by decide) (xnn hz.1) (by rw [sb_cl0]; omega) (by rw [sb_cl0]; omega) (fun y _ => xok_fit (ho _)) hfr hlo hdg (fun H1 locs1 hP1 hD1 hS1 => kk H1 locs1 ⟨_, hk.set e3 k3, ⟨i, j, f, ml, set_at e3 e1 (Ne.symm nq'), set_at e3 e2 (Ne.symm hqv), k1, k2, ho, c1, c2, c3⟩, ⟨k, _, set_here e3, k3, hqv, xok_cpy ho hg⟩, hP1, hD1⟩ hS1)
theorem xbyt_ok : ∀ i, i < 13 → ∀ j, xok 2 ((xbyt.getD i []).getD j 0) := by
  have h : ∀ i, i < 13 → ∀ j, j < 30 → narrow .byte (.int ((xbyt.getD i []).getD j 0)) = .int ((xbyt.getD i []).getD j 0) := by decide
  have h2 : ∀ i, i < 13 → (xbyt.getD i []).length ≤ 30 := by decide
  intro i hi j
  by_cases hj : j < 30
  · exact h i hi j hj
  · have h3 := h2 i hi
    rw [List.getD_eq_getElem?_getD, List.getElem?_eq_none (by omega)]
    rfl
theorem st_copy (S : CallFix p m c cc nL s args (w0 :: GT) own) (hK : XK E s) (hT : TWb E K F G v n cnt H) (hS : va_S (xA E) s.heap H locs) (hac : (Cond.native arraycopyName ∈ GT ∧ Cond.static arraycopyName ∈ GT) ∧ Cond.initialized "java/lang/System" ∈ GT) (hl : Cond.methodLink own idx arraycopyName ∈ GT) {t : Nat} (ht : t < 13) {dp z : Int32} (hd : 0 ≤ dp.toInt) (hz : 0 ≤ z.toInt ∧ z.toInt ≤ ((xlen.getD t 0 : Nat) : Int) ∧ dp.toInt + z.toInt ≤ ((n : Nat) : Int)) (hls : ls.size = nL) (hfr : 1 ≤ R.frames) (hlo : (rest.map fun v => v.category).sum + (nativeFrameWords "java/lang/System" "arraycopy" 5 + 11) ≤ R.locals) (hdg : decode cc pc = .ok (.invokestatic idx, 3)) (kk : ∀ (H1 : Heap) (locs1 : List Loc), TWb E K F G v n cnt H1 → va_S (xA E) s.heap H1 locs1 → W p l e R s m args below meth c H1 locs1 cells slots Q (F0 m (pc + 3) ls rest)) : W p l e R s m args below meth c H locs cells slots Q (F0 m pc ls (.int z :: .int dp :: .ref v :: .int 0 :: .ref (E.2.2.2.2.2 t) :: rest)) := by
  obtain ⟨ws, hk, ⟨i, j, f, ml, e1, e2, k1, k2, ho, c1, c2, c3⟩, hP, hD⟩ := hT
  have hz2 := xcl hz.1
  have hd2 := xcl hd
  have nv := ne_oa hD e1 e2
  exact vk_copyt S.1 S.2.1 (S.2.2.1.trans hls.symm) S.2.2.2.1 (S.2.2.2.2 _ (List.mem_cons_of_mem _ hl)) (S.2.2.2.2 _ (List.mem_cons_of_mem _ hac.1.1)) (S.2.2.2.2 _ (List.mem_cons_of_mem _ hac.1.2)) (S.2.2.2.2 _ (List.mem_cons_of_mem _ hac.2)) hK.1 hP hD hS (hK.2.2.2.1.1 t ht).2.2.2 j 2 e2 rfl (by decide) (xnn hd) (xnn hz.1) (by rw [sb_cl0]; omega) (by omega) (fun y _ => xok_fit (xbyt_ok t ht _)) hfr hlo hdg (fun H1 locs1 hP1 hD1 hS1 => kk H1 locs1 ⟨_, hk.set e2 k2, ⟨i, j, _, ml, set_at e2 e1 (Ne.symm nv), set_here e2, k1, k2, xok_cpy (xbyt_ok t ht) ho, c1, c2, c3⟩, hP1, hD1⟩ hS1)
theorem rc_sb (hK : XK E s) (hT : TWb E K F G v n cnt H) : ∃ cell : Cell, H[E.2.2.2.1]? = some cell ∧ cell.vm.isStatics = false ∧ s.vm.findClass RJ4 = some cell.cls := by
  obtain ⟨ws, hk, ⟨i, j, f, ml, e1, e2, k1, k2, ho, c1, c2, c3⟩, hP, hD⟩ := hT
  exact va_recv hK.1 hP (ci := 0) (q := (RJ4, TJ4, 4)) rfl e1
end XSB
end
section
theorem k_selL : Cond.selects RJ4 yJ5_isLatin1_aae02 yJ5_isLatin1_aae02 ∈ GT := GT_mem 470 (by decide +kernel) rfl
theorem k_sup : Cond.superclass RJ4 RJ5 ∈ GT := GT_mem 324 (by decide +kernel) rfl
theorem sb_selp {y z : MethodName} {C : String} {s : State} {args : Array Value} (hy : y.cls ≠ "java/lang/invoke/MethodHandle" ∧ y.cls ≠ "java/lang/invoke/VarHandle") (hcls : z.cls = y.cls) (hz : (Cond.selects C z z).before args s = true) (hpriv : (Cond.privateMethod y).before args s = true) (hinst : (Cond.instanceMethod y).before args s = true) : (Cond.selects C y y).before args s = true := by
  obtain ⟨c, r, m, hc, -, hm, -, k, hk, hni⟩ := Cond.selects_spec hz
  obtain ⟨mk, methM, hnamed, hmethM, -, -⟩ := Cond.instanceMethod_spec hinst
  have hfound : s.methodFound? y.cls y.name y.desc = some mk := State.methodFound?_of_named hnamed hy
  have h1 := findClass_of_methodNamed hm
  rw [hcls, findClass_of_methodNamed hnamed] at h1
  have h2 : mk.cls = m.cls := Option.some.inj h1
  have hsel : selectMethod {} s.vm c mk = .method mk := selectMethod_private hmethM (Cond.privateMethod_at hpriv mk methM hnamed hmethM)
  rw [← h2] at hk
  simp only [Cond.before, Cond.holds, Cond.value, hc, hfound, hnamed, hsel, hk]
  simp; exact hni
/-- what a caller needs of a method of the class above -/
def xcU (y : MethodName) (bytes : ByteArray) (maxL : Nat) (ret : Option FieldType) (n : Nat) : Prop := (Cond.code y bytes maxL ret ∈ GT ∧ Cond.instanceMethod y ∈ GT ∧ Cond.sameMethod y.cls y.cls y.name y.desc ∈ GT ∧ Cond.initialized y.cls ∈ GT) ∧ y.cls ≠ "java/lang/invoke/MethodHandle" ∧ y.cls ≠ "java/lang/invoke/VarHandle" ∧ (parseMethodDescriptor y.desc).map (fun d => d.parameters.length) = some n
set_option maxRecDepth 100000 in
theorem mu_J5_appendNull_278bc : xcU yJ5_appendNull_278bc cJ5_appendNull_278bc 3 (some (.object "java/lang/AbstractStringBuilder")) 0 := ⟨⟨GT_mem 806 rfl rfl, GT_mem 805 (by decide +kernel) rfl, GT_mem 1940 (by decide +kernel) rfl, GT_mem 101 (by decide +kernel) rfl⟩, by decide +kernel⟩
set_option maxRecDepth 100000 in
theorem mw_J5_appendNull_278bc : xcV yJ5_appendNull_278bc RJ4 cJ5_appendNull_278bc 3 (some (.object "java/lang/AbstractStringBuilder")) 0 := ⟨⟨mu_J5_appendNull_278bc.1.1, mu_J5_appendNull_278bc.1.2.1, GT_sb (List.mem_of_getElem? (i := 0) rfl), mu_J5_appendNull_278bc.1.2.2.2⟩, mu_J5_appendNull_278bc.2⟩
theorem mp_J5_appendNull_278bc : Cond.privateMethod yJ5_appendNull_278bc ∈ lw_tbl ∧ Cond.instanceMethod yJ5_appendNull_278bc ∈ lw_tbl := ⟨List.mem_of_getElem? (i := 804) (by decide +kernel), List.mem_of_getElem? (i := 805) (by decide +kernel)⟩
set_option maxRecDepth 100000 in
theorem mu_J5_append_3fe6f : xcU yJ5_append_3fe6f cJ5_append_3fe6f 2 (some (.object "java/lang/AbstractStringBuilder")) 1 := ⟨⟨GT_mem 888 rfl rfl, GT_mem 887 (by decide +kernel) rfl, GT_mem 1945 (by decide +kernel) rfl, GT_mem 101 (by decide +kernel) rfl⟩, by decide +kernel⟩
set_option maxRecDepth 100000 in
theorem mu_J5_append_c97b9 : xcU yJ5_append_c97b9 cJ5_append_c97b9 4 (some (.object "java/lang/AbstractStringBuilder")) 1 := ⟨⟨GT_mem 863 rfl rfl, GT_mem 862 (by decide +kernel) rfl, GT_mem 1944 (by decide +kernel) rfl, GT_mem 101 (by decide +kernel) rfl⟩, by decide +kernel⟩
set_option maxRecDepth 100000 in
theorem mu_J5_append_cf1ce : xcU yJ5_append_cf1ce cJ5_append_cf1ce 3 (some (.object "java/lang/AbstractStringBuilder")) 1 := ⟨⟨GT_mem 802 rfl rfl, GT_mem 801 (by decide +kernel) rfl, GT_mem 1939 (by decide +kernel) rfl, GT_mem 101 (by decide +kernel) rfl⟩, by decide +kernel⟩
set_option maxRecDepth 100000 in
theorem mu_J5_charAt_5068e : xcU yJ5_charAt_5068e cJ5_charAt_5068e 5 (some .char) 1 := ⟨⟨GT_mem 1235 rfl rfl, GT_mem 1234 (by decide +kernel) rfl, GT_mem 1947 (by decide +kernel) rfl, GT_mem 101 (by decide +kernel) rfl⟩, by decide +kernel⟩
set_option maxRecDepth 100000 in
theorem mu_J5_ensureCapacityInternal_d00df : xcU yJ5_ensureCapacityInternal_d00df cJ5_ensureCapacityInternal_d00df 3 none 1 := ⟨⟨GT_mem 435 rfl rfl, GT_mem 434 (by decide +kernel) rfl, GT_mem 1937 (by decide +kernel) rfl, GT_mem 101 (by decide +kernel) rfl⟩, by decide +kernel⟩
set_option maxRecDepth 100000 in
theorem mw_J5_ensureCapacityInternal_d00df : xcV yJ5_ensureCapacityInternal_d00df RJ4 cJ5_ensureCapacityInternal_d00df 3 none 1 := ⟨⟨mu_J5_ensureCapacityInternal_d00df.1.1, mu_J5_ensureCapacityInternal_d00df.1.2.1, GT_sb (List.mem_of_getElem? (i := 1) rfl), mu_J5_ensureCapacityInternal_d00df.1.2.2.2⟩, mu_J5_ensureCapacityInternal_d00df.2⟩
theorem mp_J5_ensureCapacityInternal_d00df : Cond.privateMethod yJ5_ensureCapacityInternal_d00df ∈ lw_tbl ∧ Cond.instanceMethod yJ5_ensureCapacityInternal_d00df ∈ lw_tbl := ⟨List.mem_of_getElem? (i := 433) (by decide +kernel), List.mem_of_getElem? (i := 434) (by decide +kernel)⟩
set_option maxRecDepth 100000 in
theorem mu_J5_inflateIfNeededFor_a7421 : xcU yJ5_inflateIfNeededFor_a7421 cJ5_inflateIfNeededFor_a7421 2 none 1 := ⟨⟨GT_mem 830 rfl rfl, GT_mem 829 (by decide +kernel) rfl, GT_mem 1942 (by decide +kernel) rfl, GT_mem 101 (by decide +kernel) rfl⟩, by decide +kernel⟩
set_option maxRecDepth 100000 in
theorem mw_J5_inflateIfNeededFor_a7421 : xcV yJ5_inflateIfNeededFor_a7421 RJ4 cJ5_inflateIfNeededFor_a7421 2 none 1 := ⟨⟨mu_J5_inflateIfNeededFor_a7421.1.1, mu_J5_inflateIfNeededFor_a7421.1.2.1, GT_sb (List.mem_of_getElem? (i := 2) rfl), mu_J5_inflateIfNeededFor_a7421.1.2.2.2⟩, mu_J5_inflateIfNeededFor_a7421.2⟩
theorem mp_J5_inflateIfNeededFor_a7421 : Cond.privateMethod yJ5_inflateIfNeededFor_a7421 ∈ lw_tbl ∧ Cond.instanceMethod yJ5_inflateIfNeededFor_a7421 ∈ lw_tbl := ⟨List.mem_of_getElem? (i := 828) (by decide +kernel), List.mem_of_getElem? (i := 829) (by decide +kernel)⟩
set_option maxRecDepth 100000 in
theorem mu_J5_inflate_da8c8 : xcU yJ5_inflate_da8c8 cJ5_inflate_da8c8 2 none 0 := ⟨⟨GT_mem 835 rfl rfl, GT_mem 834 (by decide +kernel) rfl, GT_mem 1943 (by decide +kernel) rfl, GT_mem 101 (by decide +kernel) rfl⟩, by decide +kernel⟩
set_option maxRecDepth 100000 in
theorem mw_J5_inflate_da8c8 : xcV yJ5_inflate_da8c8 RJ4 cJ5_inflate_da8c8 2 none 0 := ⟨⟨mu_J5_inflate_da8c8.1.1, mu_J5_inflate_da8c8.1.2.1, GT_sb (List.mem_of_getElem? (i := 3) rfl), mu_J5_inflate_da8c8.1.2.2.2⟩, mu_J5_inflate_da8c8.2⟩
theorem mp_J5_inflate_da8c8 : Cond.privateMethod yJ5_inflate_da8c8 ∈ lw_tbl ∧ Cond.instanceMethod yJ5_inflate_da8c8 ∈ lw_tbl := ⟨List.mem_of_getElem? (i := 833) (by decide +kernel), List.mem_of_getElem? (i := 834) (by decide +kernel)⟩
set_option maxRecDepth 100000 in
theorem mu_J5_isLatin1_aae02 : xcU yJ5_isLatin1_aae02 cJ5_isLatin1_aae02 1 (some .boolean) 0 := ⟨⟨GT_mem 471 rfl rfl, GT_mem 468 (by decide +kernel) rfl, GT_mem 469 (by decide +kernel) rfl, GT_mem 101 (by decide +kernel) rfl⟩, by decide +kernel⟩
set_option maxRecDepth 100000 in
theorem mw_J5_isLatin1_aae02 : xcV yJ5_isLatin1_aae02 RJ4 cJ5_isLatin1_aae02 1 (some .boolean) 0 := ⟨⟨mu_J5_isLatin1_aae02.1.1, mu_J5_isLatin1_aae02.1.2.1, k_selL, mu_J5_isLatin1_aae02.1.2.2.2⟩, mu_J5_isLatin1_aae02.2⟩
set_option maxRecDepth 100000 in
theorem mu_J5_length_8abf5 : xcU yJ5_length_8abf5 cJ5_length_8abf5 1 (some .int) 0 := ⟨⟨GT_mem 1208 rfl rfl, GT_mem 1207 (by decide +kernel) rfl, GT_mem 1946 (by decide +kernel) rfl, GT_mem 101 (by decide +kernel) rfl⟩, by decide +kernel⟩
set_option maxRecDepth 100000 in
theorem mu_J5_newCapacity_0f7a4 : xcU yJ5_newCapacity_0f7a4 cJ5_newCapacity_0f7a4 6 (some .int) 1 := ⟨⟨GT_mem 439 rfl rfl, GT_mem 438 (by decide +kernel) rfl, GT_mem 1938 (by decide +kernel) rfl, GT_mem 101 (by decide +kernel) rfl⟩, by decide +kernel⟩
set_option maxRecDepth 100000 in
theorem mw_J5_newCapacity_0f7a4 : xcV yJ5_newCapacity_0f7a4 RJ4 cJ5_newCapacity_0f7a4 6 (some .int) 1 := ⟨⟨mu_J5_newCapacity_0f7a4.1.1, mu_J5_newCapacity_0f7a4.1.2.1, GT_sb (List.mem_of_getElem? (i := 4) rfl), mu_J5_newCapacity_0f7a4.1.2.2.2⟩, mu_J5_newCapacity_0f7a4.2⟩
theorem mp_J5_newCapacity_0f7a4 : Cond.privateMethod yJ5_newCapacity_0f7a4 ∈ lw_tbl ∧ Cond.instanceMethod yJ5_newCapacity_0f7a4 ∈ lw_tbl := ⟨List.mem_of_getElem? (i := 437) (by decide +kernel), List.mem_of_getElem? (i := 438) (by decide +kernel)⟩
set_option maxRecDepth 100000 in
theorem mu_J5_putStringAt_47b60 : xcU yJ5_putStringAt_47b60 cJ5_putStringAt_47b60 3 none 2 := ⟨⟨GT_mem 826 rfl rfl, GT_mem 825 (by decide +kernel) rfl, GT_mem 1941 (by decide +kernel) rfl, GT_mem 101 (by decide +kernel) rfl⟩, by decide +kernel⟩
set_option maxRecDepth 100000 in
theorem mw_J5_putStringAt_47b60 : xcV yJ5_putStringAt_47b60 RJ4 cJ5_putStringAt_47b60 3 none 2 := ⟨⟨mu_J5_putStringAt_47b60.1.1, mu_J5_putStringAt_47b60.1.2.1, GT_sb (List.mem_of_getElem? (i := 5) rfl), mu_J5_putStringAt_47b60.1.2.2.2⟩, mu_J5_putStringAt_47b60.2⟩
theorem mp_J5_putStringAt_47b60 : Cond.privateMethod yJ5_putStringAt_47b60 ∈ lw_tbl ∧ Cond.instanceMethod yJ5_putStringAt_47b60 ∈ lw_tbl := ⟨List.mem_of_getElem? (i := 824) (by decide +kernel), List.mem_of_getElem? (i := 825) (by decide +kernel)⟩
set_option maxRecDepth 100000 in
theorem mu_J5_setLength_d00df : xcU yJ5_setLength_d00df cJ5_setLength_d00df 2 none 1 := ⟨⟨GT_mem 431 rfl rfl, GT_mem 430 (by decide +kernel) rfl, GT_mem 1936 (by decide +kernel) rfl, GT_mem 101 (by decide +kernel) rfl⟩, by decide +kernel⟩
theorem GT_hold {args : Array Value} {s : State} (h : ∀ w ∈ lw_tbl, w.before args s = true) : ∀ w ∈ GT, w.before args s = true := by
  intro w hw
  rcases List.mem_append.mp (List.mem_filter.mp hw).1 with h1 | h1
  · exact h w h1
  · have hz : (Cond.selects RJ4 yJ5_isLatin1_aae02 yJ5_isLatin1_aae02).before args s = true := h _ (List.mem_of_getElem? (i := 470) (by decide +kernel))
    obtain ⟨y, hy, rfl⟩ := List.mem_map.mp h1
    have key : ∀ y ∈ sbp, (y.cls ≠ "java/lang/invoke/MethodHandle" ∧ y.cls ≠ "java/lang/invoke/VarHandle") ∧ yJ5_isLatin1_aae02.cls = y.cls ∧ Cond.privateMethod y ∈ lw_tbl ∧ Cond.instanceMethod y ∈ lw_tbl :=
      List.forall_mem_cons.mpr ⟨⟨by decide +kernel, rfl, mp_J5_appendNull_278bc⟩, List.forall_mem_cons.mpr ⟨⟨by decide +kernel, rfl, mp_J5_ensureCapacityInternal_d00df⟩, List.forall_mem_cons.mpr ⟨⟨by decide +kernel, rfl, mp_J5_inflateIfNeededFor_a7421⟩, List.forall_mem_cons.mpr ⟨⟨by decide +kernel, rfl, mp_J5_inflate_da8c8⟩, List.forall_mem_cons.mpr ⟨⟨by decide +kernel, rfl, mp_J5_newCapacity_0f7a4⟩, List.forall_mem_cons.mpr ⟨⟨by decide +kernel, rfl, mp_J5_putStringAt_47b60⟩, fun _ h => absurd h List.not_mem_nil⟩⟩⟩⟩⟩⟩
    obtain ⟨a1, a2, a3, a4⟩ := key y hy
    exact sb_selp a1 a2 hz (h _ a3) (h _ a4)
section XSC
variable {p : Program} {l : Launch} {e : Env} {R : Room} {s : State} {m : MethodId} {args : Array Value} {below : List Frame} {meth : Method} {c : Code} {H : Heap} {locs : List Loc} {cells slots : Nat} {Q : State → Prop}
variable {pc : Nat} {ls : Array Slot} {rest : List Value} {E : XE} {cc : ByteArray} {nL : Nat} {own : String} {w0 : Cond} {K : Nat → Nat} {F : Nat → Nat → Nat} {G : XG} {v n : Nat} {cnt : Int32} {index mc ms np maxL : Nat} {y : MethodName} {bytes : ByteArray} {ret : Option FieldType} {rm : Room} {Qc : Array Value → State → Outcome → State → Prop} {b : Addr} {As : List Value} {P9 : State → Prop}
theorem sb_new (S : CallFix p m c cc nL s args (w0 :: GT) own) (hK : XK E s) (hz : E.2.2.1 ≤ s.heap.size) (hT : TWb E K F G v n cnt H) (hS : va_S (xA E) s.heap H locs) {x : Int32} {N : Nat} (hx : x.toInt = ((N : Nat) : Int)) (hN : N ≤ 100) (hc : cells + 1 ≤ R.cells) (hs : slots + 100 ≤ R.slots) (hdg : decode cc pc = .ok (.newarray .byte, 2)) (kk : ∀ (q : Nat) (H1 : Heap), TWc E K F G v n cnt q N H1 → va_S (xA E) s.heap H1 locs → W p l e R s m args below meth c H1 locs (cells + 1) (slots + 100) Q (F0 m (pc + 2) ls (.ref q :: rest))) : W p l e R s m args below meth c H locs cells slots Q (F0 m pc ls (.int x :: rest)) := by
  obtain ⟨ws, hk, ⟨i, j, f, ml, e1, e2, k1, k2, ho, c1, c2, c3⟩, hP, hD⟩ := hT
  have hx2 := xcl (x := x) (by omega)
  refine va_newa (atype := .byte) (ty := .byte) (N' := N) (a0 := (N, .inl (fun _ => 0))) S.1 S.2.1 (S.2.2.2.2 _ (List.mem_cons_of_mem _ ka_byte)) rfl hK.1 hP hD hS (fun q h => Nat.le_trans hz h) (fun cA => ?_) (xnn (by omega)) (by omega) (by show N * 1 ≤ _; omega) hc (by omega) hdg (fun q cA H1 hK1 hP1 hD1 hS1 => ?_)
  · first | rfl | (rw [vp_cell_i]; rfl)
  · have hq : cA = E.2.1 2 := by
      have h1 := (hK1.2 7 (cA, .byte) rfl).2
      have h2 := (hK.1.2 2 (E.2.1 2, .byte) rfl).2
      exact Option.some.inj (h1.symm.trans h2)
    subst hq
    have up : ∀ (i : Nat) (x : Nat × va_E), ws[i]? = some x → (ws ++ [(q, .inl (E.2.1 2, N, .inl (fun _ => 0)))])[i]? = some x := fun i x h => by rw [List.getElem?_append_left (List.getElem?_eq_some_iff.mp h).1]; exact h
    have ap : ∀ (i : Nat) (x : va_E), ws[i]? = some (q, x) → False := fun i x h => by
      have hl := (List.getElem?_eq_some_iff.mp h).1
      have h2 : (ws ++ [(q, .inl (E.2.1 2, N, .inl (fun _ => 0)))])[ws.length]? = some (q, .inl (E.2.1 2, N, .inl (fun _ => 0))) := by simp
      have := hD1.1 _ _ _ _ (up _ _ h) h2 rfl
      omega
    have hne : q ≠ v := fun z => by subst z; exact ap _ _ e2
    have hkq : K q = 0 := by
      by_cases z : K q = 0
      · exact z
      · obtain ⟨i', x', h1, -⟩ := hk.1 q z
        exact (ap _ _ h1).elim
    exact W.widen (k := cells + 1) (n := slots + 100) (Nat.le_refl _) (by omega) (kk q H1 ⟨_, hk.push, ⟨i, j, f, ml, up _ _ e1, up _ _ e2, k1, k2, ho, c1, c2, c3⟩, ⟨ws.length, fun _ => 0, by simp, hkq, hne, fun _ => rfl⟩, hP1, hD1⟩ hS1)
theorem x_runU (S : CallFix p m c cc nL s args (w0 :: GT) own) (hM : Met l y (xw y bytes maxL ret) rm (va_Pc (.ref b :: As) P9) Qc mc ms (xA E)) (hc : xcU y bytes maxL ret np) (hsel : (Cond.selects RJ4 y y).before args s = true) (hl : Cond.methodLink own index y ∈ GT) (hrc : rm.cells = mc) (hrs : rm.slots = ms) (hR : rm.frames + 1 ≤ R.frames ∧ 8 + (maxL + 11) + rm.locals ≤ R.locals)
    (hb : ∃ cell : Cell, H[b]? = some cell ∧ cell.vm.isStatics = false ∧ s.vm.findClass RJ4 = some cell.cls) (hK : XK E s) (hbl : ∀ av : List Value, FrameBlind (va_Pc av P9)) (hp9 : ∀ U : State, U.heap = H → s.WarmedH U.vm → P9 U)
    (hn : As.length = np) (hsize : ls.size = nL) (hW : (rest.map fun v => v.category).sum ≤ 8) (hdg : decode cc pc = .ok (.invokevirtual index, 3)) (hf : cells + mc ≤ R.cells ∧ slots + ms ≤ R.slots) :
    va_Run p l e R s m args below meth c H locs cells slots mc ms (F0 m pc ls (As.reverse ++ .ref b :: rest)) rest (Qc (Value.ref b :: As).toArray) (xA E) := by
  have hB := x_callB S np hc.1.1 hc.1.2.2.2 hl hrc hrs hc.2 hR
  have hi := S.2.2.2.2 _ (List.mem_cons_of_mem _ hc.1.2.1)
  obtain ⟨b1, b2, b3, b4, b5, b6, b7, b8, b9, b10, b11⟩ := hB
  exact va_runU (C := RJ4) (owner := y.cls) (x := y) S hM ⟨⟨b1, b2, b3, b4, b5, b6⟩, b7, b8, b9, b10, b11, S.2.2.2.2 _ (List.mem_cons_of_mem _ hc.1.2.2.1), va_Decl.of hi b7, hsel, hi⟩ ⟨hbl _, hb, fun U hU hW => ⟨rfl, hp9 U hU hW⟩⟩ rfl hn hsize rfl (lv_room hW) hdg hf
theorem x_runSU {cC : ClassId} (hat : ClassAt s RJ4 cC) (S : CallFix p m c cc nL s args (w0 :: GT) RJ4) (hM : Met l y (xw y bytes maxL ret) rm (va_Pc (.ref b :: As) P9) Qc mc ms (xA E)) (hc : xcU y bytes maxL ret np) (hy : y.cls = RJ5) (hno : y.name ≠ "<init>") (hl : Cond.methodLink RJ4 index y ∈ GT) (hrc : rm.cells = mc) (hrs : rm.slots = ms) (hR : rm.frames + 1 ≤ R.frames ∧ 8 + (maxL + 11) + rm.locals ≤ R.locals)
    (hb : ∃ cell : Cell, H[b]? = some cell ∧ cell.vm.isStatics = false ∧ s.vm.findClass RJ4 = some cell.cls) (hK : XK E s) (hbl : ∀ av : List Value, FrameBlind (va_Pc av P9)) (hp9 : ∀ U : State, U.heap = H → s.WarmedH U.vm → P9 U)
    (hn : As.length = np) (hsize : ls.size = nL) (hW : (rest.map fun v => v.category).sum ≤ 8) (hdg : decode cc pc = .ok (.invokespecial index, 3)) (hf : cells + mc ≤ R.cells ∧ slots + ms ≤ R.slots) :
    va_Run p l e R s m args below meth c H locs cells slots mc ms (F0 m pc ls (As.reverse ++ .ref b :: rest)) rest (Qc (Value.ref b :: As).toArray) (xA E) := by
  have hB := x_callB S np hc.1.1 hc.1.2.2.2 hl hrc hrs hc.2 hR
  have hi := S.2.2.2.2 _ (List.mem_cons_of_mem _ hc.1.2.1)
  have hs := S.2.2.2.2 _ (List.mem_cons_of_mem _ k_sup)
  rw [← hy] at hs
  obtain ⟨b1, b2, b3, b4, b5, b6, b7, b8, b9, b10, b11⟩ := hB
  exact va_runSU (C := RJ4) hat S hM ⟨⟨b1, b2, b3, b4, b5, b6⟩, b11, S.2.2.2.2 _ (List.mem_cons_of_mem _ hc.1.2.2.1), hs, hi, b8, b7, hno, b10⟩ ⟨hbl _, hb, fun U hU hW => ⟨rfl, hp9 U hU hW⟩⟩ rfl hn hsize rfl (lv_room hW) hdg hf
theorem x_atJ4 (hK : XK E s) : ∃ cC : ClassId, ClassAt s RJ4 cC := ⟨_, (hK.1.1 0 (RJ4, TJ4, 4) rfl).2⟩
end XSC
end
