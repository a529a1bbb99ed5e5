theorem xlen6 {i : Nat} (h : i < 6) : ((xlen.getD i 0 : Nat) : Int) ≤ 6 := by
  have : ∀ j, j < 6 → xlen.getD j 0 ≤ 6 := by decide
  have := this i h
  omega
abbrev rm_J4_append_15ec4 : Room := { frames := 5, cells := 1, slots := 100, locals := 127 }
set_option maxHeartbeats 4000000 in
set_option maxRecDepth 100000 in
theorem c_J4_append_15ec4 (l : Launch) (E : XE) (K : Nat → Nat) (F : Nat → Nat → Nat) (G : XG) (v n : Nat) (cnt : Int32) (i0 : Nat) (hi0 : i0 < 13) (e1 : cnt.toInt + (((xlen.getD i0 0) : Nat) : Int) ≤ 48) : Met l yJ4_append_15ec4 (xw yJ4_append_15ec4 cJ4_append_15ec4 2 (some (.object "java/lang/StringBuilder"))) rm_J4_append_15ec4 (va_Pc [.ref E.2.2.2.1, .ref (E.2.2.2.2.1 i0)] (XPb E K F G v n cnt)) (XQ E (fun v (u : Nat × Nat × Int32) => v = .ref E.2.2.2.1 ∧ u.2.2.toInt = cnt.toInt + ((xlen.getD i0 0 : Nat) : Int)) (fun u H => TWb E K F G u.1 u.2.1 u.2.2 H)) 1 100 (xA E) := by
  refine x_enter (by decide) (Nat.le_of_ble_eq_true rfl) ?_
  intro p e s m args below meth c Q S hr hlk hnm hQ hP ls hl
  obtain ⟨hz, hK, hT⟩ := hP
  obtain ⟨hx, hb, -, -, -⟩ := id S
  obtain ⟨H, hT, hS, hgo⟩ : ∃ H : Heap, TWb E K F G v n cnt H ∧ va_S (xA E) s.heap H [] ∧ H = s.heap := ⟨_, hT, va_S.rf, rfl⟩
  rw [← hgo]
  have hl : lv_has ls 2 [(0, .ref E.2.2.2.1), (1, .ref (E.2.2.2.2.1 i0))] := hl
  have e9 := hT.inv
  refine lv_aload_n hx hb dJ4_append_15ec4_0 rfl (lv_at hl 0 rfl) ?_
  refine lv_aload_n hx hb dJ4_append_15ec4_1 rfl (lv_at hl 1 rfl) ?_
  obtain ⟨cC, hat⟩ := x_atJ4 hK
  refine x_cl (x_runSU hat (b := E.2.2.2.1) (As := [.ref (E.2.2.2.2.1 i0)]) (rest := []) S (c_J5_append_cf1ce l E K F G v n cnt i0 hi0 (e1)) mu_J5_append_cf1ce rfl (by decide) km_J4_29 rfl rfl ⟨Nat.le_of_ble_eq_true rfl, Nat.le_of_ble_eq_true rfl⟩ (rc_sb hK hT) hK (fun _ => XPb.blind) (fun U hU hW => XPb.at hK hz hS hT hU hW) rfl hl.1 (Nat.le_of_ble_eq_true rfl) dJ4_append_15ec4_2 ⟨Nat.le_of_ble_eq_true rfl, Nat.le_of_ble_eq_true rfl⟩) hS ?_
  rintro _ ⟨q1, n2, k3⟩ H locs ⟨rfl, t4⟩ hT hS
  have t4 : k3.toInt = cnt.toInt + (((xlen.getD i0 0) : Nat) : Int) := t4
  have hT : TWb E K F G q1 n2 k3 H := hT
  have v6 : 0 ≤ k3.toInt ∧ k3.toInt ≤ (((n2) : Nat) : Int) ∧ (((n2) : Nat) : Int) ≤ 100 := hT.inv
  refine lv_pop hx hb dJ4_append_15ec4_5 rfl ?_
  refine lv_aload_n hx hb dJ4_append_15ec4_6 rfl (lv_at hl 0 rfl) ?_
  exact x_ra hx hb hr (by first | exact Or.inl ⟨_, rfl⟩ | exact Or.inr ⟨_, rfl⟩) (by first | exact Or.inl rfl | exact Or.inr ⟨_, rfl⟩) hlk hQ (Nat.le_of_ble_eq_true rfl) (Nat.le_of_ble_eq_true rfl) hS dJ4_append_15ec4_7 (q1, n2, k3) ⟨rfl, (t4)⟩ hT

abbrev rm_J4_append_bf812 : Room := { frames := 5, cells := 1, slots := 100, locals := 127 }
set_option maxHeartbeats 4000000 in
set_option maxRecDepth 100000 in
theorem c_J4_append_bf812 (l : Launch) (E : XE) (K : Nat → Nat) (F : Nat → Nat → Nat) (G : XG) (v n : Nat) (cnt : Int32) (p0 : Int32) (e1 : cnt.toInt ≤ 37) : Met l yJ4_append_bf812 (xw yJ4_append_bf812 cJ4_append_bf812 2 (some (.object "java/lang/StringBuilder"))) rm_J4_append_bf812 (va_Pc [.ref E.2.2.2.1, .int p0] (XPb E K F G v n cnt)) (XQ E (fun v (u : Nat × Nat × Int32) => v = .ref E.2.2.2.1 ∧ cnt.toInt ≤ u.2.2.toInt ∧ u.2.2.toInt ≤ cnt.toInt + 11) (fun u H => TWb E K F G u.1 u.2.1 u.2.2 H)) 1 100 (xA E) := by
  refine x_enter (by decide) (Nat.le_of_ble_eq_true rfl) ?_
  intro p e s m args below meth c Q S hr hlk hnm hQ hP ls hl
  obtain ⟨hz, hK, hT⟩ := hP
  obtain ⟨hx, hb, -, -, -⟩ := id S
  obtain ⟨H, hT, hS, hgo⟩ : ∃ H : Heap, TWb E K F G v n cnt H ∧ va_S (xA E) s.heap H [] ∧ H = s.heap := ⟨_, hT, va_S.rf, rfl⟩
  rw [← hgo]
  have hl : lv_has ls 2 [(0, .ref E.2.2.2.1), (1, .int p0)] := hl
  have e9 := hT.inv
  refine lv_aload_n hx hb dJ4_append_bf812_0 rfl (lv_at hl 0 rfl) ?_
  refine lv_iload_n hx hb dJ4_append_bf812_1 rfl (lv_at hl 1 rfl) ?_
  obtain ⟨cC, hat⟩ := x_atJ4 hK
  refine x_cl (x_runSU hat (b := E.2.2.2.1) (As := [.int p0]) (rest := []) S (c_J5_append_c97b9 l E K F G v n cnt p0 (e1)) mu_J5_append_c97b9 rfl (by decide) km_J4_53 rfl rfl ⟨Nat.le_of_ble_eq_true rfl, Nat.le_of_ble_eq_true rfl⟩ (rc_sb hK hT) hK (fun _ => XPb.blind) (fun U hU hW => XPb.at hK hz hS hT hU hW) rfl hl.1 (Nat.le_of_ble_eq_true rfl) dJ4_append_bf812_2 ⟨Nat.le_of_ble_eq_true rfl, Nat.le_of_ble_eq_true rfl⟩) hS ?_
  rintro _ ⟨q1, n2, k3⟩ H locs ⟨rfl, t4⟩ hT hS
  have t4 : cnt.toInt ≤ k3.toInt ∧ k3.toInt ≤ cnt.toInt + 11 := t4
  have hT : TWb E K F G q1 n2 k3 H := hT
  have v6 : 0 ≤ k3.toInt ∧ k3.toInt ≤ (((n2) : Nat) : Int) ∧ (((n2) : Nat) : Int) ≤ 100 := hT.inv
  refine lv_pop hx hb dJ4_append_bf812_5 rfl ?_
  refine lv_aload_n hx hb dJ4_append_bf812_6 rfl (lv_at hl 0 rfl) ?_
  exact x_ra hx hb hr (by first | exact Or.inl ⟨_, rfl⟩ | exact Or.inr ⟨_, rfl⟩) (by first | exact Or.inl rfl | exact Or.inr ⟨_, rfl⟩) hlk hQ (Nat.le_of_ble_eq_true rfl) (Nat.le_of_ble_eq_true rfl) hS dJ4_append_bf812_7 (q1, n2, k3) ⟨rfl, (t4)⟩ hT

abbrev rm_J4_append_cf468 : Room := { frames := 5, cells := 1, slots := 100, locals := 125 }
set_option maxHeartbeats 4000000 in
set_option maxRecDepth 100000 in
theorem c_J4_append_cf468 (l : Launch) (E : XE) (K : Nat → Nat) (F : Nat → Nat → Nat) (G : XG) (v n : Nat) (cnt : Int32) (p0 : Int32) (e1 : cnt.toInt ≤ 47) (e2 : p0.toInt ≤ 255) : Met l yJ4_append_cf468 (xw yJ4_append_cf468 cJ4_append_cf468 2 (some (.object "java/lang/StringBuilder"))) rm_J4_append_cf468 (va_Pc [.ref E.2.2.2.1, .int p0] (XPb E K F G v n cnt)) (XQ E (fun v (u : Nat × Nat × Int32) => v = .ref E.2.2.2.1 ∧ u.2.2.toInt = cnt.toInt + 1) (fun u H => TWb E K F G u.1 u.2.1 u.2.2 H)) 1 100 (xA E) := by
  refine x_enter (by decide) (Nat.le_of_ble_eq_true rfl) ?_
  intro p e s m args below meth c Q S hr hlk hnm hQ hP ls hl
  obtain ⟨hz, hK, hT⟩ := hP
  obtain ⟨hx, hb, -, -, -⟩ := id S
  obtain ⟨H, hT, hS, hgo⟩ : ∃ H : Heap, TWb E K F G v n cnt H ∧ va_S (xA E) s.heap H [] ∧ H = s.heap := ⟨_, hT, va_S.rf, rfl⟩
  rw [← hgo]
  have hl : lv_has ls 2 [(0, .ref E.2.2.2.1), (1, .int p0)] := hl
  have e9 := hT.inv
  refine lv_aload_n hx hb dJ4_append_cf468_0 rfl (lv_at hl 0 rfl) ?_
  refine lv_iload_n hx hb dJ4_append_cf468_1 rfl (lv_at hl 1 rfl) ?_
  obtain ⟨cC, hat⟩ := x_atJ4 hK
  refine x_cl (x_runSU hat (b := E.2.2.2.1) (As := [.int p0]) (rest := []) S (c_J5_append_3fe6f l E K F G v n cnt p0 (e1) (e2)) mu_J5_append_3fe6f rfl (by decide) km_J4_50 rfl rfl ⟨Nat.le_of_ble_eq_true rfl, Nat.le_of_ble_eq_true rfl⟩ (rc_sb hK hT) hK (fun _ => XPb.blind) (fun U hU hW => XPb.at hK hz hS hT hU hW) rfl hl.1 (Nat.le_of_ble_eq_true rfl) dJ4_append_cf468_2 ⟨Nat.le_of_ble_eq_true rfl, Nat.le_of_ble_eq_true rfl⟩) hS ?_
  rintro _ ⟨q1, n2, k3⟩ H locs ⟨rfl, t4⟩ hT hS
  have t4 : k3.toInt = cnt.toInt + 1 := t4
  have hT : TWb E K F G q1 n2 k3 H := hT
  have v6 : 0 ≤ k3.toInt ∧ k3.toInt ≤ (((n2) : Nat) : Int) ∧ (((n2) : Nat) : Int) ≤ 100 := hT.inv
  refine lv_pop hx hb dJ4_append_cf468_5 rfl ?_
  refine lv_aload_n hx hb dJ4_append_cf468_6 rfl (lv_at hl 0 rfl) ?_
  exact x_ra hx hb hr (by first | exact Or.inl ⟨_, rfl⟩ | exact Or.inr ⟨_, rfl⟩) (by first | exact Or.inl rfl | exact Or.inr ⟨_, rfl⟩) hlk hQ (Nat.le_of_ble_eq_true rfl) (Nat.le_of_ble_eq_true rfl) hS dJ4_append_cf468_7 (q1, n2, k3) ⟨rfl, (t4)⟩ hT

abbrev rm_J4_setLength_d00df : Room := { frames := 5, cells := 1, slots := 100, locals := 125 }
set_option maxHeartbeats 4000000 in
set_option maxRecDepth 100000 in
theorem c_J4_setLength_d00df (l : Launch) (E : XE) (K : Nat → Nat) (F : Nat → Nat → Nat) (G : XG) (v n : Nat) (cnt : Int32)   : Met l yJ4_setLength_d00df (xw yJ4_setLength_d00df cJ4_setLength_d00df 2 none) rm_J4_setLength_d00df (va_Pc [.ref E.2.2.2.1, .int 0] (XPb E K F G v n cnt)) (XQv E (fun (u : Nat × Nat × Int32) => u.2.2.toInt = 0) (fun u H => TWb E K F G u.1 u.2.1 u.2.2 H)) 1 100 (xA E) := by
  refine x_enter (by decide) (Nat.le_of_ble_eq_true rfl) ?_
  intro p e s m args below meth c Q S hr hlk hnm hQ hP ls hl
  obtain ⟨hz, hK, hT⟩ := hP
  obtain ⟨hx, hb, -, -, -⟩ := id S
  obtain ⟨H, hT, hS, hgo⟩ : ∃ H : Heap, TWb E K F G v n cnt H ∧ va_S (xA E) s.heap H [] ∧ H = s.heap := ⟨_, hT, va_S.rf, rfl⟩
  rw [← hgo]
  have hl : lv_has ls 2 [(0, .ref E.2.2.2.1), (1, .int 0)] := hl
  have e9 := hT.inv
  refine lv_aload_n hx hb dJ4_setLength_d00df_0 rfl (lv_at hl 0 rfl) ?_
  refine lv_iload_n hx hb dJ4_setLength_d00df_1 rfl (lv_at hl 1 rfl) ?_
  obtain ⟨cC, hat⟩ := x_atJ4 hK
  refine x_cv (x_runSU hat (b := E.2.2.2.1) (As := [.int 0]) (rest := []) S (c_J5_setLength_d00df l E K F G v n cnt ) mu_J5_setLength_d00df rfl (by decide) km_J4_333 rfl rfl ⟨Nat.le_of_ble_eq_true rfl, Nat.le_of_ble_eq_true rfl⟩ (rc_sb hK hT) hK (fun _ => XPb.blind) (fun U hU hW => XPb.at hK hz hS hT hU hW) rfl hl.1 (Nat.le_of_ble_eq_true rfl) dJ4_setLength_d00df_2 ⟨Nat.le_of_ble_eq_true rfl, Nat.le_of_ble_eq_true rfl⟩) hS ?_
  rintro ⟨q1, n2, k3⟩ H locs t4 hT hS
  have t4 : k3.toInt = 0 := t4
  have hT : TWb E K F G q1 n2 k3 H := hT
  have v6 : 0 ≤ k3.toInt ∧ k3.toInt ≤ (((n2) : Nat) : Int) ∧ (((n2) : Nat) : Int) ≤ 100 := hT.inv
  exact x_rv hx hb hr hlk hQ (Nat.le_of_ble_eq_true rfl) (Nat.le_of_ble_eq_true rfl) hS dJ4_setLength_d00df_5 (q1, n2, k3) (t4) hT

abbrev rm_J4_length_8abf5 : Room := { frames := 1, cells := 0, slots := 0, locals := 20 }
set_option maxHeartbeats 4000000 in
set_option maxRecDepth 100000 in
theorem c_J4_length_8abf5 (l : Launch) (E : XE) (K : Nat → Nat) (F : Nat → Nat → Nat) (G : XG) (v n : Nat) (cnt : Int32) (h0 : Heap)   : Met l yJ4_length_8abf5 (xw yJ4_length_8abf5 cJ4_length_8abf5 1 (some .int)) rm_J4_length_8abf5 (va_Pc [.ref E.2.2.2.1] (XPbh E K F G v n cnt h0)) (XQ E (fun v (u : Unit) => ∃ r : Int32, v = .int r ∧ (r.toInt = cnt.toInt)) (fun _ H => H = h0)) 0 0 (xA E) := by
  refine x_enter (by decide) (Nat.le_of_ble_eq_true rfl) ?_
  intro p e s m args below meth c Q S hr hlk hnm hQ hP ls hl
  obtain ⟨⟨hz, hK, hT⟩, hh⟩ := hP
  obtain ⟨hx, hb, -, -, -⟩ := id S
  have hS : va_S (xA E) s.heap s.heap [] := va_S.rf
  have hl : lv_has ls 1 [(0, .ref E.2.2.2.1)] := hl
  have e9 := hT.inv
  refine lv_aload_n hx hb dJ4_length_8abf5_0 rfl (lv_at hl 0 rfl) ?_
  obtain ⟨cC, hat⟩ := x_atJ4 hK
  refine x_clp (x_runSU hat (b := E.2.2.2.1) (As := []) (rest := []) S (c_J5_length_8abf5 l E K F G v n cnt s.heap ) mu_J5_length_8abf5 rfl (by decide) km_J4_343 rfl rfl ⟨Nat.le_of_ble_eq_true rfl, Nat.le_of_ble_eq_true rfl⟩ (rc_sb hK hT) hK (fun _ => XPbh.blind) (fun U hU hW => XPbh.at hK hz hS hT hU hW) rfl hl.1 (Nat.le_of_ble_eq_true rfl) dJ4_length_8abf5_1 ⟨Nat.le_of_ble_eq_true rfl, Nat.le_of_ble_eq_true rfl⟩) hS ?_
  rintro _ _ locs ⟨x1, rfl, t2⟩ hS
  have t2 : x1.toInt = cnt.toInt := t2
  exact x_ri hx hb hr hlk hQ (Nat.le_of_ble_eq_true rfl) (Nat.le_of_ble_eq_true rfl) hS dJ4_length_8abf5_4 () ⟨_, rfl, (t2)⟩ hh

abbrev rm_J4_charAt_5068e : Room := { frames := 3, cells := 0, slots := 0, locals := 67 }
set_option maxHeartbeats 4000000 in
set_option maxRecDepth 100000 in
theorem c_J4_charAt_5068e (l : Launch) (E : XE) (K : Nat → Nat) (F : Nat → Nat → Nat) (G : XG) (v n : Nat) (cnt : Int32) (h0 : Heap) (p0 : Int32) (e1 : 0 ≤ p0.toInt ∧ p0.toInt < cnt.toInt) : Met l yJ4_charAt_5068e (xw yJ4_charAt_5068e cJ4_charAt_5068e 2 (some .char)) rm_J4_charAt_5068e (va_Pc [.ref E.2.2.2.1, .int p0] (XPbh E K F G v n cnt h0)) (XQ E (fun v (u : Unit) => ∃ r : Int32, v = .int r ∧ xok 1 r) (fun _ H => H = h0)) 0 0 (xA E) := by
  refine x_enter (by decide) (Nat.le_of_ble_eq_true rfl) ?_
  intro p e s m args below meth c Q S hr hlk hnm hQ hP ls hl
  obtain ⟨⟨hz, hK, hT⟩, hh⟩ := hP
  obtain ⟨hx, hb, -, -, -⟩ := id S
  have hS : va_S (xA E) s.heap s.heap [] := va_S.rf
  have hl : lv_has ls 2 [(0, .ref E.2.2.2.1), (1, .int p0)] := hl
  have e9 := hT.inv
  refine lv_aload_n hx hb dJ4_charAt_5068e_0 rfl (lv_at hl 0 rfl) ?_
  refine lv_iload_n hx hb dJ4_charAt_5068e_1 rfl (lv_at hl 1 rfl) ?_
  obtain ⟨cC, hat⟩ := x_atJ4 hK
  refine x_clp (x_runSU hat (b := E.2.2.2.1) (As := [.int p0]) (rest := []) S (c_J5_charAt_5068e l E K F G v n cnt s.heap p0 (e1)) mu_J5_charAt_5068e rfl (by decide) km_J4_329 rfl rfl ⟨Nat.le_of_ble_eq_true rfl, Nat.le_of_ble_eq_true rfl⟩ (rc_sb hK hT) hK (fun _ => XPbh.blind) (fun U hU hW => XPbh.at hK hz hS hT hU hW) rfl hl.1 (Nat.le_of_ble_eq_true rfl) dJ4_charAt_5068e_2 ⟨Nat.le_of_ble_eq_true rfl, Nat.le_of_ble_eq_true rfl⟩) hS ?_
  rintro _ _ locs ⟨x1, rfl, o2⟩ hS
  exact x_rz hx hb hr o2 hlk hQ (Nat.le_of_ble_eq_true rfl) (Nat.le_of_ble_eq_true rfl) hS dJ4_charAt_5068e_5 () ⟨_, rfl, o2⟩ hh

