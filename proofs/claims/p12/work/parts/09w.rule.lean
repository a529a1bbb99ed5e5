theorem z_X7_isAmong_1 (a0 : Int) (a1 : Int) (h0 : a0 = 0) : ((a0 = 0 ∨ (a1 = 1 ∧ a0 = 1) ∨ (a1 = 0 ∧ a0 ≠ 1)) ∧ (1 : Int) = 1) ∨ ((¬ (a0 = 0 ∨ (a1 = 1 ∧ a0 = 1) ∨ (a1 = 0 ∧ a0 ≠ 1))) ∧ (1 : Int) = 0) := by omega
theorem z_X7_isAmong_2 (a0 : Int) (a1 : Int) (h0 : ¬ (a0 = 0)) (h1 : a0 ≠ (1 : Int)) (h2 : a1 ≠ (0 : Int)) : ((a0 = 0 ∨ (a1 = 1 ∧ a0 = 1) ∨ (a1 = 0 ∧ a0 ≠ 1)) ∧ (0 : Int) = 1) ∨ ((¬ (a0 = 0 ∨ (a1 = 1 ∧ a0 = 1) ∨ (a1 = 0 ∧ a0 ≠ 1))) ∧ (0 : Int) = 0) := by omega
theorem z_X7_isAmong_3 (a0 : Int) (a1 : Int) (h0 : a0 ≠ (1 : Int)) (h1 : ¬ (a1 ≠ (0 : Int))) : ((a0 = 0 ∨ (a1 = 1 ∧ a0 = 1) ∨ (a1 = 0 ∧ a0 ≠ 1)) ∧ (1 : Int) = 1) ∨ ((¬ (a0 = 0 ∨ (a1 = 1 ∧ a0 = 1) ∨ (a1 = 0 ∧ a0 ≠ 1))) ∧ (1 : Int) = 0) := by omega
theorem z_X7_isAmong_4 (a0 : Int) (a1 : Int) (h0 : ¬ (a0 ≠ (1 : Int))) (h1 : a1 ≠ (1 : Int)) : ((a0 = 0 ∨ (a1 = 1 ∧ a0 = 1) ∨ (a1 = 0 ∧ a0 ≠ 1)) ∧ (0 : Int) = 1) ∨ ((¬ (a0 = 0 ∨ (a1 = 1 ∧ a0 = 1) ∨ (a1 = 0 ∧ a0 ≠ 1))) ∧ (0 : Int) = 0) := by omega
theorem z_X7_isAmong_5 (a0 : Int) (a1 : Int) (h0 : ¬ (a0 ≠ (1 : Int))) (h1 : ¬ (a1 ≠ (1 : Int))) : ((a0 = 0 ∨ (a1 = 1 ∧ a0 = 1) ∨ (a1 = 0 ∧ a0 ≠ 1)) ∧ (1 : Int) = 1) ∨ ((¬ (a0 = 0 ∨ (a1 = 1 ∧ a0 = 1) ∨ (a1 = 0 ∧ a0 ≠ 1))) ∧ (1 : Int) = 0) := by omega
abbrev rm_X7_isAmong : Room := { frames := 0, cells := 0, slots := 0, locals := 0 }
set_option maxHeartbeats 4000000 in
set_option maxRecDepth 100000 in
theorem c_X7_isAmong (l : Launch) (E : XE) (K : Nat → Nat) (F : Nat → Nat → Nat) (G : XG) (h0 : Heap) (a : Nat) (p0 : Int32) (ha : K a = 9) : Met l yX7_isAmong (xw yX7_isAmong cX7_isAmong 2 (some .boolean)) rm_X7_isAmong (va_Pc [.ref a, .int p0] (XPh E K F G h0)) (XQ E (fun v (u : Unit) => ∃ r : Int32, v = .int r ∧ (r = 0 ∨ r = 1) ∧ (((p0.toInt = 0 ∨ (((G.1 a 9).toInt) = 1 ∧ p0.toInt = 1) ∨ (((G.1 a 9).toInt) = 0 ∧ p0.toInt ≠ 1)) ∧ r.toInt = 1) ∨ ((¬ (p0.toInt = 0 ∨ (((G.1 a 9).toInt) = 1 ∧ p0.toInt = 1) ∨ (((G.1 a 9).toInt) = 0 ∧ p0.toInt ≠ 1))) ∧ r.toInt = 0))) (fun _ H => H = h0)) 0 0 (xA E) := by
  refine x_enter (by decide) (Nat.le_of_ble_eq_true rfl) ?_
  intro p e s m args below meth c Q S hr hlk hnm hQ hP ls hl
  obtain ⟨⟨hz, hK, hT⟩, hh⟩ := hP
  obtain ⟨hx, hb, -, -, -⟩ := id S
  have hS : va_S (xA E) s.heap s.heap [] := va_S.rf
  have hl : lv_has ls 2 [(0, .ref a), (1, .int p0)] := hl
  refine lv_iload_n hx hb dX7_isAmong_0 rfl (lv_at hl 1 rfl) ?_
  refine xi_zeq (tgt := 21) hx hb (rfl : Int32.toInt p0 = p0.toInt) dX7_isAmong_1 (by decide) (fun c1 => ?_) (fun c1 => ?_)
  · refine lv_iconst (v := 1) hx hb dX7_isAmong_21 (by decide) ?_
    refine lv_goto (tgt := 26) hx hb dX7_isAmong_22 (by decide) ?_
    exact x_rz hx hb hr (xnz (Or.inr rfl)) hlk hQ (Nat.le_of_ble_eq_true rfl) (Nat.le_of_ble_eq_true rfl) hS dX7_isAmong_26 () ⟨_, rfl, (Or.inr rfl), (z_X7_isAmong_1 p0.toInt ((G.1 a 9).toInt) c1)⟩ hh
  · refine lv_aload_n hx hb dX7_isAmong_4 rfl (lv_at hl 0 rfl) ?_
    refine gX7_9 S hK hT ha kf_X7_24 dX7_isAmong_5 (v := (G.1 a 9)) rfl (fun hz5 => ?_)
    refine lv_iload_n hx hb dX7_isAmong_8 rfl (lv_at hl 1 rfl) ?_
    refine lv_iconst (v := 1) hx hb dX7_isAmong_9 (by decide) ?_
    refine xi_cne (tgt := 17) hx hb (rfl : Int32.toInt p0 = p0.toInt) ((by decide) : Int32.toInt 1 = (1 : Int)) dX7_isAmong_10 (by decide) (fun c10 => ?_) (fun c10 => ?_)
    · refine lv_iconst (v := 0) hx hb dX7_isAmong_17 (by decide) ?_
      refine xi_cne (tgt := 25) hx hb (rfl : Int32.toInt (G.1 a 9) = ((G.1 a 9).toInt)) ((by decide) : Int32.toInt 0 = (0 : Int)) dX7_isAmong_18 (by decide) (fun c18 => ?_) (fun c18 => ?_)
      · refine lv_iconst (v := 0) hx hb dX7_isAmong_25 (by decide) ?_
        exact x_rz hx hb hr (xnz (Or.inl rfl)) hlk hQ (Nat.le_of_ble_eq_true rfl) (Nat.le_of_ble_eq_true rfl) hS dX7_isAmong_26 () ⟨_, rfl, (Or.inl rfl), (z_X7_isAmong_2 p0.toInt ((G.1 a 9).toInt) c1 c10 c18)⟩ hh
      · refine lv_iconst (v := 1) hx hb dX7_isAmong_21 (by decide) ?_
        refine lv_goto (tgt := 26) hx hb dX7_isAmong_22 (by decide) ?_
        exact x_rz hx hb hr (xnz (Or.inr rfl)) hlk hQ (Nat.le_of_ble_eq_true rfl) (Nat.le_of_ble_eq_true rfl) hS dX7_isAmong_26 () ⟨_, rfl, (Or.inr rfl), (z_X7_isAmong_3 p0.toInt ((G.1 a 9).toInt) c10 c18)⟩ hh
    · refine lv_iconst (v := 1) hx hb dX7_isAmong_13 (by decide) ?_
      refine lv_goto (tgt := 18) hx hb dX7_isAmong_14 (by decide) ?_
      refine xi_cne (tgt := 25) hx hb (rfl : Int32.toInt (G.1 a 9) = ((G.1 a 9).toInt)) ((by decide) : Int32.toInt 1 = (1 : Int)) dX7_isAmong_18 (by decide) (fun c18 => ?_) (fun c18 => ?_)
      · refine lv_iconst (v := 0) hx hb dX7_isAmong_25 (by decide) ?_
        exact x_rz hx hb hr (xnz (Or.inl rfl)) hlk hQ (Nat.le_of_ble_eq_true rfl) (Nat.le_of_ble_eq_true rfl) hS dX7_isAmong_26 () ⟨_, rfl, (Or.inl rfl), (z_X7_isAmong_4 p0.toInt ((G.1 a 9).toInt) c10 c18)⟩ hh
      · refine lv_iconst (v := 1) hx hb dX7_isAmong_21 (by decide) ?_
        refine lv_goto (tgt := 26) hx hb dX7_isAmong_22 (by decide) ?_
        exact x_rz hx hb hr (xnz (Or.inr rfl)) hlk hQ (Nat.le_of_ble_eq_true rfl) (Nat.le_of_ble_eq_true rfl) hS dX7_isAmong_26 () ⟨_, rfl, (Or.inr rfl), (z_X7_isAmong_5 p0.toInt ((G.1 a 9).toInt) c10 c18)⟩ hh

theorem z_X7_isAboutKeys_1 (a0 : Int) (h0 : a0 = (2 : Int)) : ((a0 = 2 ∨ a0 = 4 ∨ a0 = 5) ∧ (1 : Int) = 1) ∨ (¬ (a0 = 2 ∨ a0 = 4 ∨ a0 = 5) ∧ (1 : Int) = 0) := by omega
theorem z_X7_isAboutKeys_2 (a0 : Int) (h0 : a0 = (4 : Int)) : ((a0 = 2 ∨ a0 = 4 ∨ a0 = 5) ∧ (1 : Int) = 1) ∨ (¬ (a0 = 2 ∨ a0 = 4 ∨ a0 = 5) ∧ (1 : Int) = 0) := by omega
theorem z_X7_isAboutKeys_3 (a0 : Int) (h0 : ¬ (a0 = (2 : Int))) (h1 : ¬ (a0 = (4 : Int))) (h2 : a0 ≠ (5 : Int)) : ((a0 = 2 ∨ a0 = 4 ∨ a0 = 5) ∧ (0 : Int) = 1) ∨ (¬ (a0 = 2 ∨ a0 = 4 ∨ a0 = 5) ∧ (0 : Int) = 0) := by omega
theorem z_X7_isAboutKeys_4 (a0 : Int) (h0 : ¬ (a0 ≠ (5 : Int))) : ((a0 = 2 ∨ a0 = 4 ∨ a0 = 5) ∧ (1 : Int) = 1) ∨ (¬ (a0 = 2 ∨ a0 = 4 ∨ a0 = 5) ∧ (1 : Int) = 0) := by omega
abbrev rm_X7_isAboutKeys : Room := { frames := 0, cells := 0, slots := 0, locals := 0 }
set_option maxHeartbeats 4000000 in
set_option maxRecDepth 100000 in
theorem c_X7_isAboutKeys (l : Launch) (E : XE) (K : Nat → Nat) (F : Nat → Nat → Nat) (G : XG) (h0 : Heap) (a : Nat) (ha : K a = 9) : Met l yX7_isAboutKeys (xw yX7_isAboutKeys cX7_isAboutKeys 1 (some .boolean)) rm_X7_isAboutKeys (va_Pc [.ref a] (XPh E K F G h0)) (XQ E (fun v (u : Unit) => ∃ r : Int32, v = .int r ∧ (r = 0 ∨ r = 1) ∧ (((((G.1 a 0).toInt) = 2 ∨ ((G.1 a 0).toInt) = 4 ∨ ((G.1 a 0).toInt) = 5) ∧ r.toInt = 1) ∨ (¬ (((G.1 a 0).toInt) = 2 ∨ ((G.1 a 0).toInt) = 4 ∨ ((G.1 a 0).toInt) = 5) ∧ r.toInt = 0))) (fun _ H => H = h0)) 0 0 (xA E) := by
  refine x_enter (by decide) (Nat.le_of_ble_eq_true rfl) ?_
  intro p e s m args below meth c Q S hr hlk hnm hQ hP ls hl
  obtain ⟨⟨hz, hK, hT⟩, hh⟩ := hP
  obtain ⟨hx, hb, -, -, -⟩ := id S
  have hS : va_S (xA E) s.heap s.heap [] := va_S.rf
  have hl : lv_has ls 1 [(0, .ref a)] := hl
  refine lv_aload_n hx hb dX7_isAboutKeys_0 rfl (lv_at hl 0 rfl) ?_
  refine gX7_0 S hK hT ha kf_X7_21 dX7_isAboutKeys_1 (v := (G.1 a 0)) rfl (?_)
  refine lv_iconst (v := 2) hx hb dX7_isAboutKeys_4 (by decide) ?_
  refine xi_ceq (tgt := 24) hx hb (rfl : Int32.toInt (G.1 a 0) = ((G.1 a 0).toInt)) ((by decide) : Int32.toInt 2 = (2 : Int)) dX7_isAboutKeys_5 (by decide) (fun c5 => ?_) (fun c5 => ?_)
  · refine lv_iconst (v := 1) hx hb dX7_isAboutKeys_24 (by decide) ?_
    refine lv_goto (tgt := 29) hx hb dX7_isAboutKeys_25 (by decide) ?_
    exact x_rz hx hb hr (xnz (Or.inr rfl)) hlk hQ (Nat.le_of_ble_eq_true rfl) (Nat.le_of_ble_eq_true rfl) hS dX7_isAboutKeys_29 () ⟨_, rfl, (Or.inr rfl), (z_X7_isAboutKeys_1 ((G.1 a 0).toInt) c5)⟩ hh
  · refine lv_aload_n hx hb dX7_isAboutKeys_8 rfl (lv_at hl 0 rfl) ?_
    refine gX7_0 S hK hT ha kf_X7_21 dX7_isAboutKeys_9 (v := (G.1 a 0)) rfl (?_)
    refine lv_iconst (v := 4) hx hb dX7_isAboutKeys_12 (by decide) ?_
    refine xi_ceq (tgt := 24) hx hb (rfl : Int32.toInt (G.1 a 0) = ((G.1 a 0).toInt)) ((by decide) : Int32.toInt 4 = (4 : Int)) dX7_isAboutKeys_13 (by decide) (fun c13 => ?_) (fun c13 => ?_)
    · refine lv_iconst (v := 1) hx hb dX7_isAboutKeys_24 (by decide) ?_
      refine lv_goto (tgt := 29) hx hb dX7_isAboutKeys_25 (by decide) ?_
      exact x_rz hx hb hr (xnz (Or.inr rfl)) hlk hQ (Nat.le_of_ble_eq_true rfl) (Nat.le_of_ble_eq_true rfl) hS dX7_isAboutKeys_29 () ⟨_, rfl, (Or.inr rfl), (z_X7_isAboutKeys_2 ((G.1 a 0).toInt) c13)⟩ hh
    · refine lv_aload_n hx hb dX7_isAboutKeys_16 rfl (lv_at hl 0 rfl) ?_
      refine gX7_0 S hK hT ha kf_X7_21 dX7_isAboutKeys_17 (v := (G.1 a 0)) rfl (?_)
      refine lv_iconst (v := 5) hx hb dX7_isAboutKeys_20 (by decide) ?_
      refine xi_cne (tgt := 28) hx hb (rfl : Int32.toInt (G.1 a 0) = ((G.1 a 0).toInt)) ((by decide) : Int32.toInt 5 = (5 : Int)) dX7_isAboutKeys_21 (by decide) (fun c21 => ?_) (fun c21 => ?_)
      · refine lv_iconst (v := 0) hx hb dX7_isAboutKeys_28 (by decide) ?_
        exact x_rz hx hb hr (xnz (Or.inl rfl)) hlk hQ (Nat.le_of_ble_eq_true rfl) (Nat.le_of_ble_eq_true rfl) hS dX7_isAboutKeys_29 () ⟨_, rfl, (Or.inl rfl), (z_X7_isAboutKeys_3 ((G.1 a 0).toInt) c5 c13 c21)⟩ hh
      · refine lv_iconst (v := 1) hx hb dX7_isAboutKeys_24 (by decide) ?_
        refine lv_goto (tgt := 29) hx hb dX7_isAboutKeys_25 (by decide) ?_
        exact x_rz hx hb hr (xnz (Or.inr rfl)) hlk hQ (Nat.le_of_ble_eq_true rfl) (Nat.le_of_ble_eq_true rfl) hS dX7_isAboutKeys_29 () ⟨_, rfl, (Or.inr rfl), (z_X7_isAboutKeys_4 ((G.1 a 0).toInt) c21)⟩ hh

theorem z_X7_looksAtKeys_1 (a0 : Int) (h0 : a0 = (1 : Int)) : ((a0 = 1 ∨ a0 = 4) ∧ (1 : Int) = 1) ∨ (¬ (a0 = 1 ∨ a0 = 4) ∧ (1 : Int) = 0) := by omega
theorem z_X7_looksAtKeys_2 (a0 : Int) (h0 : ¬ (a0 = (1 : Int))) (h1 : a0 ≠ (4 : Int)) : ((a0 = 1 ∨ a0 = 4) ∧ (0 : Int) = 1) ∨ (¬ (a0 = 1 ∨ a0 = 4) ∧ (0 : Int) = 0) := by omega
theorem z_X7_looksAtKeys_3 (a0 : Int) (h0 : ¬ (a0 ≠ (4 : Int))) : ((a0 = 1 ∨ a0 = 4) ∧ (1 : Int) = 1) ∨ (¬ (a0 = 1 ∨ a0 = 4) ∧ (1 : Int) = 0) := by omega
abbrev rm_X7_looksAtKeys : Room := { frames := 0, cells := 0, slots := 0, locals := 0 }
set_option maxHeartbeats 4000000 in
set_option maxRecDepth 100000 in
theorem c_X7_looksAtKeys (l : Launch) (E : XE) (K : Nat → Nat) (F : Nat → Nat → Nat) (G : XG) (h0 : Heap) (a : Nat) (ha : K a = 9) : Met l yX7_looksAtKeys (xw yX7_looksAtKeys cX7_looksAtKeys 1 (some .boolean)) rm_X7_looksAtKeys (va_Pc [.ref a] (XPh E K F G h0)) (XQ E (fun v (u : Unit) => ∃ r : Int32, v = .int r ∧ (r = 0 ∨ r = 1) ∧ (((((G.1 a 0).toInt) = 1 ∨ ((G.1 a 0).toInt) = 4) ∧ r.toInt = 1) ∨ (¬ (((G.1 a 0).toInt) = 1 ∨ ((G.1 a 0).toInt) = 4) ∧ r.toInt = 0))) (fun _ H => H = h0)) 0 0 (xA E) := by
  refine x_enter (by decide) (Nat.le_of_ble_eq_true rfl) ?_
  intro p e s m args below meth c Q S hr hlk hnm hQ hP ls hl
  obtain ⟨⟨hz, hK, hT⟩, hh⟩ := hP
  obtain ⟨hx, hb, -, -, -⟩ := id S
  have hS : va_S (xA E) s.heap s.heap [] := va_S.rf
  have hl : lv_has ls 1 [(0, .ref a)] := hl
  refine lv_aload_n hx hb dX7_looksAtKeys_0 rfl (lv_at hl 0 rfl) ?_
  refine gX7_0 S hK hT ha kf_X7_21 dX7_looksAtKeys_1 (v := (G.1 a 0)) rfl (?_)
  refine lv_iconst (v := 1) hx hb dX7_looksAtKeys_4 (by decide) ?_
  refine xi_ceq (tgt := 16) hx hb (rfl : Int32.toInt (G.1 a 0) = ((G.1 a 0).toInt)) ((by decide) : Int32.toInt 1 = (1 : Int)) dX7_looksAtKeys_5 (by decide) (fun c5 => ?_) (fun c5 => ?_)
  · refine lv_iconst (v := 1) hx hb dX7_looksAtKeys_16 (by decide) ?_
    refine lv_goto (tgt := 21) hx hb dX7_looksAtKeys_17 (by decide) ?_
    exact x_rz hx hb hr (xnz (Or.inr rfl)) hlk hQ (Nat.le_of_ble_eq_true rfl) (Nat.le_of_ble_eq_true rfl) hS dX7_looksAtKeys_21 () ⟨_, rfl, (Or.inr rfl), (z_X7_looksAtKeys_1 ((G.1 a 0).toInt) c5)⟩ hh
  · refine lv_aload_n hx hb dX7_looksAtKeys_8 rfl (lv_at hl 0 rfl) ?_
    refine gX7_0 S hK hT ha kf_X7_21 dX7_looksAtKeys_9 (v := (G.1 a 0)) rfl (?_)
    refine lv_iconst (v := 4) hx hb dX7_looksAtKeys_12 (by decide) ?_
    refine xi_cne (tgt := 20) hx hb (rfl : Int32.toInt (G.1 a 0) = ((G.1 a 0).toInt)) ((by decide) : Int32.toInt 4 = (4 : Int)) dX7_looksAtKeys_13 (by decide) (fun c13 => ?_) (fun c13 => ?_)
    · refine lv_iconst (v := 0) hx hb dX7_looksAtKeys_20 (by decide) ?_
      exact x_rz hx hb hr (xnz (Or.inl rfl)) hlk hQ (Nat.le_of_ble_eq_true rfl) (Nat.le_of_ble_eq_true rfl) hS dX7_looksAtKeys_21 () ⟨_, rfl, (Or.inl rfl), (z_X7_looksAtKeys_2 ((G.1 a 0).toInt) c5 c13)⟩ hh
    · refine lv_iconst (v := 1) hx hb dX7_looksAtKeys_16 (by decide) ?_
      refine lv_goto (tgt := 21) hx hb dX7_looksAtKeys_17 (by decide) ?_
      exact x_rz hx hb hr (xnz (Or.inr rfl)) hlk hQ (Nat.le_of_ble_eq_true rfl) (Nat.le_of_ble_eq_true rfl) hS dX7_looksAtKeys_21 () ⟨_, rfl, (Or.inr rfl), (z_X7_looksAtKeys_3 ((G.1 a 0).toInt) c13)⟩ hh

theorem z_X7_isSubject_1 (a0 : Int) (a1 : Int) (a2 : Int) (a3 : Int) (h0 : ((a3 = 2 ∨ a3 = 4 ∨ a3 = 5) ∧ a1 = 1) ∨ (¬ (a3 = 2 ∨ a3 = 4 ∨ a3 = 5) ∧ a1 = 0)) (h1 : a1 = 0) (h2 : (a2 = 1 ∧ (-99) ≤ a0 ∧ a0 < 100) ∨ (a2 = 0 ∧ (a0 < (-99) ∨ 100 ≤ a0))) : ((((a3 = 2 ∨ a3 = 4 ∨ a3 = 5) ∧ 0 ≤ a0 ∧ a0 < 30) ∨ (¬ (a3 = 2 ∨ a3 = 4 ∨ a3 = 5) ∧ -99 ≤ a0 ∧ a0 ≤ 99)) ∧ a2 = 1) ∨ (¬ (((a3 = 2 ∨ a3 = 4 ∨ a3 = 5) ∧ 0 ≤ a0 ∧ a0 < 30) ∨ (¬ (a3 = 2 ∨ a3 = 4 ∨ a3 = 5) ∧ -99 ≤ a0 ∧ a0 ≤ 99)) ∧ a2 = 0) := by omega
theorem z_X7_isSubject_2 (a0 : Int) (a1 : Int) (a2 : Int) (a3 : Int) (h0 : ((a3 = 2 ∨ a3 = 4 ∨ a3 = 5) ∧ a1 = 1) ∨ (¬ (a3 = 2 ∨ a3 = 4 ∨ a3 = 5) ∧ a1 = 0)) (h1 : ¬ (a1 = 0)) (h2 : (a2 = 1 ∧ 0 ≤ a0 ∧ a0 < 30) ∨ (a2 = 0 ∧ (a0 < 0 ∨ 30 ≤ a0))) : ((((a3 = 2 ∨ a3 = 4 ∨ a3 = 5) ∧ 0 ≤ a0 ∧ a0 < 30) ∨ (¬ (a3 = 2 ∨ a3 = 4 ∨ a3 = 5) ∧ -99 ≤ a0 ∧ a0 ≤ 99)) ∧ a2 = 1) ∨ (¬ (((a3 = 2 ∨ a3 = 4 ∨ a3 = 5) ∧ 0 ≤ a0 ∧ a0 < 30) ∨ (¬ (a3 = 2 ∨ a3 = 4 ∨ a3 = 5) ∧ -99 ≤ a0 ∧ a0 ≤ 99)) ∧ a2 = 0) := by omega
abbrev rm_X7_isSubject : Room := { frames := 1, cells := 0, slots := 0, locals := 20 }
set_option maxHeartbeats 4000000 in
set_option maxRecDepth 100000 in
theorem c_X7_isSubject (l : Launch) (E : XE) (K : Nat → Nat) (F : Nat → Nat → Nat) (G : XG) (h0 : Heap) (a : Nat) (p0 : Int32) (ha : K a = 9) : Met l yX7_isSubject (xw yX7_isSubject cX7_isSubject 2 (some .boolean)) rm_X7_isSubject (va_Pc [.ref a, .int p0] (XPh E K F G h0)) (XQ E (fun v (u : Unit) => ∃ r : Int32, v = .int r ∧ (r = 0 ∨ r = 1) ∧ (((((((G.1 a 0).toInt) = 2 ∨ ((G.1 a 0).toInt) = 4 ∨ ((G.1 a 0).toInt) = 5) ∧ 0 ≤ p0.toInt ∧ p0.toInt < 30) ∨ (¬ (((G.1 a 0).toInt) = 2 ∨ ((G.1 a 0).toInt) = 4 ∨ ((G.1 a 0).toInt) = 5) ∧ -99 ≤ p0.toInt ∧ p0.toInt ≤ 99)) ∧ r.toInt = 1) ∨ (¬ (((((G.1 a 0).toInt) = 2 ∨ ((G.1 a 0).toInt) = 4 ∨ ((G.1 a 0).toInt) = 5) ∧ 0 ≤ p0.toInt ∧ p0.toInt < 30) ∨ (¬ (((G.1 a 0).toInt) = 2 ∨ ((G.1 a 0).toInt) = 4 ∨ ((G.1 a 0).toInt) = 5) ∧ -99 ≤ p0.toInt ∧ p0.toInt ≤ 99)) ∧ r.toInt = 0))) (fun _ H => H = h0)) 0 0 (xA E) := by
  refine x_enter (by decide) (Nat.le_of_ble_eq_true rfl) ?_
  intro p e s m args below meth c Q S hr hlk hnm hQ hP ls hl
  obtain ⟨⟨hz, hK, hT⟩, hh⟩ := hP
  obtain ⟨hx, hb, -, -, -⟩ := id S
  have hS : va_S (xA E) s.heap s.heap [] := va_S.rf
  have hl : lv_has ls 2 [(0, .ref a), (1, .int p0)] := hl
  refine lv_aload_n hx hb dX7_isSubject_0 rfl (lv_at hl 0 rfl) ?_
  refine x_clp (x_runV (b := a) (As := []) (rest := []) S (c_X7_isAboutKeys l E K F G s.heap a ha) mv_X7_isAboutKeys km_X7_28 rfl rfl ⟨Nat.le_of_ble_eq_true rfl, Nat.le_of_ble_eq_true rfl⟩ (rc_9 hK hT ha) hK (fun _ => XPh.blind) (fun U hU hW => XPh.at hK hz hS hT hU hW) rfl hl.1 (Nat.le_of_ble_eq_true rfl) dX7_isSubject_1 ⟨Nat.le_of_ble_eq_true rfl, Nat.le_of_ble_eq_true rfl⟩) hS ?_
  rintro _ _ locs ⟨x1, rfl, b1, t1⟩ hS
  have t1 : ((((G.1 a 0).toInt) = 2 ∨ ((G.1 a 0).toInt) = 4 ∨ ((G.1 a 0).toInt) = 5) ∧ x1.toInt = 1) ∨ (¬ (((G.1 a 0).toInt) = 2 ∨ ((G.1 a 0).toInt) = 4 ∨ ((G.1 a 0).toInt) = 5) ∧ x1.toInt = 0) := t1
  refine xi_zeq (tgt := 14) hx hb (rfl : Int32.toInt x1 = x1.toInt) dX7_isSubject_4 (by decide) (fun c4 => ?_) (fun c4 => ?_)
  · refine lv_iload_n hx hb dX7_isSubject_14 rfl (lv_at hl 1 rfl) ?_
    refine x_clp (x_runSN (As := [.int p0]) (rest := []) S (c_X10_isSubjectValue l E K F G s.heap p0) ms_X10_isSubjectValue (by decide +kernel) rfl rfl ⟨Nat.le_of_ble_eq_true rfl, Nat.le_of_ble_eq_true rfl⟩ hK (fun _ => XPh.blind) (fun U hU hW => XPh.at hK hz hS hT hU hW) rfl hl.1 (Nat.le_of_ble_eq_true rfl) dX7_isSubject_15 ⟨Nat.le_of_ble_eq_true rfl, Nat.le_of_ble_eq_true rfl⟩) hS ?_
    rintro _ _ locs ⟨x15, rfl, b15, t15⟩ hS
    have t15 : (x15.toInt = 1 ∧ (-99) ≤ p0.toInt ∧ p0.toInt < 100) ∨ (x15.toInt = 0 ∧ (p0.toInt < (-99) ∨ 100 ≤ p0.toInt)) := t15
    exact x_rz hx hb hr (xnz b15) hlk hQ (Nat.le_of_ble_eq_true rfl) (Nat.le_of_ble_eq_true rfl) hS dX7_isSubject_18 () ⟨_, rfl, b15, (z_X7_isSubject_1 p0.toInt x1.toInt x15.toInt ((G.1 a 0).toInt) t1 c4 t15)⟩ hh
  · refine lv_iload_n hx hb dX7_isSubject_7 rfl (lv_at hl 1 rfl) ?_
    refine x_clp (x_runSN (As := [.int p0]) (rest := []) S (c_X10_isKey l E K F G s.heap p0) ms_X10_isKey (by decide +kernel) rfl rfl ⟨Nat.le_of_ble_eq_true rfl, Nat.le_of_ble_eq_true rfl⟩ hK (fun _ => XPh.blind) (fun U hU hW => XPh.at hK hz hS hT hU hW) rfl hl.1 (Nat.le_of_ble_eq_true rfl) dX7_isSubject_8 ⟨Nat.le_of_ble_eq_true rfl, Nat.le_of_ble_eq_true rfl⟩) hS ?_
    rintro _ _ locs ⟨x8, rfl, b8, t8⟩ hS
    have t8 : (x8.toInt = 1 ∧ 0 ≤ p0.toInt ∧ p0.toInt < 30) ∨ (x8.toInt = 0 ∧ (p0.toInt < 0 ∨ 30 ≤ p0.toInt)) := t8
    refine lv_goto (tgt := 18) hx hb dX7_isSubject_11 (by decide) ?_
    exact x_rz hx hb hr (xnz b8) hlk hQ (Nat.le_of_ble_eq_true rfl) (Nat.le_of_ble_eq_true rfl) hS dX7_isSubject_18 () ⟨_, rfl, b8, (z_X7_isSubject_2 p0.toInt x1.toInt x8.toInt ((G.1 a 0).toInt) t1 c4 t8)⟩ hh

theorem z_X7_follows_1 (a0 : Int) (a1 : Int) (a2 : Int) (a3 : Int) (h0 : a1 ≠ (1 : Int)) : ((a1 = 1 ∧ a2 = a0 ∧ a3 ≠ 0) ∧ (0 : Int) = 1) ∨ (¬ (a1 = 1 ∧ a2 = a0 ∧ a3 ≠ 0) ∧ (0 : Int) = 0) := by omega
theorem z_X7_follows_2 (a0 : Int) (a1 : Int) (a2 : Int) (a3 : Int) (h0 : a2 ≠ a0) : ((a1 = 1 ∧ a2 = a0 ∧ a3 ≠ 0) ∧ (0 : Int) = 1) ∨ (¬ (a1 = 1 ∧ a2 = a0 ∧ a3 ≠ 0) ∧ (0 : Int) = 0) := by omega
theorem z_X7_follows_3 (a0 : Int) (a1 : Int) (a2 : Int) (a3 : Int) (h0 : a3 = 0) : ((a1 = 1 ∧ a2 = a0 ∧ a3 ≠ 0) ∧ (0 : Int) = 1) ∨ (¬ (a1 = 1 ∧ a2 = a0 ∧ a3 ≠ 0) ∧ (0 : Int) = 0) := by omega
theorem z_X7_follows_4 (a0 : Int) (a1 : Int) (a2 : Int) (a3 : Int) (h0 : ¬ (a1 ≠ (1 : Int))) (h1 : ¬ (a2 ≠ a0)) (h2 : ¬ (a3 = 0)) : ((a1 = 1 ∧ a2 = a0 ∧ a3 ≠ 0) ∧ (1 : Int) = 1) ∨ (¬ (a1 = 1 ∧ a2 = a0 ∧ a3 ≠ 0) ∧ (1 : Int) = 0) := by omega
abbrev rm_X7_follows : Room := { frames := 0, cells := 0, slots := 0, locals := 0 }
set_option maxHeartbeats 4000000 in
set_option maxRecDepth 100000 in
theorem c_X7_follows (l : Launch) (E : XE) (K : Nat → Nat) (F : Nat → Nat → Nat) (G : XG) (h0 : Heap) (a : Nat) (p0 : Int32) (ha : K a = 9) : Met l yX7_follows (xw yX7_follows cX7_follows 2 (some .boolean)) rm_X7_follows (va_Pc [.ref a, .int p0] (XPh E K F G h0)) (XQ E (fun v (u : Unit) => ∃ r : Int32, v = .int r ∧ (r = 0 ∨ r = 1) ∧ (((((G.1 a 0).toInt) = 1 ∧ ((G.1 a 4).toInt) = p0.toInt ∧ ((G.1 a 7).toInt) ≠ 0) ∧ r.toInt = 1) ∨ (¬ (((G.1 a 0).toInt) = 1 ∧ ((G.1 a 4).toInt) = p0.toInt ∧ ((G.1 a 7).toInt) ≠ 0) ∧ r.toInt = 0))) (fun _ H => H = h0)) 0 0 (xA E) := by
  refine x_enter (by decide) (Nat.le_of_ble_eq_true rfl) ?_
  intro p e s m args below meth c Q S hr hlk hnm hQ hP ls hl
  obtain ⟨⟨hz, hK, hT⟩, hh⟩ := hP
  obtain ⟨hx, hb, -, -, -⟩ := id S
  have hS : va_S (xA E) s.heap s.heap [] := va_S.rf
  have hl : lv_has ls 2 [(0, .ref a), (1, .int p0)] := hl
  refine lv_aload_n hx hb dX7_follows_0 rfl (lv_at hl 0 rfl) ?_
  refine gX7_0 S hK hT ha kf_X7_21 dX7_follows_1 (v := (G.1 a 0)) rfl (?_)
  refine lv_iconst (v := 1) hx hb dX7_follows_4 (by decide) ?_
  refine xi_cne (tgt := 27) hx hb (rfl : Int32.toInt (G.1 a 0) = ((G.1 a 0).toInt)) ((by decide) : Int32.toInt 1 = (1 : Int)) dX7_follows_5 (by decide) (fun c5 => ?_) (fun c5 => ?_)
  · refine lv_iconst (v := 0) hx hb dX7_follows_27 (by decide) ?_
    exact x_rz hx hb hr (xnz (Or.inl rfl)) hlk hQ (Nat.le_of_ble_eq_true rfl) (Nat.le_of_ble_eq_true rfl) hS dX7_follows_28 () ⟨_, rfl, (Or.inl rfl), (z_X7_follows_1 p0.toInt ((G.1 a 0).toInt) ((G.1 a 4).toInt) ((G.1 a 7).toInt) c5)⟩ hh
  · refine lv_aload_n hx hb dX7_follows_8 rfl (lv_at hl 0 rfl) ?_
    refine gX7_4 S hK hT ha kf_X7_15 dX7_follows_9 (v := (G.1 a 4)) rfl (?_)
    refine lv_iload_n hx hb dX7_follows_12 rfl (lv_at hl 1 rfl) ?_
    refine xi_cne (tgt := 27) hx hb (rfl : Int32.toInt (G.1 a 4) = ((G.1 a 4).toInt)) (rfl : Int32.toInt p0 = p0.toInt) dX7_follows_13 (by decide) (fun c13 => ?_) (fun c13 => ?_)
    · refine lv_iconst (v := 0) hx hb dX7_follows_27 (by decide) ?_
      exact x_rz hx hb hr (xnz (Or.inl rfl)) hlk hQ (Nat.le_of_ble_eq_true rfl) (Nat.le_of_ble_eq_true rfl) hS dX7_follows_28 () ⟨_, rfl, (Or.inl rfl), (z_X7_follows_2 p0.toInt ((G.1 a 0).toInt) ((G.1 a 4).toInt) ((G.1 a 7).toInt) c13)⟩ hh
    · refine lv_aload_n hx hb dX7_follows_16 rfl (lv_at hl 0 rfl) ?_
      refine gX7_7 S hK hT ha kf_X7_18 dX7_follows_17 (v := (G.1 a 7)) rfl (?_)
      refine xi_zeq (tgt := 27) hx hb (rfl : Int32.toInt (G.1 a 7) = ((G.1 a 7).toInt)) dX7_follows_20 (by decide) (fun c20 => ?_) (fun c20 => ?_)
      · refine lv_iconst (v := 0) hx hb dX7_follows_27 (by decide) ?_
        exact x_rz hx hb hr (xnz (Or.inl rfl)) hlk hQ (Nat.le_of_ble_eq_true rfl) (Nat.le_of_ble_eq_true rfl) hS dX7_follows_28 () ⟨_, rfl, (Or.inl rfl), (z_X7_follows_3 p0.toInt ((G.1 a 0).toInt) ((G.1 a 4).toInt) ((G.1 a 7).toInt) c20)⟩ hh
      · refine lv_iconst (v := 1) hx hb dX7_follows_23 (by decide) ?_
        refine lv_goto (tgt := 28) hx hb dX7_follows_24 (by decide) ?_
        exact x_rz hx hb hr (xnz (Or.inr rfl)) hlk hQ (Nat.le_of_ble_eq_true rfl) (Nat.le_of_ble_eq_true rfl) hS dX7_follows_28 () ⟨_, rfl, (Or.inr rfl), (z_X7_follows_4 p0.toInt ((G.1 a 0).toInt) ((G.1 a 4).toInt) ((G.1 a 7).toInt) c5 c13 c20)⟩ hh

theorem z_X7_isOutside_1 (a0 : Int) (a1 : Int) (a2 : Int) (h0 : a0 < a1) : ((a0 < a1 ∨ a2 < a0) ∧ (1 : Int) = 1) ∨ (¬ (a0 < a1 ∨ a2 < a0) ∧ (1 : Int) = 0) := by omega
theorem z_X7_isOutside_2 (a0 : Int) (a1 : Int) (a2 : Int) (h0 : ¬ (a0 < a1)) (h1 : a0 ≤ a2) : ((a0 < a1 ∨ a2 < a0) ∧ (0 : Int) = 1) ∨ (¬ (a0 < a1 ∨ a2 < a0) ∧ (0 : Int) = 0) := by omega
theorem z_X7_isOutside_3 (a0 : Int) (a1 : Int) (a2 : Int) (h0 : ¬ (a0 ≤ a2)) : ((a0 < a1 ∨ a2 < a0) ∧ (1 : Int) = 1) ∨ (¬ (a0 < a1 ∨ a2 < a0) ∧ (1 : Int) = 0) := by omega
abbrev rm_X7_isOutside : Room := { frames := 0, cells := 0, slots := 0, locals := 0 }
set_option maxHeartbeats 4000000 in
set_option maxRecDepth 100000 in
theorem c_X7_isOutside (l : Launch) (E : XE) (K : Nat → Nat) (F : Nat → Nat → Nat) (G : XG) (h0 : Heap) (a : Nat) (p0 : Int32) (ha : K a = 9) : Met l yX7_isOutside (xw yX7_isOutside cX7_isOutside 2 (some .boolean)) rm_X7_isOutside (va_Pc [.ref a, .int p0] (XPh E K F G h0)) (XQ E (fun v (u : Unit) => ∃ r : Int32, v = .int r ∧ (r = 0 ∨ r = 1) ∧ (((p0.toInt < ((G.1 a 5).toInt) ∨ ((G.1 a 6).toInt) < p0.toInt) ∧ r.toInt = 1) ∨ (¬ (p0.toInt < ((G.1 a 5).toInt) ∨ ((G.1 a 6).toInt) < p0.toInt) ∧ r.toInt = 0))) (fun _ H => H = h0)) 0 0 (xA E) := by
  refine x_enter (by decide) (Nat.le_of_ble_eq_true rfl) ?_
  intro p e s m args below meth c Q S hr hlk hnm hQ hP ls hl
  obtain ⟨⟨hz, hK, hT⟩, hh⟩ := hP
  obtain ⟨hx, hb, -, -, -⟩ := id S
  have hS : va_S (xA E) s.heap s.heap [] := va_S.rf
  have hl : lv_has ls 2 [(0, .ref a), (1, .int p0)] := hl
  refine lv_iload_n hx hb dX7_isOutside_0 rfl (lv_at hl 1 rfl) ?_
  refine lv_aload_n hx hb dX7_isOutside_1 rfl (lv_at hl 0 rfl) ?_
  refine gX7_5 S hK hT ha kf_X7_70 dX7_isOutside_2 (v := (G.1 a 5)) rfl (?_)
  refine xi_clt (tgt := 16) hx hb (rfl : Int32.toInt p0 = p0.toInt) (rfl : Int32.toInt (G.1 a 5) = ((G.1 a 5).toInt)) dX7_isOutside_5 (by decide) (fun c5 => ?_) (fun c5 => ?_)
  · refine lv_iconst (v := 1) hx hb dX7_isOutside_16 (by decide) ?_
    refine lv_goto (tgt := 21) hx hb dX7_isOutside_17 (by decide) ?_
    exact x_rz hx hb hr (xnz (Or.inr rfl)) hlk hQ (Nat.le_of_ble_eq_true rfl) (Nat.le_of_ble_eq_true rfl) hS dX7_isOutside_21 () ⟨_, rfl, (Or.inr rfl), (z_X7_isOutside_1 p0.toInt ((G.1 a 5).toInt) ((G.1 a 6).toInt) c5)⟩ hh
  · refine lv_iload_n hx hb dX7_isOutside_8 rfl (lv_at hl 1 rfl) ?_
    refine lv_aload_n hx hb dX7_isOutside_9 rfl (lv_at hl 0 rfl) ?_
    refine gX7_6 S hK hT ha kf_X7_73 dX7_isOutside_10 (v := (G.1 a 6)) rfl (?_)
    refine xi_cle (tgt := 20) hx hb (rfl : Int32.toInt p0 = p0.toInt) (rfl : Int32.toInt (G.1 a 6) = ((G.1 a 6).toInt)) dX7_isOutside_13 (by decide) (fun c13 => ?_) (fun c13 => ?_)
    · refine lv_iconst (v := 0) hx hb dX7_isOutside_20 (by decide) ?_
      exact x_rz hx hb hr (xnz (Or.inl rfl)) hlk hQ (Nat.le_of_ble_eq_true rfl) (Nat.le_of_ble_eq_true rfl) hS dX7_isOutside_21 () ⟨_, rfl, (Or.inl rfl), (z_X7_isOutside_2 p0.toInt ((G.1 a 5).toInt) ((G.1 a 6).toInt) c5 c13)⟩ hh
    · refine lv_iconst (v := 1) hx hb dX7_isOutside_16 (by decide) ?_
      refine lv_goto (tgt := 21) hx hb dX7_isOutside_17 (by decide) ?_
      exact x_rz hx hb hr (xnz (Or.inr rfl)) hlk hQ (Nat.le_of_ble_eq_true rfl) (Nat.le_of_ble_eq_true rfl) hS dX7_isOutside_21 () ⟨_, rfl, (Or.inr rfl), (z_X7_isOutside_3 p0.toInt ((G.1 a 5).toInt) ((G.1 a 6).toInt) c13)⟩ hh

theorem z_X7_isOnRing_1 (a0 : Int) (h0 : 0 ≤ a0 ∧ a0 ≤ 30) : ¬ (2147483648 - a0 < ((0 : Nat) : Int)) := by omega
theorem z_X7_isOnRing_2 (a0 : Int) (a1 : Int) (a2 : Int) (h0 : a1 = a2) (h1 : (30 : Int) ≤ a0) (h2 : 30 ≤ a0 → a1 = 0) : (0 : Int) = a2 := by omega
theorem z_X7_isOnRing_3 (a0 : Int) (h0 : ¬ ((30 : Int) ≤ a0)) : 0 < 30 - a0 := by omega
theorem z_X7_isOnRing_4 (a0 : Int) (a1 : Int) (a2 : Int) (a3 : Int) (h0 : a2 = a3) (h1 : a1 = -2000 → a2 = 0) (h2 : (a0 = 1 ∧ a1 ≠ -2000) ∨ (a0 = 0 ∧ a1 = -2000)) (h3 : a0 = 0) : (0 : Int) = a3 := by omega
theorem z_X7_isOnRing_5 (a0 : Int) (a1 : Int) (h0 : 0 ≤ a0 ∧ a0 ≤ 30) (h1 : a1 = (a0 + 1) ∨ (a0 + 1) < -2147483648 ∨ 2147483648 ≤ (a0 + 1)) : a1 = (a0 + 1) := by omega
theorem z_X7_isOnRing_6 (a0 : Int) (h0 : 0 ≤ a0 ∧ a0 ≤ 30) (h1 : ¬ ((30 : Int) ≤ a0)) : 0 ≤ (a0 + 1) ∧ (a0 + 1) ≤ 30 := by omega
theorem z_X7_isOnRing_7 (a0 : Int) (a1 : Int) (a2 : Int) (a3 : Int) (a4 : Int) (a5 : Int) (a6 : Int) (a7 : Int) (h0 : a6 = a7) (h1 : a3 ≠ -2000 → a0 ≠ a1 → a6 = a5) (h2 : (a2 = 1 ∧ a3 ≠ -2000) ∨ (a2 = 0 ∧ a3 = -2000)) (h3 : ¬ (a2 = 0)) (h4 : a0 ≠ a1) (h5 : a4 = a5) : a4 = a7 := by omega
theorem z_X7_isOnRing_8 (a0 : Int) (h0 : 0 ≤ a0 ∧ a0 ≤ 30) : (0 : Int) ≤ (a0 + 1) := by omega
theorem z_X7_isOnRing_9 (a0 : Int) (a1 : Nat) (h0 : 2147483648 - a0 < ((a1 + 1 : Nat) : Int)) : 2147483648 - (a0 + 1) < ((a1 : Nat) : Int) := by omega
theorem z_X7_isOnRing_10 (a0 : Int) (a1 : Int) (a2 : Int) (a3 : Int) (a4 : Int) (a5 : Int) (h0 : a4 = a5) (h1 : a3 ≠ -2000 → a0 = a1 → a4 = 1) (h2 : (a2 = 1 ∧ a3 ≠ -2000) ∨ (a2 = 0 ∧ a3 = -2000)) (h3 : ¬ (a2 = 0)) (h4 : ¬ (a0 ≠ a1)) : (1 : Int) = a5 := by omega
abbrev rm_X7_isOnRing : Room := { frames := 2, cells := 0, slots := 0, locals := 44 }
set_option maxHeartbeats 4000000 in
set_option maxRecDepth 100000 in
theorem c_X7_isOnRing (l : Launch) (E : XE) (K : Nat → Nat) (F : Nat → Nat → Nat) (G : XG) (h0 : Heap) (a : Nat) (p0 : Nat) (p1 : Int32) (ha : K a = 9) (hp0 : K p0 = 8) (hro : RO (vw (G.2.1 (F p0 0))) (aI (G.2.1 (F p0 1)))) : Met l yX7_isOnRing (xw yX7_isOnRing cX7_isOnRing 5 (some .boolean)) rm_X7_isOnRing (va_Pc [.ref a, .ref p0, .int p1] (XPh E K F G h0)) (XQ E (fun v (u : Unit) => ∃ r : Int32, v = .int r ∧ (r = 0 ∨ r = 1) ∧ (r.toInt = (rgq (vw (G.2.1 (F p0 0))) ((G.1 a 2).toInt) ((G.1 a 3).toInt) (p1.toInt) 30 (cel (vw (G.2.1 (F p0 0))) ((G.1 a 2).toInt) (p1.toInt) ((G.1 a 3).toInt))))) (fun _ H => H = h0)) 0 0 (xA E) := by
  refine x_enter (by decide) (Nat.le_of_ble_eq_true rfl) ?_
  intro p e s m args below meth c Q S hr hlk hnm hQ hP ls hl
  obtain ⟨⟨hz, hK, hT⟩, hh⟩ := hP
  obtain ⟨hx, hb, -, -, -⟩ := id S
  have hS : va_S (xA E) s.heap s.heap [] := va_S.rf
  have hl : lv_has ls 5 [(0, .ref a), (1, .ref p0), (2, .int p1)] := hl
  obtain ⟨hk9999, hj9999⟩ := fkX6_0 hT hp0
  obtain ⟨hk9999a, hj9999a⟩ := fkX6_1 hT hp0
  refine lv_aload_n hx hb dX7_isOnRing_0 rfl (lv_at hl 1 rfl) ?_
  refine lv_aload_n hx hb dX7_isOnRing_1 rfl (lv_at hl 0 rfl) ?_
  refine gX7_2 S hK hT ha kf_X7_39 dX7_isOnRing_2 (v := (G.1 a 2)) rfl (?_)
  refine lv_iload_n hx hb dX7_isOnRing_5 rfl (lv_at hl 2 rfl) ?_
  refine lv_aload_n hx hb dX7_isOnRing_6 rfl (lv_at hl 0 rfl) ?_
  refine gX7_3 S hK hT ha kf_X7_42 dX7_isOnRing_7 (v := (G.1 a 3)) rfl (?_)
  refine x_clp (x_runV (b := p0) (As := [.int (G.1 a 2), .int p1, .int (G.1 a 3)]) (rest := []) S (c_X6_cell l E K F G s.heap p0 (G.1 a 2) p1 (G.1 a 3) hp0) mv_X6_cell km_X7_59 rfl rfl ⟨Nat.le_of_ble_eq_true rfl, Nat.le_of_ble_eq_true rfl⟩ (rc_8 hK hT hp0) hK (fun _ => XPh.blind) (fun U hU hW => XPh.at hK hz hS hT hU hW) rfl hl.1 (Nat.le_of_ble_eq_true rfl) dX7_isOnRing_10 ⟨Nat.le_of_ble_eq_true rfl, Nat.le_of_ble_eq_true rfl⟩) hS ?_
  rintro _ _ locs ⟨x10, rfl, t10⟩ hS
  have t10 : x10.toInt = (cel (vw (G.2.1 (F p0 0))) ((G.1 a 2).toInt) (p1.toInt) ((G.1 a 3).toInt)) := t10
  refine lv_istore_n (lv' := [(3, .int x10), (0, .ref a), (1, .ref p0), (2, .int p1)]) hx hb dX7_isOnRing_13 rfl hl (by decide) rfl (fun ls hl => ?_)
  refine lv_iconst (v := 0) hx hb dX7_isOnRing_14 (by decide) ?_
  have z15 : (rgq (vw (G.2.1 (F p0 0))) ((G.1 a 2).toInt) ((G.1 a 3).toInt) (p1.toInt) (30 - 0) (cel (vw (G.2.1 (F p0 0))) ((G.1 a 2).toInt) (p1.toInt) ((G.1 a 3).toInt))) = (rgq (vw (G.2.1 (F p0 0))) ((G.1 a 2).toInt) ((G.1 a 3).toInt) (p1.toInt) 30 (cel (vw (G.2.1 (F p0 0))) ((G.1 a 2).toInt) (p1.toInt) ((G.1 a 3).toInt))) := by rw [show (30 - 0 : Int) = 30 from by decide]
  refine lv_istore (lv' := [(4, .int 0), (3, .int x10), (0, .ref a), (1, .ref p0), (2, .int p1)]) hx hb dX7_isOnRing_15 hl (by decide) rfl (fun ls hl => ?_)
  have L17 : ∀ (N17 : Nat) (l3_17 : Int32) (l4_17 : Int32) (locs : List Loc) (ls : Array Slot), 0 ≤ l4_17.toInt ∧ l4_17.toInt ≤ 30 → (rgq (vw (G.2.1 (F p0 0))) ((G.1 a 2).toInt) ((G.1 a 3).toInt) (p1.toInt) (30 - l4_17.toInt) (l3_17.toInt)) = (rgq (vw (G.2.1 (F p0 0))) ((G.1 a 2).toInt) ((G.1 a 3).toInt) (p1.toInt) 30 (cel (vw (G.2.1 (F p0 0))) ((G.1 a 2).toInt) (p1.toInt) ((G.1 a 3).toInt))) → (0 : Int) ≤ l4_17.toInt → 2147483648 - l4_17.toInt < ((N17 : Nat) : Int) → TW E K F G s.heap → va_S (xA E) s.heap s.heap locs → lv_has ls 5 [(0, .ref a), (1, .ref p0), (2, .int p1), (3, .int l3_17), (4, .int l4_17)] → W p l e rm_X7_isOnRing s m args below meth c s.heap locs 0 0 Q (F0 m 17 ls []) := by
    intro N17
    induction N17 with
    | zero =>
      intro l3_17 l4_17 locs ls I17_0 I17_1 I17_2 hm17
      exact absurd hm17 (z_X7_isOnRing_1 l4_17.toInt I17_0)
    | succ N17 ih17 =>
      intro l3_17 l4_17 locs ls I17_0 I17_1 I17_2 hm17 hT hS hl
      refine lv_iload hx hb dX7_isOnRing_17 (lv_at hl 4 rfl) ?_
      refine lv_bipush (v := 30) hx hb dX7_isOnRing_19 (by decide) ?_
      refine xi_cge (tgt := 63) hx hb (rfl : Int32.toInt l4_17 = l4_17.toInt) ((by decide) : Int32.toInt 30 = (30 : Int)) dX7_isOnRing_21 (by decide) (fun c21 => ?_) (fun c21 => ?_)
      · have z63 : 30 ≤ l4_17.toInt → (rgq (vw (G.2.1 (F p0 0))) ((G.1 a 2).toInt) ((G.1 a 3).toInt) (p1.toInt) (30 - l4_17.toInt) (l3_17.toInt)) = 0 := fun h9 => by rw [show 30 - l4_17.toInt = (0 : Int) from by omega]; exact rgq_0 _ _ _ _ _
        refine lv_iconst (v := 0) hx hb dX7_isOnRing_63 (by decide) ?_
        exact x_rz hx hb hr (xnz (Or.inl rfl)) hlk hQ (Nat.le_of_ble_eq_true rfl) (Nat.le_of_ble_eq_true rfl) hS dX7_isOnRing_64 () ⟨_, rfl, (Or.inl rfl), (z_X7_isOnRing_2 l4_17.toInt (rgq (vw (G.2.1 (F p0 0))) ((G.1 a 2).toInt) ((G.1 a 3).toInt) (p1.toInt) (30 - l4_17.toInt) (l3_17.toInt)) (rgq (vw (G.2.1 (F p0 0))) ((G.1 a 2).toInt) ((G.1 a 3).toInt) (p1.toInt) 30 (cel (vw (G.2.1 (F p0 0))) ((G.1 a 2).toInt) (p1.toInt) ((G.1 a 3).toInt))) I17_1 c21 z63)⟩ hh
      · have z24 : ((cel (vw (G.2.1 (F p0 0))) ((G.1 a 2).toInt) (l3_17.toInt) 0) = -2000 → (rgq (vw (G.2.1 (F p0 0))) ((G.1 a 2).toInt) ((G.1 a 3).toInt) (p1.toInt) (30 - l4_17.toInt) (l3_17.toInt)) = 0) ∧ ((cel (vw (G.2.1 (F p0 0))) ((G.1 a 2).toInt) (l3_17.toInt) 0) ≠ -2000 → l3_17.toInt = p1.toInt → (rgq (vw (G.2.1 (F p0 0))) ((G.1 a 2).toInt) ((G.1 a 3).toInt) (p1.toInt) (30 - l4_17.toInt) (l3_17.toInt)) = 1) ∧ ((cel (vw (G.2.1 (F p0 0))) ((G.1 a 2).toInt) (l3_17.toInt) 0) ≠ -2000 → l3_17.toInt ≠ p1.toInt → (rgq (vw (G.2.1 (F p0 0))) ((G.1 a 2).toInt) ((G.1 a 3).toInt) (p1.toInt) (30 - l4_17.toInt) (l3_17.toInt)) = (rgq (vw (G.2.1 (F p0 0))) ((G.1 a 2).toInt) ((G.1 a 3).toInt) (p1.toInt) (30 - l4_17.toInt - 1) (cel (vw (G.2.1 (F p0 0))) ((G.1 a 2).toInt) (l3_17.toInt) ((G.1 a 3).toInt)))) := rgq_f _ _ _ _ _ (z_X7_isOnRing_3 l4_17.toInt c21)
        refine lv_aload_n hx hb dX7_isOnRing_24 rfl (lv_at hl 1 rfl) ?_
        refine lv_aload_n hx hb dX7_isOnRing_25 rfl (lv_at hl 0 rfl) ?_
        refine gX7_2 S hK hT ha kf_X7_39 dX7_isOnRing_26 (v := (G.1 a 2)) rfl (?_)
        refine lv_iload_n hx hb dX7_isOnRing_29 rfl (lv_at hl 3 rfl) ?_
        refine x_clp (x_runV (b := p0) (As := [.int (G.1 a 2), .int l3_17]) (rest := []) S (c_X6_has l E K F G s.heap p0 (G.1 a 2) l3_17 hp0 (v_X7_isOnRing_30_1 p0 G hro)) mv_X6_has km_X7_51 rfl rfl ⟨Nat.le_of_ble_eq_true rfl, Nat.le_of_ble_eq_true rfl⟩ (rc_8 hK hT hp0) hK (fun _ => XPh.blind) (fun U hU hW => XPh.at hK hz hS hT hU hW) rfl hl.1 (Nat.le_of_ble_eq_true rfl) dX7_isOnRing_30 ⟨Nat.le_of_ble_eq_true rfl, Nat.le_of_ble_eq_true rfl⟩) hS ?_
        rintro _ _ locs ⟨x30, rfl, b30, t30⟩ hS
        have t30 : (x30.toInt = 1 ∧ (cel (vw (G.2.1 (F p0 0))) ((G.1 a 2).toInt) (l3_17.toInt) 0) ≠ -2000) ∨ (x30.toInt = 0 ∧ (cel (vw (G.2.1 (F p0 0))) ((G.1 a 2).toInt) (l3_17.toInt) 0) = -2000) := t30
        refine xi_zeq (tgt := 63) hx hb (rfl : Int32.toInt x30 = x30.toInt) dX7_isOnRing_33 (by decide) (fun c33 => ?_) (fun c33 => ?_)
        · have z63 : 30 ≤ l4_17.toInt → (rgq (vw (G.2.1 (F p0 0))) ((G.1 a 2).toInt) ((G.1 a 3).toInt) (p1.toInt) (30 - l4_17.toInt) (l3_17.toInt)) = 0 := fun h9 => by rw [show 30 - l4_17.toInt = (0 : Int) from by omega]; exact rgq_0 _ _ _ _ _
          refine lv_iconst (v := 0) hx hb dX7_isOnRing_63 (by decide) ?_
          exact x_rz hx hb hr (xnz (Or.inl rfl)) hlk hQ (Nat.le_of_ble_eq_true rfl) (Nat.le_of_ble_eq_true rfl) hS dX7_isOnRing_64 () ⟨_, rfl, (Or.inl rfl), (z_X7_isOnRing_4 x30.toInt (cel (vw (G.2.1 (F p0 0))) ((G.1 a 2).toInt) (l3_17.toInt) 0) (rgq (vw (G.2.1 (F p0 0))) ((G.1 a 2).toInt) ((G.1 a 3).toInt) (p1.toInt) (30 - l4_17.toInt) (l3_17.toInt)) (rgq (vw (G.2.1 (F p0 0))) ((G.1 a 2).toInt) ((G.1 a 3).toInt) (p1.toInt) 30 (cel (vw (G.2.1 (F p0 0))) ((G.1 a 2).toInt) (p1.toInt) ((G.1 a 3).toInt))) I17_1 (z24).1 t30 c33)⟩ hh
        · refine lv_iload_n hx hb dX7_isOnRing_36 rfl (lv_at hl 3 rfl) ?_
          refine lv_iload_n hx hb dX7_isOnRing_37 rfl (lv_at hl 2 rfl) ?_
          refine xi_cne (tgt := 43) hx hb (rfl : Int32.toInt l3_17 = l3_17.toInt) (rfl : Int32.toInt p1 = p1.toInt) dX7_isOnRing_38 (by decide) (fun c38 => ?_) (fun c38 => ?_)
          · refine lv_aload_n hx hb dX7_isOnRing_43 rfl (lv_at hl 1 rfl) ?_
            refine lv_aload_n hx hb dX7_isOnRing_44 rfl (lv_at hl 0 rfl) ?_
            refine gX7_2 S hK hT ha kf_X7_39 dX7_isOnRing_45 (v := (G.1 a 2)) rfl (?_)
            refine lv_iload_n hx hb dX7_isOnRing_48 rfl (lv_at hl 3 rfl) ?_
            refine lv_aload_n hx hb dX7_isOnRing_49 rfl (lv_at hl 0 rfl) ?_
            refine gX7_3 S hK hT ha kf_X7_42 dX7_isOnRing_50 (v := (G.1 a 3)) rfl (?_)
            refine x_clp (x_runV (b := p0) (As := [.int (G.1 a 2), .int l3_17, .int (G.1 a 3)]) (rest := []) S (c_X6_cell l E K F G s.heap p0 (G.1 a 2) l3_17 (G.1 a 3) hp0) mv_X6_cell km_X7_59 rfl rfl ⟨Nat.le_of_ble_eq_true rfl, Nat.le_of_ble_eq_true rfl⟩ (rc_8 hK hT hp0) hK (fun _ => XPh.blind) (fun U hU hW => XPh.at hK hz hS hT hU hW) rfl hl.1 (Nat.le_of_ble_eq_true rfl) dX7_isOnRing_53 ⟨Nat.le_of_ble_eq_true rfl, Nat.le_of_ble_eq_true rfl⟩) hS ?_
            rintro _ _ locs ⟨x53, rfl, t53⟩ hS
            have t53 : x53.toInt = (cel (vw (G.2.1 (F p0 0))) ((G.1 a 2).toInt) (l3_17.toInt) ((G.1 a 3).toInt)) := t53
            refine lv_istore_n (lv' := [(3, .int x53), (0, .ref a), (1, .ref p0), (2, .int p1), (4, .int l4_17)]) hx hb dX7_isOnRing_56 rfl hl (by decide) rfl (fun ls hl => ?_)
            refine xi_iinc (n := 1) (lv' := fun z9 => [(4, .int z9), (3, .int x53), (0, .ref a), (1, .ref p0), (2, .int p1)]) (k := 4) hx hb (rfl : Int32.toInt l4_17 = l4_17.toInt) (by decide) dX7_isOnRing_57 hl rfl (by decide) (fun _ => rfl) (fun x57 ls t57 hl => ?_)
            have e57 : x57.toInt = (l4_17.toInt + 1) := (z_X7_isOnRing_5 l4_17.toInt x57.toInt I17_0 t57)
            have hl : lv_has ls 5 [(4, .int x57), (3, .int x53), (0, .ref a), (1, .ref p0), (2, .int p1)] := hl
            have z60 : (rgq (vw (G.2.1 (F p0 0))) ((G.1 a 2).toInt) ((G.1 a 3).toInt) (p1.toInt) (30 - (l4_17.toInt + 1)) (cel (vw (G.2.1 (F p0 0))) ((G.1 a 2).toInt) (l3_17.toInt) ((G.1 a 3).toInt))) = (rgq (vw (G.2.1 (F p0 0))) ((G.1 a 2).toInt) ((G.1 a 3).toInt) (p1.toInt) (30 - l4_17.toInt - 1) (cel (vw (G.2.1 (F p0 0))) ((G.1 a 2).toInt) (l3_17.toInt) ((G.1 a 3).toInt))) := by rw [show 30 - (l4_17.toInt + 1) = 30 - l4_17.toInt - 1 from by omega]
            refine lv_goto (tgt := 17) hx hb dX7_isOnRing_60 (by decide) ?_
            exact ih17 x53 x57 _ _ (by rw [(e57 : Int32.toInt x57 = (l4_17.toInt + 1))] <;> exact (z_X7_isOnRing_6 l4_17.toInt I17_0 c21)) (by rw [(e57 : Int32.toInt x57 = (l4_17.toInt + 1)), (t53 : Int32.toInt x53 = (cel (vw (G.2.1 (F p0 0))) ((G.1 a 2).toInt) (l3_17.toInt) ((G.1 a 3).toInt)))] <;> exact (z_X7_isOnRing_7 l3_17.toInt p1.toInt x30.toInt (cel (vw (G.2.1 (F p0 0))) ((G.1 a 2).toInt) (l3_17.toInt) 0) (rgq (vw (G.2.1 (F p0 0))) ((G.1 a 2).toInt) ((G.1 a 3).toInt) (p1.toInt) (30 - (l4_17.toInt + 1)) (cel (vw (G.2.1 (F p0 0))) ((G.1 a 2).toInt) (l3_17.toInt) ((G.1 a 3).toInt))) (rgq (vw (G.2.1 (F p0 0))) ((G.1 a 2).toInt) ((G.1 a 3).toInt) (p1.toInt) (30 - l4_17.toInt - 1) (cel (vw (G.2.1 (F p0 0))) ((G.1 a 2).toInt) (l3_17.toInt) ((G.1 a 3).toInt))) (rgq (vw (G.2.1 (F p0 0))) ((G.1 a 2).toInt) ((G.1 a 3).toInt) (p1.toInt) (30 - l4_17.toInt) (l3_17.toInt)) (rgq (vw (G.2.1 (F p0 0))) ((G.1 a 2).toInt) ((G.1 a 3).toInt) (p1.toInt) 30 (cel (vw (G.2.1 (F p0 0))) ((G.1 a 2).toInt) (p1.toInt) ((G.1 a 3).toInt))) I17_1 (z24).2.2 t30 c33 c38 z60)) (by rw [(e57 : Int32.toInt x57 = (l4_17.toInt + 1))] <;> exact (z_X7_isOnRing_8 l4_17.toInt I17_0)) (by rw [(e57 : Int32.toInt x57 = (l4_17.toInt + 1))] <;> exact (z_X7_isOnRing_9 l4_17.toInt N17 hm17)) hT hS (lv_sub hl [2, 3, 4, 1, 0] rfl)
          · refine lv_iconst (v := 1) hx hb dX7_isOnRing_41 (by decide) ?_
            exact x_rz hx hb hr (xnz (Or.inr rfl)) hlk hQ (Nat.le_of_ble_eq_true rfl) (Nat.le_of_ble_eq_true rfl) hS dX7_isOnRing_42 () ⟨_, rfl, (Or.inr rfl), (z_X7_isOnRing_10 l3_17.toInt p1.toInt x30.toInt (cel (vw (G.2.1 (F p0 0))) ((G.1 a 2).toInt) (l3_17.toInt) 0) (rgq (vw (G.2.1 (F p0 0))) ((G.1 a 2).toInt) ((G.1 a 3).toInt) (p1.toInt) (30 - l4_17.toInt) (l3_17.toInt)) (rgq (vw (G.2.1 (F p0 0))) ((G.1 a 2).toInt) ((G.1 a 3).toInt) (p1.toInt) 30 (cel (vw (G.2.1 (F p0 0))) ((G.1 a 2).toInt) (p1.toInt) ((G.1 a 3).toInt))) I17_1 (z24).2.1 t30 c33 c38)⟩ hh
  exact L17 4294967297 x10 0 _ _ (by decide) (by rw [(t10 : Int32.toInt x10 = (cel (vw (G.2.1 (F p0 0))) ((G.1 a 2).toInt) (p1.toInt) ((G.1 a 3).toInt)))] <;> exact (z15)) (by decide) (by decide) hT hS (lv_sub hl [2, 3, 4, 1, 0] rfl)

theorem z_X7_state_1 (a0 : Int) : (a0 < 0 ∨ 4 < a0) ∨ (a0 = 0) ∨ (a0 = 1) ∨ (a0 = 2) ∨ (a0 = 3) ∨ (a0 = 4) := by omega
theorem z_X7_state_2 (a0 : Int) (a1 : Int) (a2 : Int) (h0 : 0 ≤ a0 ∧ a0 ≤ 5) (h1 : a0 = 2 ∨ a0 = 5 → a2 = a1) (h2 : a0 < 0 ∨ 4 < a0) : a1 = a2 := by omega
theorem z_X7_state_3 (a0 : Int) (a1 : Int) (h0 : 0 ≤ a0 ∧ a0 ≤ 2) (h1 : 0 ≤ a1 ∧ a1 ≤ 2) : 0 ≤ a0 ∧ a0 < 3 ∧ 0 ≤ a1 ∧ a1 < 3 := by omega
theorem z_X7_state_4 (a0 : Int) (a1 : Int) (a2 : Int) (h0 : a0 = 0 → a2 = a1) (h1 : a0 = 0) : a1 = a2 := by omega
theorem z_X7_state_6 (a0 : Int) (a1 : Int) (h0 : 0 ≤ a1 ∧ a1 ≤ 30) (h1 : a0 = ((2 : Int) * a1) ∨ ((2 : Int) * a1) < -2147483648 ∨ 2147483648 ≤ ((2 : Int) * a1)) : a0 = ((2 : Int) * a1) := by omega
theorem z_X7_state_7 (a0 : Int) (a1 : Int) (h0 : 0 ≤ a1 ∧ a1 ≤ 30) (h1 : a0 = (((2 : Int) * a1) + (0 : Int)) ∨ (((2 : Int) * a1) + (0 : Int)) < -2147483648 ∨ 2147483648 ≤ (((2 : Int) * a1) + (0 : Int))) : a0 = (((2 : Int) * a1) + (0 : Int)) := by omega
theorem z_X7_state_8 (a0 : Int) (a1 : Int) (a2 : Int) (a3 : Int) (a4 : Int) (h0 : a1 = 1 ∨ a1 = 4 → (a2 = -2000 ∧ a4 = 2 * a3) ∨ (a2 ≠ -2000 ∧ a4 = 2 * a3 + 1)) (h1 : a1 = 1) (h2 : (a0 = 1 ∧ a2 ≠ -2000) ∨ (a0 = 0 ∧ a2 = -2000)) (h3 : a0 = 0) : (((2 : Int) * a3) + (0 : Int)) = a4 := by omega
theorem z_X7_state_9 (a0 : Int) (a1 : Int) (h0 : 0 ≤ a1 ∧ a1 ≤ 30) (h1 : a0 = (((2 : Int) * a1) + (1 : Int)) ∨ (((2 : Int) * a1) + (1 : Int)) < -2147483648 ∨ 2147483648 ≤ (((2 : Int) * a1) + (1 : Int))) : a0 = (((2 : Int) * a1) + (1 : Int)) := by omega
theorem z_X7_state_10 (a0 : Int) (a1 : Int) (a2 : Int) (a3 : Int) (a4 : Int) (h0 : a1 = 1 ∨ a1 = 4 → (a2 = -2000 ∧ a4 = 2 * a3) ∨ (a2 ≠ -2000 ∧ a4 = 2 * a3 + 1)) (h1 : a1 = 1) (h2 : (a0 = 1 ∧ a2 ≠ -2000) ∨ (a0 = 0 ∧ a2 = -2000)) (h3 : ¬ (a0 = 0)) : (((2 : Int) * a3) + (1 : Int)) = a4 := by omega
theorem z_X7_state_11 (a0 : Int) (a1 : Int) (a2 : Int) (h0 : a0 = 2 ∨ a0 = 5 → a2 = a1) (h1 : a0 = 2) : a1 = a2 := by omega
theorem z_X7_state_12 (a0 : Int) (a1 : Int) (a2 : Int) (a3 : Int) (h0 : 0 ≤ a1 ∧ a1 ≤ 2) (h1 : 0 ≤ a2 ∧ a2 ≤ 2) (h2 : -1 ≤ a3 ∧ a3 ≤ 2) (h3 : a0 = 1 ∨ a0 = 3 ∨ a0 = 4 → 0 ≤ a3) (h4 : a0 = 3) : 0 ≤ a1 ∧ a1 < 3 ∧ 0 ≤ a2 ∧ a2 < 3 ∧ 0 ≤ a3 ∧ a3 < 3 := by omega
theorem z_X7_state_13 (a0 : Int) (a1 : Int) (a2 : Int) (a3 : Int) (a4 : Int) (h0 : a1 = 3 → (a2 = 0 ∧ a4 = 100000) ∨ (a2 ≠ 0 ∧ a4 = a3)) (h1 : a1 = 3) (h2 : (a2 = 0 ∧ a0 = 100000) ∨ (a2 ≠ 0 ∧ a0 = a3)) : a0 = a4 := by omega
theorem z_X7_state_17 (a0 : Int) (a1 : Int) (a2 : Int) (a3 : Int) (a4 : Int) (h0 : a1 = 1 ∨ a1 = 4 → (a2 = -2000 ∧ a4 = 2 * a3) ∨ (a2 ≠ -2000 ∧ a4 = 2 * a3 + 1)) (h1 : a1 = 4) (h2 : (a0 = 1 ∧ a2 ≠ -2000) ∨ (a0 = 0 ∧ a2 = -2000)) (h3 : a0 = 0) : (((2 : Int) * a3) + (0 : Int)) = a4 := by omega
theorem z_X7_state_19 (a0 : Int) (a1 : Int) (a2 : Int) (a3 : Int) (a4 : Int) (h0 : a1 = 1 ∨ a1 = 4 → (a2 = -2000 ∧ a4 = 2 * a3) ∨ (a2 ≠ -2000 ∧ a4 = 2 * a3 + 1)) (h1 : a1 = 4) (h2 : (a0 = 1 ∧ a2 ≠ -2000) ∨ (a0 = 0 ∧ a2 = -2000)) (h3 : ¬ (a0 = 0)) : (((2 : Int) * a3) + (1 : Int)) = a4 := by omega
abbrev rm_X7_state : Room := { frames := 2, cells := 0, slots := 0, locals := 50 }
set_option maxHeartbeats 4000000 in
set_option maxRecDepth 100000 in
theorem c_X7_state (l : Launch) (E : XE) (K : Nat → Nat) (F : Nat → Nat → Nat) (G : XG) (h0 : Heap) (a : Nat) (p0 : Nat) (p1 : Int32) (ha : K a = 9) (hp0 : K p0 = 8) (hro : RO (vw (G.2.1 (F p0 0))) (aI (G.2.1 (F p0 1)))) (hrw : RW (G.1 a)) : Met l yX7_state (xw yX7_state cX7_state 3 (some .int)) rm_X7_state (va_Pc [.ref a, .ref p0, .int p1] (XPh E K F G h0)) (XQ E (fun v (u : Unit) => ∃ r : Int32, v = .int r ∧ (r.toInt = (stt (vw (G.2.1 (F p0 0))) ((G.1 a 0).toInt) ((G.1 a 2).toInt) ((G.1 a 3).toInt) ((G.1 a 4).toInt) (p1.toInt)))) (fun _ H => H = h0)) 0 0 (xA E) := by
  refine x_enter (by decide) (Nat.le_of_ble_eq_true rfl) ?_
  intro p e s m args below meth c Q S hr hlk hnm hQ hP ls hl
  obtain ⟨⟨hz, hK, hT⟩, hh⟩ := hP
  obtain ⟨hx, hb, -, -, -⟩ := id S
  have hS : va_S (xA E) s.heap s.heap [] := va_S.rf
  have hl : lv_has ls 3 [(0, .ref a), (1, .ref p0), (2, .int p1)] := hl
  obtain ⟨hk9999, hj9999⟩ := fkX6_0 hT hp0
  obtain ⟨hk9999a, hj9999a⟩ := fkX6_1 hT hp0
  have z0 : (0 ≤ ((G.1 a 0).toInt) ∧ ((G.1 a 0).toInt) ≤ 5) ∧ (0 ≤ ((G.1 a 2).toInt) ∧ ((G.1 a 2).toInt) ≤ 2) ∧ (0 ≤ ((G.1 a 3).toInt) ∧ ((G.1 a 3).toInt) ≤ 2) ∧ (-1 ≤ ((G.1 a 4).toInt) ∧ ((G.1 a 4).toInt) ≤ 2) ∧ (((G.1 a 0).toInt) = 1 ∨ ((G.1 a 0).toInt) = 3 ∨ ((G.1 a 0).toInt) = 4 → 0 ≤ ((G.1 a 4).toInt)) := RW.f hrw
  have z0a : (((G.1 a 0).toInt) = 0 → (stt (vw (G.2.1 (F p0 0))) ((G.1 a 0).toInt) ((G.1 a 2).toInt) ((G.1 a 3).toInt) ((G.1 a 4).toInt) (p1.toInt)) = (hv (vw (G.2.1 (F p0 0))) (90 * ((G.1 a 2).toInt) + 30 * ((G.1 a 3).toInt)) (p1.toInt) 30)) ∧ (((G.1 a 0).toInt) = 1 ∨ ((G.1 a 0).toInt) = 4 → ((cel (vw (G.2.1 (F p0 0))) ((G.1 a 4).toInt) (p1.toInt) 0) = -2000 ∧ (stt (vw (G.2.1 (F p0 0))) ((G.1 a 0).toInt) ((G.1 a 2).toInt) ((G.1 a 3).toInt) ((G.1 a 4).toInt) (p1.toInt)) = 2 * (hv (vw (G.2.1 (F p0 0))) (90 * ((G.1 a 2).toInt) + 30 * ((G.1 a 3).toInt)) (p1.toInt) 30)) ∨ ((cel (vw (G.2.1 (F p0 0))) ((G.1 a 4).toInt) (p1.toInt) 0) ≠ -2000 ∧ (stt (vw (G.2.1 (F p0 0))) ((G.1 a 0).toInt) ((G.1 a 2).toInt) ((G.1 a 3).toInt) ((G.1 a 4).toInt) (p1.toInt)) = 2 * (hv (vw (G.2.1 (F p0 0))) (90 * ((G.1 a 2).toInt) + 30 * ((G.1 a 3).toInt)) (p1.toInt) 30) + 1)) ∧ (((G.1 a 0).toInt) = 3 → ((hv (vw (G.2.1 (F p0 0))) (90 * ((G.1 a 2).toInt) + 30 * ((G.1 a 3).toInt)) (p1.toInt) 30) = 0 ∧ (stt (vw (G.2.1 (F p0 0))) ((G.1 a 0).toInt) ((G.1 a 2).toInt) ((G.1 a 3).toInt) ((G.1 a 4).toInt) (p1.toInt)) = 100000) ∨ ((hv (vw (G.2.1 (F p0 0))) (90 * ((G.1 a 2).toInt) + 30 * ((G.1 a 3).toInt)) (p1.toInt) 30) ≠ 0 ∧ (stt (vw (G.2.1 (F p0 0))) ((G.1 a 0).toInt) ((G.1 a 2).toInt) ((G.1 a 3).toInt) ((G.1 a 4).toInt) (p1.toInt)) = (smq (vw (G.2.1 (F p0 0))) (90 * ((G.1 a 2).toInt) + 30 * ((G.1 a 3).toInt)) (90 * ((G.1 a 2).toInt) + 30 * ((G.1 a 4).toInt)) (p1.toInt) 30))) ∧ (((G.1 a 0).toInt) = 2 ∨ ((G.1 a 0).toInt) = 5 → (stt (vw (G.2.1 (F p0 0))) ((G.1 a 0).toInt) ((G.1 a 2).toInt) ((G.1 a 3).toInt) ((G.1 a 4).toInt) (p1.toInt)) = (cel (vw (G.2.1 (F p0 0))) ((G.1 a 2).toInt) (p1.toInt) ((G.1 a 3).toInt))) := stt_k
  have z0b : 0 ≤ (hv (vw (G.2.1 (F p0 0))) (90 * ((G.1 a 2).toInt) + 30 * ((G.1 a 3).toInt)) (p1.toInt) 30) ∧ (hv (vw (G.2.1 (F p0 0))) (90 * ((G.1 a 2).toInt) + 30 * ((G.1 a 3).toInt)) (p1.toInt) 30) ≤ 30 := hv_b _ _ _ (by decide)
  refine lv_aload_n hx hb dX7_state_0 rfl (lv_at hl 0 rfl) ?_
  refine gX7_0 S hK hT ha kf_X7_21 dX7_state_1 (v := (G.1 a 0)) rfl (?_)
  rcases ((z_X7_state_1 ((G.1 a 0).toInt)) : (((G.1 a 0).toInt) < 0 ∨ 4 < ((G.1 a 0).toInt)) ∨ (((G.1 a 0).toInt) = 0) ∨ (((G.1 a 0).toInt) = 1) ∨ (((G.1 a 0).toInt) = 2) ∨ (((G.1 a 0).toInt) = 3) ∨ (((G.1 a 0).toInt) = 4)) with c4 | c4 | c4 | c4 | c4 | c4
  · refine lv_tableOut (tgt := 106) hx hb dX7_state_4 c4 (by decide) ?_
    refine lv_aload_n hx hb dX7_state_106 rfl (lv_at hl 1 rfl) ?_
    refine lv_aload_n hx hb dX7_state_107 rfl (lv_at hl 0 rfl) ?_
    refine gX7_2 S hK hT ha kf_X7_39 dX7_state_108 (v := (G.1 a 2)) rfl (?_)
    refine lv_iload_n hx hb dX7_state_111 rfl (lv_at hl 2 rfl) ?_
    refine lv_aload_n hx hb dX7_state_112 rfl (lv_at hl 0 rfl) ?_
    refine gX7_3 S hK hT ha kf_X7_42 dX7_state_113 (v := (G.1 a 3)) rfl (?_)
    refine x_clp (x_runV (b := p0) (As := [.int (G.1 a 2), .int p1, .int (G.1 a 3)]) (rest := []) S (c_X6_cell l E K F G s.heap p0 (G.1 a 2) p1 (G.1 a 3) hp0) mv_X6_cell km_X7_59 rfl rfl ⟨Nat.le_of_ble_eq_true rfl, Nat.le_of_ble_eq_true rfl⟩ (rc_8 hK hT hp0) hK (fun _ => XPh.blind) (fun U hU hW => XPh.at hK hz hS hT hU hW) rfl hl.1 (Nat.le_of_ble_eq_true rfl) dX7_state_116 ⟨Nat.le_of_ble_eq_true rfl, Nat.le_of_ble_eq_true rfl⟩) hS ?_
    rintro _ _ locs ⟨x116, rfl, t116⟩ hS
    have t116 : x116.toInt = (cel (vw (G.2.1 (F p0 0))) ((G.1 a 2).toInt) (p1.toInt) ((G.1 a 3).toInt)) := t116
    exact x_ri hx hb hr hlk hQ (Nat.le_of_ble_eq_true rfl) (Nat.le_of_ble_eq_true rfl) hS dX7_state_119 () ⟨_, rfl, (by rw [(t116 : Int32.toInt x116 = (cel (vw (G.2.1 (F p0 0))) ((G.1 a 2).toInt) (p1.toInt) ((G.1 a 3).toInt)))] <;> exact (z_X7_state_2 ((G.1 a 0).toInt) (cel (vw (G.2.1 (F p0 0))) ((G.1 a 2).toInt) (p1.toInt) ((G.1 a 3).toInt)) (stt (vw (G.2.1 (F p0 0))) ((G.1 a 0).toInt) ((G.1 a 2).toInt) ((G.1 a 3).toInt) ((G.1 a 4).toInt) (p1.toInt)) (z0).1 (z0a).2.2.2 c4))⟩ hh
  · refine lv_tableIn (off := 36) (tgt := 40) hx hb dX7_state_4 (by rw [c4]; decide) (by rw [c4]; decide) (by rw [c4]; rfl) (by decide) ?_
    refine lv_aload_n hx hb dX7_state_40 rfl (lv_at hl 1 rfl) ?_
    refine lv_aload_n hx hb dX7_state_41 rfl (lv_at hl 0 rfl) ?_
    refine gX7_2 S hK hT ha kf_X7_39 dX7_state_42 (v := (G.1 a 2)) rfl (?_)
    refine lv_aload_n hx hb dX7_state_45 rfl (lv_at hl 0 rfl) ?_
    refine gX7_3 S hK hT ha kf_X7_42 dX7_state_46 (v := (G.1 a 3)) rfl (?_)
    refine lv_iload_n hx hb dX7_state_49 rfl (lv_at hl 2 rfl) ?_
    refine x_clp (x_runV (b := p0) (As := [.int (G.1 a 2), .int (G.1 a 3), .int p1]) (rest := []) S (c_X6_having l E K F G s.heap p0 (G.1 a 2) (G.1 a 3) p1 hp0 (z_X7_state_3 ((G.1 a 2).toInt) ((G.1 a 3).toInt) (z0).2.1 (z0).2.2.1)) mv_X6_having km_X7_45 rfl rfl ⟨Nat.le_of_ble_eq_true rfl, Nat.le_of_ble_eq_true rfl⟩ (rc_8 hK hT hp0) hK (fun _ => XPh.blind) (fun U hU hW => XPh.at hK hz hS hT hU hW) rfl hl.1 (Nat.le_of_ble_eq_true rfl) dX7_state_50 ⟨Nat.le_of_ble_eq_true rfl, Nat.le_of_ble_eq_true rfl⟩) hS ?_
    rintro _ _ locs ⟨x50, rfl, t50⟩ hS
    have t50 : x50.toInt = (hv (vw (G.2.1 (F p0 0))) (90 * ((G.1 a 2).toInt) + 30 * ((G.1 a 3).toInt)) (p1.toInt) 30) := t50
    exact x_ri hx hb hr hlk hQ (Nat.le_of_ble_eq_true rfl) (Nat.le_of_ble_eq_true rfl) hS dX7_state_53 () ⟨_, rfl, (by rw [(t50 : Int32.toInt x50 = (hv (vw (G.2.1 (F p0 0))) (90 * ((G.1 a 2).toInt) + 30 * ((G.1 a 3).toInt)) (p1.toInt) 30))] <;> exact (z_X7_state_4 ((G.1 a 0).toInt) (hv (vw (G.2.1 (F p0 0))) (90 * ((G.1 a 2).toInt) + 30 * ((G.1 a 3).toInt)) (p1.toInt) 30) (stt (vw (G.2.1 (F p0 0))) ((G.1 a 0).toInt) ((G.1 a 2).toInt) ((G.1 a 3).toInt) ((G.1 a 4).toInt) (p1.toInt)) (z0a).1 c4))⟩ hh
  · refine lv_tableIn (off := 50) (tgt := 54) hx hb dX7_state_4 (by rw [c4]; decide) (by rw [c4]; decide) (by rw [c4]; rfl) (by decide) ?_
    refine lv_iconst (v := 2) hx hb dX7_state_54 (by decide) ?_
    refine lv_aload_n hx hb dX7_state_55 rfl (lv_at hl 1 rfl) ?_
    refine lv_aload_n hx hb dX7_state_56 rfl (lv_at hl 0 rfl) ?_
    refine gX7_2 S hK hT ha kf_X7_39 dX7_state_57 (v := (G.1 a 2)) rfl (?_)
    refine lv_aload_n hx hb dX7_state_60 rfl (lv_at hl 0 rfl) ?_
    refine gX7_3 S hK hT ha kf_X7_42 dX7_state_61 (v := (G.1 a 3)) rfl (?_)
    refine lv_iload_n hx hb dX7_state_64 rfl (lv_at hl 2 rfl) ?_
    refine x_clp (x_runV (b := p0) (As := [.int (G.1 a 2), .int (G.1 a 3), .int p1]) (rest := [.int 2]) S (c_X6_having l E K F G s.heap p0 (G.1 a 2) (G.1 a 3) p1 hp0 (z_X7_state_3 ((G.1 a 2).toInt) ((G.1 a 3).toInt) (z0).2.1 (z0).2.2.1)) mv_X6_having km_X7_45 rfl rfl ⟨Nat.le_of_ble_eq_true rfl, Nat.le_of_ble_eq_true rfl⟩ (rc_8 hK hT hp0) hK (fun _ => XPh.blind) (fun U hU hW => XPh.at hK hz hS hT hU hW) rfl hl.1 (Nat.le_of_ble_eq_true rfl) dX7_state_65 ⟨Nat.le_of_ble_eq_true rfl, Nat.le_of_ble_eq_true rfl⟩) hS ?_
    rintro _ _ locs ⟨x65, rfl, t65⟩ hS
    have t65 : x65.toInt = (hv (vw (G.2.1 (F p0 0))) (90 * ((G.1 a 2).toInt) + 30 * ((G.1 a 3).toInt)) (p1.toInt) 30) := t65
    refine xi_imul hx hb ((by decide) : Int32.toInt 2 = (2 : Int)) (t65 : Int32.toInt x65 = (hv (vw (G.2.1 (F p0 0))) (90 * ((G.1 a 2).toInt) + 30 * ((G.1 a 3).toInt)) (p1.toInt) 30)) dX7_state_68 (fun x68 t68 => ?_)
    have e68 : x68.toInt = ((2 : Int) * (hv (vw (G.2.1 (F p0 0))) (90 * ((G.1 a 2).toInt) + 30 * ((G.1 a 3).toInt)) (p1.toInt) 30)) := (z_X7_state_6 x68.toInt (hv (vw (G.2.1 (F p0 0))) (90 * ((G.1 a 2).toInt) + 30 * ((G.1 a 3).toInt)) (p1.toInt) 30) z0b t68)
    refine lv_aload_n hx hb dX7_state_69 rfl (lv_at hl 1 rfl) ?_
    refine lv_aload_n hx hb dX7_state_70 rfl (lv_at hl 0 rfl) ?_
    refine gX7_4 S hK hT ha kf_X7_15 dX7_state_71 (v := (G.1 a 4)) rfl (?_)
    refine lv_iload_n hx hb dX7_state_74 rfl (lv_at hl 2 rfl) ?_
    refine x_clp (x_runV (b := p0) (As := [.int (G.1 a 4), .int p1]) (rest := [.int x68]) S (c_X6_has l E K F G s.heap p0 (G.1 a 4) p1 hp0 (v_X7_state_75_1 p0 G hro)) mv_X6_has km_X7_51 rfl rfl ⟨Nat.le_of_ble_eq_true rfl, Nat.le_of_ble_eq_true rfl⟩ (rc_8 hK hT hp0) hK (fun _ => XPh.blind) (fun U hU hW => XPh.at hK hz hS hT hU hW) rfl hl.1 (Nat.le_of_ble_eq_true rfl) dX7_state_75 ⟨Nat.le_of_ble_eq_true rfl, Nat.le_of_ble_eq_true rfl⟩) hS ?_
    rintro _ _ locs ⟨x75, rfl, b75, t75⟩ hS
    have t75 : (x75.toInt = 1 ∧ (cel (vw (G.2.1 (F p0 0))) ((G.1 a 4).toInt) (p1.toInt) 0) ≠ -2000) ∨ (x75.toInt = 0 ∧ (cel (vw (G.2.1 (F p0 0))) ((G.1 a 4).toInt) (p1.toInt) 0) = -2000) := t75
    refine xi_zeq (tgt := 85) hx hb (rfl : Int32.toInt x75 = x75.toInt) dX7_state_78 (by decide) (fun c78 => ?_) (fun c78 => ?_)
    · refine lv_iconst (v := 0) hx hb dX7_state_85 (by decide) ?_
      refine xi_iadd hx hb (e68 : Int32.toInt x68 = ((2 : Int) * (hv (vw (G.2.1 (F p0 0))) (90 * ((G.1 a 2).toInt) + 30 * ((G.1 a 3).toInt)) (p1.toInt) 30))) ((by decide) : Int32.toInt 0 = (0 : Int)) dX7_state_86 (fun x86 t86 => ?_)
      have e86 : x86.toInt = (((2 : Int) * (hv (vw (G.2.1 (F p0 0))) (90 * ((G.1 a 2).toInt) + 30 * ((G.1 a 3).toInt)) (p1.toInt) 30)) + (0 : Int)) := (z_X7_state_7 x86.toInt (hv (vw (G.2.1 (F p0 0))) (90 * ((G.1 a 2).toInt) + 30 * ((G.1 a 3).toInt)) (p1.toInt) 30) z0b t86)
      exact x_ri hx hb hr hlk hQ (Nat.le_of_ble_eq_true rfl) (Nat.le_of_ble_eq_true rfl) hS dX7_state_87 () ⟨_, rfl, (by rw [(e86 : Int32.toInt x86 = (((2 : Int) * (hv (vw (G.2.1 (F p0 0))) (90 * ((G.1 a 2).toInt) + 30 * ((G.1 a 3).toInt)) (p1.toInt) 30)) + (0 : Int)))] <;> exact (z_X7_state_8 x75.toInt ((G.1 a 0).toInt) (cel (vw (G.2.1 (F p0 0))) ((G.1 a 4).toInt) (p1.toInt) 0) (hv (vw (G.2.1 (F p0 0))) (90 * ((G.1 a 2).toInt) + 30 * ((G.1 a 3).toInt)) (p1.toInt) 30) (stt (vw (G.2.1 (F p0 0))) ((G.1 a 0).toInt) ((G.1 a 2).toInt) ((G.1 a 3).toInt) ((G.1 a 4).toInt) (p1.toInt)) (z0a).2.1 c4 t75 c78))⟩ hh
    · refine lv_iconst (v := 1) hx hb dX7_state_81 (by decide) ?_
      refine lv_goto (tgt := 86) hx hb dX7_state_82 (by decide) ?_
      refine xi_iadd hx hb (e68 : Int32.toInt x68 = ((2 : Int) * (hv (vw (G.2.1 (F p0 0))) (90 * ((G.1 a 2).toInt) + 30 * ((G.1 a 3).toInt)) (p1.toInt) 30))) ((by decide) : Int32.toInt 1 = (1 : Int)) dX7_state_86 (fun x86 t86 => ?_)
      have e86 : x86.toInt = (((2 : Int) * (hv (vw (G.2.1 (F p0 0))) (90 * ((G.1 a 2).toInt) + 30 * ((G.1 a 3).toInt)) (p1.toInt) 30)) + (1 : Int)) := (z_X7_state_9 x86.toInt (hv (vw (G.2.1 (F p0 0))) (90 * ((G.1 a 2).toInt) + 30 * ((G.1 a 3).toInt)) (p1.toInt) 30) z0b t86)
      exact x_ri hx hb hr hlk hQ (Nat.le_of_ble_eq_true rfl) (Nat.le_of_ble_eq_true rfl) hS dX7_state_87 () ⟨_, rfl, (by rw [(e86 : Int32.toInt x86 = (((2 : Int) * (hv (vw (G.2.1 (F p0 0))) (90 * ((G.1 a 2).toInt) + 30 * ((G.1 a 3).toInt)) (p1.toInt) 30)) + (1 : Int)))] <;> exact (z_X7_state_10 x75.toInt ((G.1 a 0).toInt) (cel (vw (G.2.1 (F p0 0))) ((G.1 a 4).toInt) (p1.toInt) 0) (hv (vw (G.2.1 (F p0 0))) (90 * ((G.1 a 2).toInt) + 30 * ((G.1 a 3).toInt)) (p1.toInt) 30) (stt (vw (G.2.1 (F p0 0))) ((G.1 a 0).toInt) ((G.1 a 2).toInt) ((G.1 a 3).toInt) ((G.1 a 4).toInt) (p1.toInt)) (z0a).2.1 c4 t75 c78))⟩ hh
  · refine lv_tableIn (off := 102) (tgt := 106) hx hb dX7_state_4 (by rw [c4]; decide) (by rw [c4]; decide) (by rw [c4]; rfl) (by decide) ?_
    refine lv_aload_n hx hb dX7_state_106 rfl (lv_at hl 1 rfl) ?_
    refine lv_aload_n hx hb dX7_state_107 rfl (lv_at hl 0 rfl) ?_
    refine gX7_2 S hK hT ha kf_X7_39 dX7_state_108 (v := (G.1 a 2)) rfl (?_)
    refine lv_iload_n hx hb dX7_state_111 rfl (lv_at hl 2 rfl) ?_
    refine lv_aload_n hx hb dX7_state_112 rfl (lv_at hl 0 rfl) ?_
    refine gX7_3 S hK hT ha kf_X7_42 dX7_state_113 (v := (G.1 a 3)) rfl (?_)
    refine x_clp (x_runV (b := p0) (As := [.int (G.1 a 2), .int p1, .int (G.1 a 3)]) (rest := []) S (c_X6_cell l E K F G s.heap p0 (G.1 a 2) p1 (G.1 a 3) hp0) mv_X6_cell km_X7_59 rfl rfl ⟨Nat.le_of_ble_eq_true rfl, Nat.le_of_ble_eq_true rfl⟩ (rc_8 hK hT hp0) hK (fun _ => XPh.blind) (fun U hU hW => XPh.at hK hz hS hT hU hW) rfl hl.1 (Nat.le_of_ble_eq_true rfl) dX7_state_116 ⟨Nat.le_of_ble_eq_true rfl, Nat.le_of_ble_eq_true rfl⟩) hS ?_
    rintro _ _ locs ⟨x116, rfl, t116⟩ hS
    have t116 : x116.toInt = (cel (vw (G.2.1 (F p0 0))) ((G.1 a 2).toInt) (p1.toInt) ((G.1 a 3).toInt)) := t116
    exact x_ri hx hb hr hlk hQ (Nat.le_of_ble_eq_true rfl) (Nat.le_of_ble_eq_true rfl) hS dX7_state_119 () ⟨_, rfl, (by rw [(t116 : Int32.toInt x116 = (cel (vw (G.2.1 (F p0 0))) ((G.1 a 2).toInt) (p1.toInt) ((G.1 a 3).toInt)))] <;> exact (z_X7_state_11 ((G.1 a 0).toInt) (cel (vw (G.2.1 (F p0 0))) ((G.1 a 2).toInt) (p1.toInt) ((G.1 a 3).toInt)) (stt (vw (G.2.1 (F p0 0))) ((G.1 a 0).toInt) ((G.1 a 2).toInt) ((G.1 a 3).toInt) ((G.1 a 4).toInt) (p1.toInt)) (z0a).2.2.2 c4))⟩ hh
  · refine lv_tableIn (off := 84) (tgt := 88) hx hb dX7_state_4 (by rw [c4]; decide) (by rw [c4]; decide) (by rw [c4]; rfl) (by decide) ?_
    refine lv_aload_n hx hb dX7_state_88 rfl (lv_at hl 1 rfl) ?_
    refine lv_aload_n hx hb dX7_state_89 rfl (lv_at hl 0 rfl) ?_
    refine gX7_2 S hK hT ha kf_X7_39 dX7_state_90 (v := (G.1 a 2)) rfl (?_)
    refine lv_aload_n hx hb dX7_state_93 rfl (lv_at hl 0 rfl) ?_
    refine gX7_3 S hK hT ha kf_X7_42 dX7_state_94 (v := (G.1 a 3)) rfl (?_)
    refine lv_iload_n hx hb dX7_state_97 rfl (lv_at hl 2 rfl) ?_
    refine lv_aload_n hx hb dX7_state_98 rfl (lv_at hl 0 rfl) ?_
    refine gX7_4 S hK hT ha kf_X7_15 dX7_state_99 (v := (G.1 a 4)) rfl (?_)
    refine x_clp (x_runV (b := p0) (As := [.int (G.1 a 2), .int (G.1 a 3), .int p1, .int (G.1 a 4)]) (rest := []) S (c_X6_sumOf l E K F G s.heap p0 (G.1 a 2) (G.1 a 3) p1 (G.1 a 4) hp0 (z_X7_state_12 ((G.1 a 0).toInt) ((G.1 a 2).toInt) ((G.1 a 3).toInt) ((G.1 a 4).toInt) (z0).2.1 (z0).2.2.1 (z0).2.2.2.1 (z0).2.2.2.2 c4) (v_X7_state_102_2 p0 G hro)) mv_X6_sumOf km_X7_55 rfl rfl ⟨Nat.le_of_ble_eq_true rfl, Nat.le_of_ble_eq_true rfl⟩ (rc_8 hK hT hp0) hK (fun _ => XPh.blind) (fun U hU hW => XPh.at hK hz hS hT hU hW) rfl hl.1 (Nat.le_of_ble_eq_true rfl) dX7_state_102 ⟨Nat.le_of_ble_eq_true rfl, Nat.le_of_ble_eq_true rfl⟩) hS ?_
    rintro _ _ locs ⟨x102, rfl, t102⟩ hS
    have t102 : ((hv (vw (G.2.1 (F p0 0))) (90 * ((G.1 a 2).toInt) + 30 * ((G.1 a 3).toInt)) (p1.toInt) 30) = 0 ∧ x102.toInt = 100000) ∨ ((hv (vw (G.2.1 (F p0 0))) (90 * ((G.1 a 2).toInt) + 30 * ((G.1 a 3).toInt)) (p1.toInt) 30) ≠ 0 ∧ x102.toInt = (smq (vw (G.2.1 (F p0 0))) (90 * ((G.1 a 2).toInt) + 30 * ((G.1 a 3).toInt)) (90 * ((G.1 a 2).toInt) + 30 * ((G.1 a 4).toInt)) (p1.toInt) 30)) := t102
    exact x_ri hx hb hr hlk hQ (Nat.le_of_ble_eq_true rfl) (Nat.le_of_ble_eq_true rfl) hS dX7_state_105 () ⟨_, rfl, (z_X7_state_13 x102.toInt ((G.1 a 0).toInt) (hv (vw (G.2.1 (F p0 0))) (90 * ((G.1 a 2).toInt) + 30 * ((G.1 a 3).toInt)) (p1.toInt) 30) (smq (vw (G.2.1 (F p0 0))) (90 * ((G.1 a 2).toInt) + 30 * ((G.1 a 3).toInt)) (90 * ((G.1 a 2).toInt) + 30 * ((G.1 a 4).toInt)) (p1.toInt) 30) (stt (vw (G.2.1 (F p0 0))) ((G.1 a 0).toInt) ((G.1 a 2).toInt) ((G.1 a 3).toInt) ((G.1 a 4).toInt) (p1.toInt)) (z0a).2.2.1 c4 t102)⟩ hh
  · refine lv_tableIn (off := 50) (tgt := 54) hx hb dX7_state_4 (by rw [c4]; decide) (by rw [c4]; decide) (by rw [c4]; rfl) (by decide) ?_
    refine lv_iconst (v := 2) hx hb dX7_state_54 (by decide) ?_
    refine lv_aload_n hx hb dX7_state_55 rfl (lv_at hl 1 rfl) ?_
    refine lv_aload_n hx hb dX7_state_56 rfl (lv_at hl 0 rfl) ?_
    refine gX7_2 S hK hT ha kf_X7_39 dX7_state_57 (v := (G.1 a 2)) rfl (?_)
    refine lv_aload_n hx hb dX7_state_60 rfl (lv_at hl 0 rfl) ?_
    refine gX7_3 S hK hT ha kf_X7_42 dX7_state_61 (v := (G.1 a 3)) rfl (?_)
    refine lv_iload_n hx hb dX7_state_64 rfl (lv_at hl 2 rfl) ?_
    refine x_clp (x_runV (b := p0) (As := [.int (G.1 a 2), .int (G.1 a 3), .int p1]) (rest := [.int 2]) S (c_X6_having l E K F G s.heap p0 (G.1 a 2) (G.1 a 3) p1 hp0 (z_X7_state_3 ((G.1 a 2).toInt) ((G.1 a 3).toInt) (z0).2.1 (z0).2.2.1)) mv_X6_having km_X7_45 rfl rfl ⟨Nat.le_of_ble_eq_true rfl, Nat.le_of_ble_eq_true rfl⟩ (rc_8 hK hT hp0) hK (fun _ => XPh.blind) (fun U hU hW => XPh.at hK hz hS hT hU hW) rfl hl.1 (Nat.le_of_ble_eq_true rfl) dX7_state_65 ⟨Nat.le_of_ble_eq_true rfl, Nat.le_of_ble_eq_true rfl⟩) hS ?_
    rintro _ _ locs ⟨x65, rfl, t65⟩ hS
    have t65 : x65.toInt = (hv (vw (G.2.1 (F p0 0))) (90 * ((G.1 a 2).toInt) + 30 * ((G.1 a 3).toInt)) (p1.toInt) 30) := t65
    refine xi_imul hx hb ((by decide) : Int32.toInt 2 = (2 : Int)) (t65 : Int32.toInt x65 = (hv (vw (G.2.1 (F p0 0))) (90 * ((G.1 a 2).toInt) + 30 * ((G.1 a 3).toInt)) (p1.toInt) 30)) dX7_state_68 (fun x68 t68 => ?_)
    have e68 : x68.toInt = ((2 : Int) * (hv (vw (G.2.1 (F p0 0))) (90 * ((G.1 a 2).toInt) + 30 * ((G.1 a 3).toInt)) (p1.toInt) 30)) := (z_X7_state_6 x68.toInt (hv (vw (G.2.1 (F p0 0))) (90 * ((G.1 a 2).toInt) + 30 * ((G.1 a 3).toInt)) (p1.toInt) 30) z0b t68)
    refine lv_aload_n hx hb dX7_state_69 rfl (lv_at hl 1 rfl) ?_
    refine lv_aload_n hx hb dX7_state_70 rfl (lv_at hl 0 rfl) ?_
    refine gX7_4 S hK hT ha kf_X7_15 dX7_state_71 (v := (G.1 a 4)) rfl (?_)
    refine lv_iload_n hx hb dX7_state_74 rfl (lv_at hl 2 rfl) ?_
    refine x_clp (x_runV (b := p0) (As := [.int (G.1 a 4), .int p1]) (rest := [.int x68]) S (c_X6_has l E K F G s.heap p0 (G.1 a 4) p1 hp0 (v_X7_state_75_3 p0 G hro)) mv_X6_has km_X7_51 rfl rfl ⟨Nat.le_of_ble_eq_true rfl, Nat.le_of_ble_eq_true rfl⟩ (rc_8 hK hT hp0) hK (fun _ => XPh.blind) (fun U hU hW => XPh.at hK hz hS hT hU hW) rfl hl.1 (Nat.le_of_ble_eq_true rfl) dX7_state_75 ⟨Nat.le_of_ble_eq_true rfl, Nat.le_of_ble_eq_true rfl⟩) hS ?_
    rintro _ _ locs ⟨x75, rfl, b75, t75⟩ hS
    have t75 : (x75.toInt = 1 ∧ (cel (vw (G.2.1 (F p0 0))) ((G.1 a 4).toInt) (p1.toInt) 0) ≠ -2000) ∨ (x75.toInt = 0 ∧ (cel (vw (G.2.1 (F p0 0))) ((G.1 a 4).toInt) (p1.toInt) 0) = -2000) := t75
    refine xi_zeq (tgt := 85) hx hb (rfl : Int32.toInt x75 = x75.toInt) dX7_state_78 (by decide) (fun c78 => ?_) (fun c78 => ?_)
    · refine lv_iconst (v := 0) hx hb dX7_state_85 (by decide) ?_
      refine xi_iadd hx hb (e68 : Int32.toInt x68 = ((2 : Int) * (hv (vw (G.2.1 (F p0 0))) (90 * ((G.1 a 2).toInt) + 30 * ((G.1 a 3).toInt)) (p1.toInt) 30))) ((by decide) : Int32.toInt 0 = (0 : Int)) dX7_state_86 (fun x86 t86 => ?_)
      have e86 : x86.toInt = (((2 : Int) * (hv (vw (G.2.1 (F p0 0))) (90 * ((G.1 a 2).toInt) + 30 * ((G.1 a 3).toInt)) (p1.toInt) 30)) + (0 : Int)) := (z_X7_state_7 x86.toInt (hv (vw (G.2.1 (F p0 0))) (90 * ((G.1 a 2).toInt) + 30 * ((G.1 a 3).toInt)) (p1.toInt) 30) z0b t86)
      exact x_ri hx hb hr hlk hQ (Nat.le_of_ble_eq_true rfl) (Nat.le_of_ble_eq_true rfl) hS dX7_state_87 () ⟨_, rfl, (by rw [(e86 : Int32.toInt x86 = (((2 : Int) * (hv (vw (G.2.1 (F p0 0))) (90 * ((G.1 a 2).toInt) + 30 * ((G.1 a 3).toInt)) (p1.toInt) 30)) + (0 : Int)))] <;> exact (z_X7_state_17 x75.toInt ((G.1 a 0).toInt) (cel (vw (G.2.1 (F p0 0))) ((G.1 a 4).toInt) (p1.toInt) 0) (hv (vw (G.2.1 (F p0 0))) (90 * ((G.1 a 2).toInt) + 30 * ((G.1 a 3).toInt)) (p1.toInt) 30) (stt (vw (G.2.1 (F p0 0))) ((G.1 a 0).toInt) ((G.1 a 2).toInt) ((G.1 a 3).toInt) ((G.1 a 4).toInt) (p1.toInt)) (z0a).2.1 c4 t75 c78))⟩ hh
    · refine lv_iconst (v := 1) hx hb dX7_state_81 (by decide) ?_
      refine lv_goto (tgt := 86) hx hb dX7_state_82 (by decide) ?_
      refine xi_iadd hx hb (e68 : Int32.toInt x68 = ((2 : Int) * (hv (vw (G.2.1 (F p0 0))) (90 * ((G.1 a 2).toInt) + 30 * ((G.1 a 3).toInt)) (p1.toInt) 30))) ((by decide) : Int32.toInt 1 = (1 : Int)) dX7_state_86 (fun x86 t86 => ?_)
      have e86 : x86.toInt = (((2 : Int) * (hv (vw (G.2.1 (F p0 0))) (90 * ((G.1 a 2).toInt) + 30 * ((G.1 a 3).toInt)) (p1.toInt) 30)) + (1 : Int)) := (z_X7_state_9 x86.toInt (hv (vw (G.2.1 (F p0 0))) (90 * ((G.1 a 2).toInt) + 30 * ((G.1 a 3).toInt)) (p1.toInt) 30) z0b t86)
      exact x_ri hx hb hr hlk hQ (Nat.le_of_ble_eq_true rfl) (Nat.le_of_ble_eq_true rfl) hS dX7_state_87 () ⟨_, rfl, (by rw [(e86 : Int32.toInt x86 = (((2 : Int) * (hv (vw (G.2.1 (F p0 0))) (90 * ((G.1 a 2).toInt) + 30 * ((G.1 a 3).toInt)) (p1.toInt) 30)) + (1 : Int)))] <;> exact (z_X7_state_19 x75.toInt ((G.1 a 0).toInt) (cel (vw (G.2.1 (F p0 0))) ((G.1 a 4).toInt) (p1.toInt) 0) (hv (vw (G.2.1 (F p0 0))) (90 * ((G.1 a 2).toInt) + 30 * ((G.1 a 3).toInt)) (p1.toInt) 30) (stt (vw (G.2.1 (F p0 0))) ((G.1 a 0).toInt) ((G.1 a 2).toInt) ((G.1 a 3).toInt) ((G.1 a 4).toInt) (p1.toInt)) (z0a).2.1 c4 t75 c78))⟩ hh

theorem z_X7_fails_2 (a0 : Int) (a1 : Int) (a2 : Int) (a3 : Int) (h0 : 0 ≤ a1 ∧ a1 ≤ 5) (h1 : a1 < 0 ∨ 4 < a1) (h2 : a1 = 5 → a2 = a3) (h3 : a0 = a3) : a0 = a2 := by omega
theorem z_X7_fails_3 (a0 : Int) (a1 : Int) (a2 : Int) (h0 : a1 = 0) (h1 : a1 = 0 → (1 < a0 ∧ a2 = 1) ∨ (¬ (1 < a0) ∧ a2 = 0)) (h2 : a0 ≤ (1 : Int)) : (0 : Int) = a2 := by omega
theorem z_X7_fails_4 (a0 : Int) (a1 : Int) (a2 : Int) (h0 : a1 = 0) (h1 : a1 = 0 → (1 < a0 ∧ a2 = 1) ∨ (¬ (1 < a0) ∧ a2 = 0)) (h2 : ¬ (a0 ≤ (1 : Int))) : (1 : Int) = a2 := by omega
theorem z_X7_fails_5 (a0 : Int) (a1 : Int) (a2 : Int) (h0 : a1 = 1) (h1 : a1 = 1 → (1 < a0 ∧ a0 % 2 = 0 ∧ a2 = 1) ∨ (¬ (1 < a0 ∧ a0 % 2 = 0) ∧ a2 = 0)) (h2 : a0 ≤ (1 : Int)) : (0 : Int) = a2 := by omega
theorem z_X7_fails_6 (a0 : Int) (a1 : Int) (a2 : Int) (a3 : Int) (h0 : a2 = 1) (h1 : a2 = 1 → (1 < a0 ∧ a0 % 2 = 0 ∧ a3 = 1) ∨ (¬ (1 < a0 ∧ a0 % 2 = 0) ∧ a3 = 0)) (h2 : a1 = a0 % 2) (h3 : a1 ≠ 0) : (0 : Int) = a3 := by omega
theorem z_X7_fails_7 (a0 : Int) (a1 : Int) (a2 : Int) (a3 : Int) (h0 : a2 = 1) (h1 : a2 = 1 → (1 < a0 ∧ a0 % 2 = 0 ∧ a3 = 1) ∨ (¬ (1 < a0 ∧ a0 % 2 = 0) ∧ a3 = 0)) (h2 : ¬ (a0 ≤ (1 : Int))) (h3 : a1 = a0 % 2) (h4 : ¬ (a1 ≠ 0)) : (1 : Int) = a3 := by omega
theorem z_X7_fails_8 (a0 : Int) (a1 : Int) (a2 : Int) (a3 : Int) (a4 : Int) (h0 : a1 = 2) (h1 : a1 = 2 → ((a0 ≠ -2000 ∧ a0 ≠ -1000 ∧ (a0 < a2 ∨ a3 < a0)) ∧ a4 = 1) ∨ (¬ (a0 ≠ -2000 ∧ a0 ≠ -1000 ∧ (a0 < a2 ∨ a3 < a0)) ∧ a4 = 0)) (h2 : a0 = (-2000 : Int)) : (0 : Int) = a4 := by omega
theorem z_X7_fails_9 (a0 : Int) (a1 : Int) (a2 : Int) (a3 : Int) (a4 : Int) (h0 : a1 = 2) (h1 : a1 = 2 → ((a0 ≠ -2000 ∧ a0 ≠ -1000 ∧ (a0 < a2 ∨ a3 < a0)) ∧ a4 = 1) ∨ (¬ (a0 ≠ -2000 ∧ a0 ≠ -1000 ∧ (a0 < a2 ∨ a3 < a0)) ∧ a4 = 0)) (h2 : a0 = (-1000 : Int)) : (0 : Int) = a4 := by omega
theorem z_X7_fails_10 (a0 : Int) (a1 : Int) (a2 : Int) (a3 : Int) (a4 : Int) (a5 : Int) (h0 : a2 = 2) (h1 : a2 = 2 → ((a0 ≠ -2000 ∧ a0 ≠ -1000 ∧ (a0 < a3 ∨ a4 < a0)) ∧ a5 = 1) ∨ (¬ (a0 ≠ -2000 ∧ a0 ≠ -1000 ∧ (a0 < a3 ∨ a4 < a0)) ∧ a5 = 0)) (h2 : ((a0 < a3 ∨ a4 < a0) ∧ a1 = 1) ∨ (¬ (a0 < a3 ∨ a4 < a0) ∧ a1 = 0)) (h3 : a1 = 0) : (0 : Int) = a5 := by omega
theorem z_X7_fails_11 (a0 : Int) (a1 : Int) (a2 : Int) (a3 : Int) (a4 : Int) (a5 : Int) (h0 : a2 = 2) (h1 : a2 = 2 → ((a0 ≠ -2000 ∧ a0 ≠ -1000 ∧ (a0 < a3 ∨ a4 < a0)) ∧ a5 = 1) ∨ (¬ (a0 ≠ -2000 ∧ a0 ≠ -1000 ∧ (a0 < a3 ∨ a4 < a0)) ∧ a5 = 0)) (h2 : ¬ (a0 = (-2000 : Int))) (h3 : ¬ (a0 = (-1000 : Int))) (h4 : ((a0 < a3 ∨ a4 < a0) ∧ a1 = 1) ∨ (¬ (a0 < a3 ∨ a4 < a0) ∧ a1 = 0)) (h5 : ¬ (a1 = 0)) : (1 : Int) = a5 := by omega
theorem z_X7_fails_12 (a0 : Int) (a1 : Int) (a2 : Int) (a3 : Int) (a4 : Int) (h0 : a1 = 3) (h1 : a1 = 3 → ((a0 ≠ 100000 ∧ (a0 < a2 ∨ a3 < a0)) ∧ a4 = 1) ∨ (¬ (a0 ≠ 100000 ∧ (a0 < a2 ∨ a3 < a0)) ∧ a4 = 0)) (h2 : a0 = (100000 : Int)) : (0 : Int) = a4 := by omega
theorem z_X7_fails_13 (a0 : Int) (a1 : Int) (a2 : Int) (a3 : Int) (a4 : Int) (a5 : Int) (h0 : a2 = 3) (h1 : a2 = 3 → ((a0 ≠ 100000 ∧ (a0 < a3 ∨ a4 < a0)) ∧ a5 = 1) ∨ (¬ (a0 ≠ 100000 ∧ (a0 < a3 ∨ a4 < a0)) ∧ a5 = 0)) (h2 : ((a0 < a3 ∨ a4 < a0) ∧ a1 = 1) ∨ (¬ (a0 < a3 ∨ a4 < a0) ∧ a1 = 0)) (h3 : a1 = 0) : (0 : Int) = a5 := by omega
theorem z_X7_fails_14 (a0 : Int) (a1 : Int) (a2 : Int) (a3 : Int) (a4 : Int) (a5 : Int) (h0 : a2 = 3) (h1 : a2 = 3 → ((a0 ≠ 100000 ∧ (a0 < a3 ∨ a4 < a0)) ∧ a5 = 1) ∨ (¬ (a0 ≠ 100000 ∧ (a0 < a3 ∨ a4 < a0)) ∧ a5 = 0)) (h2 : ¬ (a0 = (100000 : Int))) (h3 : ((a0 < a3 ∨ a4 < a0) ∧ a1 = 1) ∨ (¬ (a0 < a3 ∨ a4 < a0) ∧ a1 = 0)) (h4 : ¬ (a1 = 0)) : (1 : Int) = a5 := by omega
theorem z_X7_fails_15 (a0 : Int) (a1 : Int) (a2 : Int) (a3 : Int) (a4 : Int) (a5 : Int) (h0 : a2 = 4) (h1 : a2 = 4 → ((a0 % 2 = 1 ∧ (a0 / 2 < a3 ∨ a4 < a0 / 2)) ∧ a5 = 1) ∨ (¬ (a0 % 2 = 1 ∧ (a0 / 2 < a3 ∨ a4 < a0 / 2)) ∧ a5 = 0)) (h2 : a1 = a0 % 2) (h3 : a1 ≠ (1 : Int)) : (0 : Int) = a5 := by omega
theorem z_X7_fails_16 (a0 : Int) (a1 : Int) (a2 : Int) (a3 : Int) (a4 : Int) (a5 : Int) (a6 : Int) (h0 : a3 = 4) (h1 : a3 = 4 → ((a0 % 2 = 1 ∧ (a0 / 2 < a4 ∨ a5 < a0 / 2)) ∧ a6 = 1) ∨ (¬ (a0 % 2 = 1 ∧ (a0 / 2 < a4 ∨ a5 < a0 / 2)) ∧ a6 = 0)) (h2 : a1 = a0 / 2) (h3 : ((a1 < a4 ∨ a5 < a1) ∧ a2 = 1) ∨ (¬ (a1 < a4 ∨ a5 < a1) ∧ a2 = 0)) (h4 : a2 = 0) : (0 : Int) = a6 := by omega
theorem z_X7_fails_17 (a0 : Int) (a1 : Int) (a2 : Int) (a3 : Int) (a4 : Int) (a5 : Int) (a6 : Int) (a7 : Int) (h0 : a4 = 4) (h1 : a4 = 4 → ((a0 % 2 = 1 ∧ (a0 / 2 < a5 ∨ a6 < a0 / 2)) ∧ a7 = 1) ∨ (¬ (a0 % 2 = 1 ∧ (a0 / 2 < a5 ∨ a6 < a0 / 2)) ∧ a7 = 0)) (h2 : a1 = a0 % 2) (h3 : ¬ (a1 ≠ (1 : Int))) (h4 : a2 = a0 / 2) (h5 : ((a2 < a5 ∨ a6 < a2) ∧ a3 = 1) ∨ (¬ (a2 < a5 ∨ a6 < a2) ∧ a3 = 0)) (h6 : ¬ (a3 = 0)) : (1 : Int) = a7 := by omega
abbrev rm_X7_fails : Room := { frames := 3, cells := 0, slots := 0, locals := 68 }
set_option maxHeartbeats 4000000 in
set_option maxRecDepth 100000 in
theorem c_X7_fails (l : Launch) (E : XE) (K : Nat → Nat) (F : Nat → Nat → Nat) (G : XG) (h0 : Heap) (a : Nat) (p0 : Nat) (p1 : Int32) (p2 : Int32) (ha : K a = 9) (hp0 : K p0 = 8) (hro : RO (vw (G.2.1 (F p0 0))) (aI (G.2.1 (F p0 1)))) (hrw : RW (G.1 a)) : Met l yX7_fails (xw yX7_fails cX7_fails 4 (some .boolean)) rm_X7_fails (va_Pc [.ref a, .ref p0, .int p1, .int p2] (XPh E K F G h0)) (XQ E (fun v (u : Unit) => ∃ r : Int32, v = .int r ∧ (r = 0 ∨ r = 1) ∧ (r.toInt = (flq (vw (G.2.1 (F p0 0))) ((G.1 a 0).toInt) ((G.1 a 2).toInt) ((G.1 a 3).toInt) ((G.1 a 5).toInt) ((G.1 a 6).toInt) (p1.toInt) (p2.toInt)))) (fun _ H => H = h0)) 0 0 (xA E) := by
  refine x_enter (by decide) (Nat.le_of_ble_eq_true rfl) ?_
  intro p e s m args below meth c Q S hr hlk hnm hQ hP ls hl
  obtain ⟨⟨hz, hK, hT⟩, hh⟩ := hP
  obtain ⟨hx, hb, -, -, -⟩ := id S
  have hS : va_S (xA E) s.heap s.heap [] := va_S.rf
  have hl : lv_has ls 4 [(0, .ref a), (1, .ref p0), (2, .int p1), (3, .int p2)] := hl
  obtain ⟨hk9999, hj9999⟩ := fkX6_0 hT hp0
  obtain ⟨hk9999a, hj9999a⟩ := fkX6_1 hT hp0
  have z0 : (0 ≤ ((G.1 a 0).toInt) ∧ ((G.1 a 0).toInt) ≤ 5) ∧ (0 ≤ ((G.1 a 2).toInt) ∧ ((G.1 a 2).toInt) ≤ 2) ∧ (0 ≤ ((G.1 a 3).toInt) ∧ ((G.1 a 3).toInt) ≤ 2) ∧ (-1 ≤ ((G.1 a 4).toInt) ∧ ((G.1 a 4).toInt) ≤ 2) ∧ (((G.1 a 0).toInt) = 1 ∨ ((G.1 a 0).toInt) = 3 ∨ ((G.1 a 0).toInt) = 4 → 0 ≤ ((G.1 a 4).toInt)) := RW.f hrw
  refine lv_aload_n hx hb dX7_fails_0 rfl (lv_at hl 0 rfl) ?_
  refine gX7_0 S hK hT ha kf_X7_21 dX7_fails_1 (v := (G.1 a 0)) rfl (?_)
  rcases ((z_X7_state_1 ((G.1 a 0).toInt)) : (((G.1 a 0).toInt) < 0 ∨ 4 < ((G.1 a 0).toInt)) ∨ (((G.1 a 0).toInt) = 0) ∨ (((G.1 a 0).toInt) = 1) ∨ (((G.1 a 0).toInt) = 2) ∨ (((G.1 a 0).toInt) = 3) ∨ (((G.1 a 0).toInt) = 4)) with c4 | c4 | c4 | c4 | c4 | c4
  · refine lv_tableOut (tgt := 139) hx hb dX7_fails_4 c4 (by decide) ?_
    have z139 : ((G.1 a 0).toInt) = 5 → (flq (vw (G.2.1 (F p0 0))) ((G.1 a 0).toInt) ((G.1 a 2).toInt) ((G.1 a 3).toInt) ((G.1 a 5).toInt) ((G.1 a 6).toInt) (p1.toInt) (p2.toInt)) = (rgq (vw (G.2.1 (F p0 0))) ((G.1 a 2).toInt) ((G.1 a 3).toInt) (p1.toInt) 30 (cel (vw (G.2.1 (F p0 0))) ((G.1 a 2).toInt) (p1.toInt) ((G.1 a 3).toInt))) := flq_k5
    refine lv_aload_n hx hb dX7_fails_139 rfl (lv_at hl 0 rfl) ?_
    refine lv_aload_n hx hb dX7_fails_140 rfl (lv_at hl 1 rfl) ?_
    refine lv_iload_n hx hb dX7_fails_141 rfl (lv_at hl 2 rfl) ?_
    refine x_clp (x_runV (b := a) (As := [.ref p0, .int p1]) (rest := []) S (c_X7_isOnRing l E K F G s.heap a p0 p1 ha hp0 (v_X7_fails_142_1 p0 G hro)) mv_X7_isOnRing km_X7_66 rfl rfl ⟨Nat.le_of_ble_eq_true rfl, Nat.le_of_ble_eq_true rfl⟩ (rc_9 hK hT ha) hK (fun _ => XPh.blind) (fun U hU hW => XPh.at hK hz hS hT hU hW) rfl hl.1 (Nat.le_of_ble_eq_true rfl) dX7_fails_142 ⟨Nat.le_of_ble_eq_true rfl, Nat.le_of_ble_eq_true rfl⟩) hS ?_
    rintro _ _ locs ⟨x142, rfl, b142, t142⟩ hS
    have t142 : x142.toInt = (rgq (vw (G.2.1 (F p0 0))) ((G.1 a 2).toInt) ((G.1 a 3).toInt) (p1.toInt) 30 (cel (vw (G.2.1 (F p0 0))) ((G.1 a 2).toInt) (p1.toInt) ((G.1 a 3).toInt))) := t142
    exact x_rz hx hb hr (xnz b142) hlk hQ (Nat.le_of_ble_eq_true rfl) (Nat.le_of_ble_eq_true rfl) hS dX7_fails_145 () ⟨_, rfl, b142, (z_X7_fails_2 x142.toInt ((G.1 a 0).toInt) (flq (vw (G.2.1 (F p0 0))) ((G.1 a 0).toInt) ((G.1 a 2).toInt) ((G.1 a 3).toInt) ((G.1 a 5).toInt) ((G.1 a 6).toInt) (p1.toInt) (p2.toInt)) (rgq (vw (G.2.1 (F p0 0))) ((G.1 a 2).toInt) ((G.1 a 3).toInt) (p1.toInt) 30 (cel (vw (G.2.1 (F p0 0))) ((G.1 a 2).toInt) (p1.toInt) ((G.1 a 3).toInt))) (z0).1 c4 z139 t142)⟩ hh
  · refine lv_tableIn (off := 36) (tgt := 40) hx hb dX7_fails_4 (by rw [c4]; decide) (by rw [c4]; decide) (by rw [c4]; rfl) (by decide) ?_
    have z40 : ((G.1 a 0).toInt) = 0 → (1 < p2.toInt ∧ (flq (vw (G.2.1 (F p0 0))) ((G.1 a 0).toInt) ((G.1 a 2).toInt) ((G.1 a 3).toInt) ((G.1 a 5).toInt) ((G.1 a 6).toInt) (p1.toInt) (p2.toInt)) = 1) ∨ (¬ (1 < p2.toInt) ∧ (flq (vw (G.2.1 (F p0 0))) ((G.1 a 0).toInt) ((G.1 a 2).toInt) ((G.1 a 3).toInt) ((G.1 a 5).toInt) ((G.1 a 6).toInt) (p1.toInt) (p2.toInt)) = 0) := flq_k0
    refine lv_iload_n hx hb dX7_fails_40 rfl (lv_at hl 3 rfl) ?_
    refine lv_iconst (v := 1) hx hb dX7_fails_41 (by decide) ?_
    refine xi_cle (tgt := 49) hx hb (rfl : Int32.toInt p2 = p2.toInt) ((by decide) : Int32.toInt 1 = (1 : Int)) dX7_fails_42 (by decide) (fun c42 => ?_) (fun c42 => ?_)
    · refine lv_iconst (v := 0) hx hb dX7_fails_49 (by decide) ?_
      exact x_rz hx hb hr (xnz (Or.inl rfl)) hlk hQ (Nat.le_of_ble_eq_true rfl) (Nat.le_of_ble_eq_true rfl) hS dX7_fails_50 () ⟨_, rfl, (Or.inl rfl), (z_X7_fails_3 p2.toInt ((G.1 a 0).toInt) (flq (vw (G.2.1 (F p0 0))) ((G.1 a 0).toInt) ((G.1 a 2).toInt) ((G.1 a 3).toInt) ((G.1 a 5).toInt) ((G.1 a 6).toInt) (p1.toInt) (p2.toInt)) c4 z40 c42)⟩ hh
    · refine lv_iconst (v := 1) hx hb dX7_fails_45 (by decide) ?_
      refine lv_goto (tgt := 50) hx hb dX7_fails_46 (by decide) ?_
      exact x_rz hx hb hr (xnz (Or.inr rfl)) hlk hQ (Nat.le_of_ble_eq_true rfl) (Nat.le_of_ble_eq_true rfl) hS dX7_fails_50 () ⟨_, rfl, (Or.inr rfl), (z_X7_fails_4 p2.toInt ((G.1 a 0).toInt) (flq (vw (G.2.1 (F p0 0))) ((G.1 a 0).toInt) ((G.1 a 2).toInt) ((G.1 a 3).toInt) ((G.1 a 5).toInt) ((G.1 a 6).toInt) (p1.toInt) (p2.toInt)) c4 z40 c42)⟩ hh
  · refine lv_tableIn (off := 47) (tgt := 51) hx hb dX7_fails_4 (by rw [c4]; decide) (by rw [c4]; decide) (by rw [c4]; rfl) (by decide) ?_
    have z51 : ((G.1 a 0).toInt) = 1 → (1 < p2.toInt ∧ p2.toInt % 2 = 0 ∧ (flq (vw (G.2.1 (F p0 0))) ((G.1 a 0).toInt) ((G.1 a 2).toInt) ((G.1 a 3).toInt) ((G.1 a 5).toInt) ((G.1 a 6).toInt) (p1.toInt) (p2.toInt)) = 1) ∨ (¬ (1 < p2.toInt ∧ p2.toInt % 2 = 0) ∧ (flq (vw (G.2.1 (F p0 0))) ((G.1 a 0).toInt) ((G.1 a 2).toInt) ((G.1 a 3).toInt) ((G.1 a 5).toInt) ((G.1 a 6).toInt) (p1.toInt) (p2.toInt)) = 0) := flq_k1
    refine lv_iload_n hx hb dX7_fails_51 rfl (lv_at hl 3 rfl) ?_
    refine lv_iconst (v := 1) hx hb dX7_fails_52 (by decide) ?_
    refine xi_cle (tgt := 66) hx hb (rfl : Int32.toInt p2 = p2.toInt) ((by decide) : Int32.toInt 1 = (1 : Int)) dX7_fails_53 (by decide) (fun c53 => ?_) (fun c53 => ?_)
    · refine lv_iconst (v := 0) hx hb dX7_fails_66 (by decide) ?_
      exact x_rz hx hb hr (xnz (Or.inl rfl)) hlk hQ (Nat.le_of_ble_eq_true rfl) (Nat.le_of_ble_eq_true rfl) hS dX7_fails_67 () ⟨_, rfl, (Or.inl rfl), (z_X7_fails_5 p2.toInt ((G.1 a 0).toInt) (flq (vw (G.2.1 (F p0 0))) ((G.1 a 0).toInt) ((G.1 a 2).toInt) ((G.1 a 3).toInt) ((G.1 a 5).toInt) ((G.1 a 6).toInt) (p1.toInt) (p2.toInt)) c4 z51 c53)⟩ hh
    · refine lv_iload_n hx hb dX7_fails_56 rfl (lv_at hl 3 rfl) ?_
      refine lv_iconst (v := 1) hx hb dX7_fails_57 (by decide) ?_
      refine lv_iand hx hb dX7_fails_58 (lv_topi (fun x58 he58 => ?_))
      have hb58 : x58.toInt = p2.toInt % 2 := x_and1 he58 (rfl : Int32.toInt p2 = p2.toInt)
      refine xi_zne (tgt := 66) hx hb (rfl : Int32.toInt x58 = x58.toInt) dX7_fails_59 (by decide) (fun c59 => ?_) (fun c59 => ?_)
      · refine lv_iconst (v := 0) hx hb dX7_fails_66 (by decide) ?_
        exact x_rz hx hb hr (xnz (Or.inl rfl)) hlk hQ (Nat.le_of_ble_eq_true rfl) (Nat.le_of_ble_eq_true rfl) hS dX7_fails_67 () ⟨_, rfl, (Or.inl rfl), (z_X7_fails_6 p2.toInt x58.toInt ((G.1 a 0).toInt) (flq (vw (G.2.1 (F p0 0))) ((G.1 a 0).toInt) ((G.1 a 2).toInt) ((G.1 a 3).toInt) ((G.1 a 5).toInt) ((G.1 a 6).toInt) (p1.toInt) (p2.toInt)) c4 z51 hb58 c59)⟩ hh
      · refine lv_iconst (v := 1) hx hb dX7_fails_62 (by decide) ?_
        refine lv_goto (tgt := 67) hx hb dX7_fails_63 (by decide) ?_
        exact x_rz hx hb hr (xnz (Or.inr rfl)) hlk hQ (Nat.le_of_ble_eq_true rfl) (Nat.le_of_ble_eq_true rfl) hS dX7_fails_67 () ⟨_, rfl, (Or.inr rfl), (z_X7_fails_7 p2.toInt x58.toInt ((G.1 a 0).toInt) (flq (vw (G.2.1 (F p0 0))) ((G.1 a 0).toInt) ((G.1 a 2).toInt) ((G.1 a 3).toInt) ((G.1 a 5).toInt) ((G.1 a 6).toInt) (p1.toInt) (p2.toInt)) c4 z51 c53 hb58 c59)⟩ hh
  · refine lv_tableIn (off := 64) (tgt := 68) hx hb dX7_fails_4 (by rw [c4]; decide) (by rw [c4]; decide) (by rw [c4]; rfl) (by decide) ?_
    have z68 : ((G.1 a 0).toInt) = 2 → ((p2.toInt ≠ -2000 ∧ p2.toInt ≠ -1000 ∧ (p2.toInt < ((G.1 a 5).toInt) ∨ ((G.1 a 6).toInt) < p2.toInt)) ∧ (flq (vw (G.2.1 (F p0 0))) ((G.1 a 0).toInt) ((G.1 a 2).toInt) ((G.1 a 3).toInt) ((G.1 a 5).toInt) ((G.1 a 6).toInt) (p1.toInt) (p2.toInt)) = 1) ∨ (¬ (p2.toInt ≠ -2000 ∧ p2.toInt ≠ -1000 ∧ (p2.toInt < ((G.1 a 5).toInt) ∨ ((G.1 a 6).toInt) < p2.toInt)) ∧ (flq (vw (G.2.1 (F p0 0))) ((G.1 a 0).toInt) ((G.1 a 2).toInt) ((G.1 a 3).toInt) ((G.1 a 5).toInt) ((G.1 a 6).toInt) (p1.toInt) (p2.toInt)) = 0) := flq_k2
    refine lv_iload_n hx hb dX7_fails_68 rfl (lv_at hl 3 rfl) ?_
    refine lv_sipush (v := (-2000)) hx hb dX7_fails_69 (by decide) ?_
    refine xi_ceq (tgt := 94) hx hb (rfl : Int32.toInt p2 = p2.toInt) ((by decide) : Int32.toInt (-2000) = (-2000 : Int)) dX7_fails_72 (by decide) (fun c72 => ?_) (fun c72 => ?_)
    · refine lv_iconst (v := 0) hx hb dX7_fails_94 (by decide) ?_
      exact x_rz hx hb hr (xnz (Or.inl rfl)) hlk hQ (Nat.le_of_ble_eq_true rfl) (Nat.le_of_ble_eq_true rfl) hS dX7_fails_95 () ⟨_, rfl, (Or.inl rfl), (z_X7_fails_8 p2.toInt ((G.1 a 0).toInt) ((G.1 a 5).toInt) ((G.1 a 6).toInt) (flq (vw (G.2.1 (F p0 0))) ((G.1 a 0).toInt) ((G.1 a 2).toInt) ((G.1 a 3).toInt) ((G.1 a 5).toInt) ((G.1 a 6).toInt) (p1.toInt) (p2.toInt)) c4 z68 c72)⟩ hh
    · refine lv_iload_n hx hb dX7_fails_75 rfl (lv_at hl 3 rfl) ?_
      refine lv_sipush (v := (-1000)) hx hb dX7_fails_76 (by decide) ?_
      refine xi_ceq (tgt := 94) hx hb (rfl : Int32.toInt p2 = p2.toInt) ((by decide) : Int32.toInt (-1000) = (-1000 : Int)) dX7_fails_79 (by decide) (fun c79 => ?_) (fun c79 => ?_)
      · refine lv_iconst (v := 0) hx hb dX7_fails_94 (by decide) ?_
        exact x_rz hx hb hr (xnz (Or.inl rfl)) hlk hQ (Nat.le_of_ble_eq_true rfl) (Nat.le_of_ble_eq_true rfl) hS dX7_fails_95 () ⟨_, rfl, (Or.inl rfl), (z_X7_fails_9 p2.toInt ((G.1 a 0).toInt) ((G.1 a 5).toInt) ((G.1 a 6).toInt) (flq (vw (G.2.1 (F p0 0))) ((G.1 a 0).toInt) ((G.1 a 2).toInt) ((G.1 a 3).toInt) ((G.1 a 5).toInt) ((G.1 a 6).toInt) (p1.toInt) (p2.toInt)) c4 z68 c79)⟩ hh
      · refine lv_aload_n hx hb dX7_fails_82 rfl (lv_at hl 0 rfl) ?_
        refine lv_iload_n hx hb dX7_fails_83 rfl (lv_at hl 3 rfl) ?_
        refine x_clp (x_runV (b := a) (As := [.int p2]) (rest := []) S (c_X7_isOutside l E K F G s.heap a p2 ha) mv_X7_isOutside km_X7_62 rfl rfl ⟨Nat.le_of_ble_eq_true rfl, Nat.le_of_ble_eq_true rfl⟩ (rc_9 hK hT ha) hK (fun _ => XPh.blind) (fun U hU hW => XPh.at hK hz hS hT hU hW) rfl hl.1 (Nat.le_of_ble_eq_true rfl) dX7_fails_84 ⟨Nat.le_of_ble_eq_true rfl, Nat.le_of_ble_eq_true rfl⟩) hS ?_
        rintro _ _ locs ⟨x84, rfl, b84, t84⟩ hS
        have t84 : ((p2.toInt < ((G.1 a 5).toInt) ∨ ((G.1 a 6).toInt) < p2.toInt) ∧ x84.toInt = 1) ∨ (¬ (p2.toInt < ((G.1 a 5).toInt) ∨ ((G.1 a 6).toInt) < p2.toInt) ∧ x84.toInt = 0) := t84
        refine xi_zeq (tgt := 94) hx hb (rfl : Int32.toInt x84 = x84.toInt) dX7_fails_87 (by decide) (fun c87 => ?_) (fun c87 => ?_)
        · refine lv_iconst (v := 0) hx hb dX7_fails_94 (by decide) ?_
          exact x_rz hx hb hr (xnz (Or.inl rfl)) hlk hQ (Nat.le_of_ble_eq_true rfl) (Nat.le_of_ble_eq_true rfl) hS dX7_fails_95 () ⟨_, rfl, (Or.inl rfl), (z_X7_fails_10 p2.toInt x84.toInt ((G.1 a 0).toInt) ((G.1 a 5).toInt) ((G.1 a 6).toInt) (flq (vw (G.2.1 (F p0 0))) ((G.1 a 0).toInt) ((G.1 a 2).toInt) ((G.1 a 3).toInt) ((G.1 a 5).toInt) ((G.1 a 6).toInt) (p1.toInt) (p2.toInt)) c4 z68 t84 c87)⟩ hh
        · refine lv_iconst (v := 1) hx hb dX7_fails_90 (by decide) ?_
          refine lv_goto (tgt := 95) hx hb dX7_fails_91 (by decide) ?_
          exact x_rz hx hb hr (xnz (Or.inr rfl)) hlk hQ (Nat.le_of_ble_eq_true rfl) (Nat.le_of_ble_eq_true rfl) hS dX7_fails_95 () ⟨_, rfl, (Or.inr rfl), (z_X7_fails_11 p2.toInt x84.toInt ((G.1 a 0).toInt) ((G.1 a 5).toInt) ((G.1 a 6).toInt) (flq (vw (G.2.1 (F p0 0))) ((G.1 a 0).toInt) ((G.1 a 2).toInt) ((G.1 a 3).toInt) ((G.1 a 5).toInt) ((G.1 a 6).toInt) (p1.toInt) (p2.toInt)) c4 z68 c72 c79 t84 c87)⟩ hh
  · refine lv_tableIn (off := 92) (tgt := 96) hx hb dX7_fails_4 (by rw [c4]; decide) (by rw [c4]; decide) (by rw [c4]; rfl) (by decide) ?_
    have z96 : ((G.1 a 0).toInt) = 3 → ((p2.toInt ≠ 100000 ∧ (p2.toInt < ((G.1 a 5).toInt) ∨ ((G.1 a 6).toInt) < p2.toInt)) ∧ (flq (vw (G.2.1 (F p0 0))) ((G.1 a 0).toInt) ((G.1 a 2).toInt) ((G.1 a 3).toInt) ((G.1 a 5).toInt) ((G.1 a 6).toInt) (p1.toInt) (p2.toInt)) = 1) ∨ (¬ (p2.toInt ≠ 100000 ∧ (p2.toInt < ((G.1 a 5).toInt) ∨ ((G.1 a 6).toInt) < p2.toInt)) ∧ (flq (vw (G.2.1 (F p0 0))) ((G.1 a 0).toInt) ((G.1 a 2).toInt) ((G.1 a 3).toInt) ((G.1 a 5).toInt) ((G.1 a 6).toInt) (p1.toInt) (p2.toInt)) = 0) := flq_k3
    refine lv_iload_n hx hb dX7_fails_96 rfl (lv_at hl 3 rfl) ?_
    refine lv_ldc (v := 100000) hx hb S.2.2.2.1 (S.2.2.2.2 _ (List.mem_cons_of_mem _ kc_X7_65)) dX7_fails_97 ?_
    refine xi_ceq (tgt := 114) hx hb (rfl : Int32.toInt p2 = p2.toInt) ((by decide) : Int32.toInt 100000 = (100000 : Int)) dX7_fails_99 (by decide) (fun c99 => ?_) (fun c99 => ?_)
    · refine lv_iconst (v := 0) hx hb dX7_fails_114 (by decide) ?_
      exact x_rz hx hb hr (xnz (Or.inl rfl)) hlk hQ (Nat.le_of_ble_eq_true rfl) (Nat.le_of_ble_eq_true rfl) hS dX7_fails_115 () ⟨_, rfl, (Or.inl rfl), (z_X7_fails_12 p2.toInt ((G.1 a 0).toInt) ((G.1 a 5).toInt) ((G.1 a 6).toInt) (flq (vw (G.2.1 (F p0 0))) ((G.1 a 0).toInt) ((G.1 a 2).toInt) ((G.1 a 3).toInt) ((G.1 a 5).toInt) ((G.1 a 6).toInt) (p1.toInt) (p2.toInt)) c4 z96 c99)⟩ hh
    · refine lv_aload_n hx hb dX7_fails_102 rfl (lv_at hl 0 rfl) ?_
      refine lv_iload_n hx hb dX7_fails_103 rfl (lv_at hl 3 rfl) ?_
      refine x_clp (x_runV (b := a) (As := [.int p2]) (rest := []) S (c_X7_isOutside l E K F G s.heap a p2 ha) mv_X7_isOutside km_X7_62 rfl rfl ⟨Nat.le_of_ble_eq_true rfl, Nat.le_of_ble_eq_true rfl⟩ (rc_9 hK hT ha) hK (fun _ => XPh.blind) (fun U hU hW => XPh.at hK hz hS hT hU hW) rfl hl.1 (Nat.le_of_ble_eq_true rfl) dX7_fails_104 ⟨Nat.le_of_ble_eq_true rfl, Nat.le_of_ble_eq_true rfl⟩) hS ?_
      rintro _ _ locs ⟨x104, rfl, b104, t104⟩ hS
      have t104 : ((p2.toInt < ((G.1 a 5).toInt) ∨ ((G.1 a 6).toInt) < p2.toInt) ∧ x104.toInt = 1) ∨ (¬ (p2.toInt < ((G.1 a 5).toInt) ∨ ((G.1 a 6).toInt) < p2.toInt) ∧ x104.toInt = 0) := t104
      refine xi_zeq (tgt := 114) hx hb (rfl : Int32.toInt x104 = x104.toInt) dX7_fails_107 (by decide) (fun c107 => ?_) (fun c107 => ?_)
      · refine lv_iconst (v := 0) hx hb dX7_fails_114 (by decide) ?_
        exact x_rz hx hb hr (xnz (Or.inl rfl)) hlk hQ (Nat.le_of_ble_eq_true rfl) (Nat.le_of_ble_eq_true rfl) hS dX7_fails_115 () ⟨_, rfl, (Or.inl rfl), (z_X7_fails_13 p2.toInt x104.toInt ((G.1 a 0).toInt) ((G.1 a 5).toInt) ((G.1 a 6).toInt) (flq (vw (G.2.1 (F p0 0))) ((G.1 a 0).toInt) ((G.1 a 2).toInt) ((G.1 a 3).toInt) ((G.1 a 5).toInt) ((G.1 a 6).toInt) (p1.toInt) (p2.toInt)) c4 z96 t104 c107)⟩ hh
      · refine lv_iconst (v := 1) hx hb dX7_fails_110 (by decide) ?_
        refine lv_goto (tgt := 115) hx hb dX7_fails_111 (by decide) ?_
        exact x_rz hx hb hr (xnz (Or.inr rfl)) hlk hQ (Nat.le_of_ble_eq_true rfl) (Nat.le_of_ble_eq_true rfl) hS dX7_fails_115 () ⟨_, rfl, (Or.inr rfl), (z_X7_fails_14 p2.toInt x104.toInt ((G.1 a 0).toInt) ((G.1 a 5).toInt) ((G.1 a 6).toInt) (flq (vw (G.2.1 (F p0 0))) ((G.1 a 0).toInt) ((G.1 a 2).toInt) ((G.1 a 3).toInt) ((G.1 a 5).toInt) ((G.1 a 6).toInt) (p1.toInt) (p2.toInt)) c4 z96 c99 t104 c107)⟩ hh
  · refine lv_tableIn (off := 112) (tgt := 116) hx hb dX7_fails_4 (by rw [c4]; decide) (by rw [c4]; decide) (by rw [c4]; rfl) (by decide) ?_
    have z116 : ((G.1 a 0).toInt) = 4 → ((p2.toInt % 2 = 1 ∧ (p2.toInt / 2 < ((G.1 a 5).toInt) ∨ ((G.1 a 6).toInt) < p2.toInt / 2)) ∧ (flq (vw (G.2.1 (F p0 0))) ((G.1 a 0).toInt) ((G.1 a 2).toInt) ((G.1 a 3).toInt) ((G.1 a 5).toInt) ((G.1 a 6).toInt) (p1.toInt) (p2.toInt)) = 1) ∨ (¬ (p2.toInt % 2 = 1 ∧ (p2.toInt / 2 < ((G.1 a 5).toInt) ∨ ((G.1 a 6).toInt) < p2.toInt / 2)) ∧ (flq (vw (G.2.1 (F p0 0))) ((G.1 a 0).toInt) ((G.1 a 2).toInt) ((G.1 a 3).toInt) ((G.1 a 5).toInt) ((G.1 a 6).toInt) (p1.toInt) (p2.toInt)) = 0) := flq_k4
    refine lv_iload_n hx hb dX7_fails_116 rfl (lv_at hl 3 rfl) ?_
    refine lv_iconst (v := 1) hx hb dX7_fails_117 (by decide) ?_
    refine lv_iand hx hb dX7_fails_118 (lv_topi (fun x118 he118 => ?_))
    have hb118 : x118.toInt = p2.toInt % 2 := x_and1 he118 (rfl : Int32.toInt p2 = p2.toInt)
    refine lv_iconst (v := 1) hx hb dX7_fails_119 (by decide) ?_
    refine xi_cne (tgt := 137) hx hb (rfl : Int32.toInt x118 = x118.toInt) ((by decide) : Int32.toInt 1 = (1 : Int)) dX7_fails_120 (by decide) (fun c120 => ?_) (fun c120 => ?_)
    · refine lv_iconst (v := 0) hx hb dX7_fails_137 (by decide) ?_
      exact x_rz hx hb hr (xnz (Or.inl rfl)) hlk hQ (Nat.le_of_ble_eq_true rfl) (Nat.le_of_ble_eq_true rfl) hS dX7_fails_138 () ⟨_, rfl, (Or.inl rfl), (z_X7_fails_15 p2.toInt x118.toInt ((G.1 a 0).toInt) ((G.1 a 5).toInt) ((G.1 a 6).toInt) (flq (vw (G.2.1 (F p0 0))) ((G.1 a 0).toInt) ((G.1 a 2).toInt) ((G.1 a 3).toInt) ((G.1 a 5).toInt) ((G.1 a 6).toInt) (p1.toInt) (p2.toInt)) c4 z116 hb118 c120)⟩ hh
    · refine lv_aload_n hx hb dX7_fails_123 rfl (lv_at hl 0 rfl) ?_
      refine lv_iload_n hx hb dX7_fails_124 rfl (lv_at hl 3 rfl) ?_
      refine lv_iconst (v := 1) hx hb dX7_fails_125 (by decide) ?_
      refine lv_ishr hx hb dX7_fails_126 (lv_topi (fun x126 he126 => ?_))
      have hb126 : x126.toInt = p2.toInt / 2 := x_shr1 he126 (rfl : Int32.toInt p2 = p2.toInt)
      refine x_clp (x_runV (b := a) (As := [.int x126]) (rest := []) S (c_X7_isOutside l E K F G s.heap a x126 ha) mv_X7_isOutside km_X7_62 rfl rfl ⟨Nat.le_of_ble_eq_true rfl, Nat.le_of_ble_eq_true rfl⟩ (rc_9 hK hT ha) hK (fun _ => XPh.blind) (fun U hU hW => XPh.at hK hz hS hT hU hW) rfl hl.1 (Nat.le_of_ble_eq_true rfl) dX7_fails_127 ⟨Nat.le_of_ble_eq_true rfl, Nat.le_of_ble_eq_true rfl⟩) hS ?_
      rintro _ _ locs ⟨x127, rfl, b127, t127⟩ hS
      have t127 : ((x126.toInt < ((G.1 a 5).toInt) ∨ ((G.1 a 6).toInt) < x126.toInt) ∧ x127.toInt = 1) ∨ (¬ (x126.toInt < ((G.1 a 5).toInt) ∨ ((G.1 a 6).toInt) < x126.toInt) ∧ x127.toInt = 0) := t127
      refine xi_zeq (tgt := 137) hx hb (rfl : Int32.toInt x127 = x127.toInt) dX7_fails_130 (by decide) (fun c130 => ?_) (fun c130 => ?_)
      · refine lv_iconst (v := 0) hx hb dX7_fails_137 (by decide) ?_
        exact x_rz hx hb hr (xnz (Or.inl rfl)) hlk hQ (Nat.le_of_ble_eq_true rfl) (Nat.le_of_ble_eq_true rfl) hS dX7_fails_138 () ⟨_, rfl, (Or.inl rfl), (z_X7_fails_16 p2.toInt x126.toInt x127.toInt ((G.1 a 0).toInt) ((G.1 a 5).toInt) ((G.1 a 6).toInt) (flq (vw (G.2.1 (F p0 0))) ((G.1 a 0).toInt) ((G.1 a 2).toInt) ((G.1 a 3).toInt) ((G.1 a 5).toInt) ((G.1 a 6).toInt) (p1.toInt) (p2.toInt)) c4 z116 hb126 t127 c130)⟩ hh
      · refine lv_iconst (v := 1) hx hb dX7_fails_133 (by decide) ?_
        refine lv_goto (tgt := 138) hx hb dX7_fails_134 (by decide) ?_
        exact x_rz hx hb hr (xnz (Or.inr rfl)) hlk hQ (Nat.le_of_ble_eq_true rfl) (Nat.le_of_ble_eq_true rfl) hS dX7_fails_138 () ⟨_, rfl, (Or.inr rfl), (z_X7_fails_17 p2.toInt x118.toInt x126.toInt x127.toInt ((G.1 a 0).toInt) ((G.1 a 5).toInt) ((G.1 a 6).toInt) (flq (vw (G.2.1 (F p0 0))) ((G.1 a 0).toInt) ((G.1 a 2).toInt) ((G.1 a 3).toInt) ((G.1 a 5).toInt) ((G.1 a 6).toInt) (p1.toInt) (p2.toInt)) c4 z116 hb118 c120 hb126 t127 c130)⟩ hh

