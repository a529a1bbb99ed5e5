abbrev rm_X5_isLetter : Room := { frames := 0, cells := 0, slots := 0, locals := 0 }
set_option maxHeartbeats 4000000 in
set_option maxRecDepth 100000 in
theorem c_X5_isLetter (l : Launch) (E : XE) (K : Nat → Nat) (F : Nat → Nat → Nat) (G : XG) (h0 : Heap) (p0 : Int32)  : Met l yX5_isLetter (xw yX5_isLetter cX5_isLetter 1 (some .boolean)) rm_X5_isLetter (va_Pc [.int p0] (XPh E K F G h0)) (XQ E (fun v (u : Unit) => ∃ r : Int32, v = .int r ∧ (r = 0 ∨ r = 1)) (fun _ H => H = h0)) 0 0 (xA E) := by
  refine x_enter (by decide) (Nat.le_of_ble_eq_true rfl) ?_
  intro p e s m args below meth c Q S hr hlk hnm hQ hP ls hl
  obtain ⟨⟨hz, hK, hT⟩, hh⟩ := hP
  obtain ⟨hx, hb, -, -, -⟩ := id S
  have hS : va_S (xA E) s.heap s.heap [] := va_S.rf
  have hl : lv_has ls 1 [(0, .int p0)] := hl
  refine lv_iload_n hx hb dX5_isLetter_0 rfl (lv_at hl 0 rfl) ?_
  refine lv_bipush (v := 97) hx hb dX5_isLetter_1 (by decide) ?_
  refine xi_clt (tgt := 16) hx hb (rfl : Int32.toInt p0 = p0.toInt) ((by decide) : Int32.toInt 97 = (97 : Int)) dX5_isLetter_3 (by decide) (fun c1 => ?_) (fun c1 => ?_)
  · refine lv_iconst (v := 0) hx hb dX5_isLetter_16 (by decide) ?_
    exact x_rz hx hb hr (xnz (Or.inl rfl)) hlk hQ (Nat.le_of_ble_eq_true rfl) (Nat.le_of_ble_eq_true rfl) hS dX5_isLetter_17 () ⟨_, rfl, (Or.inl rfl)⟩ hh
  · refine lv_iload_n hx hb dX5_isLetter_6 rfl (lv_at hl 0 rfl) ?_
    refine lv_bipush (v := 122) hx hb dX5_isLetter_7 (by decide) ?_
    refine xi_cgt (tgt := 16) hx hb (rfl : Int32.toInt p0 = p0.toInt) ((by decide) : Int32.toInt 122 = (122 : Int)) dX5_isLetter_9 (by decide) (fun c2 => ?_) (fun c2 => ?_)
    · refine lv_iconst (v := 0) hx hb dX5_isLetter_16 (by decide) ?_
      exact x_rz hx hb hr (xnz (Or.inl rfl)) hlk hQ (Nat.le_of_ble_eq_true rfl) (Nat.le_of_ble_eq_true rfl) hS dX5_isLetter_17 () ⟨_, rfl, (Or.inl rfl)⟩ hh
    · refine lv_iconst (v := 1) hx hb dX5_isLetter_12 (by decide) ?_
      refine lv_goto (tgt := 17) hx hb dX5_isLetter_13 (by decide) ?_
      exact x_rz hx hb hr (xnz (Or.inr rfl)) hlk hQ (Nat.le_of_ble_eq_true rfl) (Nat.le_of_ble_eq_true rfl) hS dX5_isLetter_17 () ⟨_, rfl, (Or.inr rfl)⟩ hh

abbrev rm_X5_isDigit : Room := { frames := 0, cells := 0, slots := 0, locals := 0 }
set_option maxHeartbeats 4000000 in
set_option maxRecDepth 100000 in
theorem c_X5_isDigit (l : Launch) (E : XE) (K : Nat → Nat) (F : Nat → Nat → Nat) (G : XG) (h0 : Heap) (p0 : Int32)  : Met l yX5_isDigit (xw yX5_isDigit cX5_isDigit 1 (some .boolean)) rm_X5_isDigit (va_Pc [.int p0] (XPh E K F G h0)) (XQ E (fun v (u : Unit) => ∃ r : Int32, v = .int r ∧ (r = 0 ∨ r = 1)) (fun _ H => H = h0)) 0 0 (xA E) := by
  refine x_enter (by decide) (Nat.le_of_ble_eq_true rfl) ?_
  intro p e s m args below meth c Q S hr hlk hnm hQ hP ls hl
  obtain ⟨⟨hz, hK, hT⟩, hh⟩ := hP
  obtain ⟨hx, hb, -, -, -⟩ := id S
  have hS : va_S (xA E) s.heap s.heap [] := va_S.rf
  have hl : lv_has ls 1 [(0, .int p0)] := hl
  refine lv_iload_n hx hb dX5_isDigit_0 rfl (lv_at hl 0 rfl) ?_
  refine lv_bipush (v := 48) hx hb dX5_isDigit_1 (by decide) ?_
  refine xi_clt (tgt := 16) hx hb (rfl : Int32.toInt p0 = p0.toInt) ((by decide) : Int32.toInt 48 = (48 : Int)) dX5_isDigit_3 (by decide) (fun c1 => ?_) (fun c1 => ?_)
  · refine lv_iconst (v := 0) hx hb dX5_isDigit_16 (by decide) ?_
    exact x_rz hx hb hr (xnz (Or.inl rfl)) hlk hQ (Nat.le_of_ble_eq_true rfl) (Nat.le_of_ble_eq_true rfl) hS dX5_isDigit_17 () ⟨_, rfl, (Or.inl rfl)⟩ hh
  · refine lv_iload_n hx hb dX5_isDigit_6 rfl (lv_at hl 0 rfl) ?_
    refine lv_bipush (v := 57) hx hb dX5_isDigit_7 (by decide) ?_
    refine xi_cgt (tgt := 16) hx hb (rfl : Int32.toInt p0 = p0.toInt) ((by decide) : Int32.toInt 57 = (57 : Int)) dX5_isDigit_9 (by decide) (fun c2 => ?_) (fun c2 => ?_)
    · refine lv_iconst (v := 0) hx hb dX5_isDigit_16 (by decide) ?_
      exact x_rz hx hb hr (xnz (Or.inl rfl)) hlk hQ (Nat.le_of_ble_eq_true rfl) (Nat.le_of_ble_eq_true rfl) hS dX5_isDigit_17 () ⟨_, rfl, (Or.inl rfl)⟩ hh
    · refine lv_iconst (v := 1) hx hb dX5_isDigit_12 (by decide) ?_
      refine lv_goto (tgt := 17) hx hb dX5_isDigit_13 (by decide) ?_
      exact x_rz hx hb hr (xnz (Or.inr rfl)) hlk hQ (Nat.le_of_ble_eq_true rfl) (Nat.le_of_ble_eq_true rfl) hS dX5_isDigit_17 () ⟨_, rfl, (Or.inr rfl)⟩ hh

theorem z_X5_advanceWord_1 (a0 : Int) (r0 : -2147483648 ≤ a0 ∧ a0 < 2147483648) : ¬ (2147483648 - a0 < ((0 : Nat) : Int)) := by omega
theorem z_X5_advanceWord_2 (a0 : Int) (a1 : Int) (a2 : Int) (a3 : Nat) (h0 : 2147483648 - a1 < ((a3 + 1 : Nat) : Int)) (h1 : ¬ (a0 ≤ a1)) (h2 : a2 = a1 + (1 : Int) ∨ a1 + (1 : Int) < -2147483648 ∨ 2147483648 ≤ a1 + (1 : Int)) (r0 : -2147483648 ≤ a0 ∧ a0 < 2147483648) (r1 : -2147483648 ≤ a1 ∧ a1 < 2147483648) (r2 : -2147483648 ≤ a2 ∧ a2 < 2147483648) : 2147483648 - a2 < ((a3 : Nat) : Int) := by omega
theorem z_X5_advanceWord_3 (a0 : Int) (r0 : -2147483648 ≤ a0 ∧ a0 < 2147483648) : 2147483648 - a0 < ((4294967297 : Nat) : Int) := by omega
abbrev rm_X5_advanceWord : Room := { frames := 1, cells := 0, slots := 0, locals := 21 }
set_option maxHeartbeats 4000000 in
set_option maxRecDepth 100000 in
theorem c_X5_advanceWord (l : Launch) (E : XE) (K : Nat → Nat) (F : Nat → Nat → Nat) (tl z0 z1 z2 z3 z4 z5 z6 z7 z8 z9 z10 z11 z12 z13 z14 z15 z16 z17 z18 z19 z20 : Int32) (ts : List (Nat → Int32)) (a : Nat) (ha : K a = 7) : Met l yX5_advanceWord (xw yX5_advanceWord cX5_advanceWord 1 none) rm_X5_advanceWord (va_Pc [.ref a] (XP E K F (tl, [z0, z1, z2, z3, z4, z5, z6, z7, z8, z9, z10, z11, z12, z13, z14, z15, z16, z17, z18, z19, z20], ts))) (XQv E (fun (u : Int32 × Int32 × Int32 × Int32 × Int32) => True) (fun u H => TW E K F (tl, [z0, z1, z2, z3, z4, z5, z6, z7, z8, z9, z10, z11, z12, z13, z14, z15, u.1, u.2.1, u.2.2.1, u.2.2.2.1, u.2.2.2.2], ts) [] H)) 0 0 (xA E) := by
  refine x_enter (by decide) (Nat.le_of_ble_eq_true rfl) ?_
  intro p e s m args below meth c Q S hr hlk hnm hQ hP ls hl
  obtain ⟨hz, hK, hT⟩ := hP
  obtain ⟨hx, hb, -, -, -⟩ := id S
  obtain ⟨H, hT, hS, hgo⟩ : ∃ H : Heap, TW E K F (tl, [z0, z1, z2, z3, z4, z5, z6, z7, z8, z9, z10, z11, z12, z13, z14, z15, z16, z17, z18, z19, z20], ts) [] H ∧ va_S (xA E) s.heap H [] ∧ H = s.heap := ⟨_, hT, va_S.rf, rfl⟩
  rw [← hgo]
  have hl : lv_has ls 1 [(0, .ref a)] := hl
  refine lv_aload_n hx hb dX5_advanceWord_0 rfl (lv_at hl 0 rfl) ?_
  refine lv_iconst (v := 1) hx hb dX5_advanceWord_1 (by decide) ?_
  refine pX5_1 (kq := []) (v := 1) S hK hT hS ha kf_X5_75 (Nat.le_of_ble_eq_true rfl) dX5_advanceWord_2 (fun _ h => by cases h) (fun H locs hT hS => ?_)
  have hT : TW E K F (tl, [z0, z1, z2, z3, z4, z5, z6, z7, z8, z9, z10, z11, z12, z13, z14, z15, 1, z17, z18, z19, z20], ts) [] H := hT
  have L5 : ∀ (N2 : Nat) (x1 : Int32) (H : Heap) (locs : List Loc) (ls : Array Slot), 2147483648 - x1.toInt < ((N2 : Nat) : Int) → TW E K F (tl, [z0, z1, z2, z3, z4, z5, z6, z7, z8, z9, z10, z11, z12, z13, z14, z15, 1, z17, x1, z19, z20], ts) [] H → va_S (xA E) s.heap H locs → lv_has ls 1 [(0, .ref a)] → W p l e rm_X5_advanceWord s m args below meth c H locs 0 0 Q (F0 m 5 ls []) := by
    intro N2
    induction N2 with
    | zero =>
      intro x1 H locs ls hm3
      exact absurd hm3 (z_X5_advanceWord_1 x1.toInt (xr x1))
    | succ N2 ih4 =>
      intro x1 H locs ls hm3 hT hS hl
      refine lv_aload_n hx hb dX5_advanceWord_5 rfl (lv_at hl 0 rfl) ?_
      refine gX5_3 S hK hT ha kf_X5_19 dX5_advanceWord_6 (v := x1) rfl ?_
      refine lv_aload_n hx hb dX5_advanceWord_9 rfl (lv_at hl 0 rfl) ?_
      refine gX5_0 S hK hT ha kf_X5_9 dX5_advanceWord_10 (fun hk5 => ?_)
      refine x_clp (x_runV (b := (F a 0)) (As := []) (rest := [.int x1]) S (c_X8_length l E K F tl [z0, z1, z2, z3, z4, z5, z6, z7, z8, z9, z10, z11, z12, z13, z14, z15, 1, z17, x1, z19, z20] ts H (F a 0) hk5) mv_X8_length km_X5_106 rfl rfl ⟨Nat.le_of_ble_eq_true rfl, Nat.le_of_ble_eq_true rfl⟩ (rc_10 hK hT hk5) hK (fun _ => XPh.blind) (fun U hU hW => XPh.at hK hz hS hT hU hW) rfl hl.1 (Nat.le_of_ble_eq_true rfl) dX5_advanceWord_13 ⟨Nat.le_of_ble_eq_true rfl, Nat.le_of_ble_eq_true rfl⟩) hS ?_
      rintro _ _ locs ⟨x9, rfl, h9⟩ hS
      have h9 := h9.symm
      subst h9
      refine xi_cge (tgt := 49) hx hb (rfl : Int32.toInt x1 = x1.toInt) (rfl : Int32.toInt tl = tl.toInt) dX5_advanceWord_16 (by decide) (fun c6 => ?_) (fun c6 => ?_)
      · exact x_rv hx hb hr hlk hQ (Nat.le_of_ble_eq_true rfl) (Nat.le_of_ble_eq_true rfl) hS dX5_advanceWord_49 (1, z17, x1, z19, z20) trivial hT.nil
      · refine lv_aload_n hx hb dX5_advanceWord_19 rfl (lv_at hl 0 rfl) ?_
        refine gX5_0 S hK hT ha kf_X5_9 dX5_advanceWord_20 (fun hk7 => ?_)
        refine lv_aload_n hx hb dX5_advanceWord_23 rfl (lv_at hl 0 rfl) ?_
        refine gX5_3 S hK hT ha kf_X5_19 dX5_advanceWord_24 (v := x1) rfl ?_
        refine x_clp (x_runV (b := (F a 0)) (As := [.int x1]) (rest := []) S (c_X8_signAt l E K F tl [z0, z1, z2, z3, z4, z5, z6, z7, z8, z9, z10, z11, z12, z13, z14, z15, 1, z17, x1, z19, z20] ts H (F a 0) x1 hk7) mv_X8_signAt km_X5_97 rfl rfl ⟨Nat.le_of_ble_eq_true rfl, Nat.le_of_ble_eq_true rfl⟩ (rc_10 hK hT hk7) hK (fun _ => XPh.blind) (fun U hU hW => XPh.at hK hz hS hT hU hW) rfl hl.1 (Nat.le_of_ble_eq_true rfl) dX5_advanceWord_27 ⟨Nat.le_of_ble_eq_true rfl, Nat.le_of_ble_eq_true rfl⟩) hS ?_
        rintro _ _ locs ⟨x8, rfl, o9⟩ hS
        refine x_clp (x_runS (As := [.int x8]) (rest := []) S (c_X5_isLetter l E K F (tl, [z0, z1, z2, z3, z4, z5, z6, z7, z8, z9, z10, z11, z12, z13, z14, z15, 1, z17, x1, z19, z20], ts) H x8) ms_X5_isLetter km_X5_107 rfl rfl ⟨Nat.le_of_ble_eq_true rfl, Nat.le_of_ble_eq_true rfl⟩ hK (fun _ => XPh.blind) (fun U hU hW => XPh.at hK hz hS hT hU hW) rfl hl.1 (Nat.le_of_ble_eq_true rfl) dX5_advanceWord_30 ⟨Nat.le_of_ble_eq_true rfl, Nat.le_of_ble_eq_true rfl⟩) hS ?_
        rintro _ _ locs ⟨x10, rfl, b11⟩ hS
        refine xi_zeq (tgt := 49) hx hb (rfl : Int32.toInt x10 = x10.toInt) dX5_advanceWord_33 (by decide) (fun c12 => ?_) (fun c12 => ?_)
        · exact x_rv hx hb hr hlk hQ (Nat.le_of_ble_eq_true rfl) (Nat.le_of_ble_eq_true rfl) hS dX5_advanceWord_49 (1, z17, x1, z19, z20) trivial hT.nil
        · refine lv_aload_n hx hb dX5_advanceWord_36 rfl (lv_at hl 0 rfl) ?_
          refine lv_dup hx hb dX5_advanceWord_37 rfl ?_
          refine gX5_3 S hK hT ha kf_X5_19 dX5_advanceWord_38 (v := x1) rfl ?_
          refine lv_iconst (v := 1) hx hb dX5_advanceWord_41 (by decide) ?_
          refine xi_iadd hx hb (rfl : Int32.toInt x1 = x1.toInt) ((by decide) : Int32.toInt 1 = (1 : Int)) dX5_advanceWord_42 (fun x13 t14 => ?_)
          refine pX5_3 (kq := []) (v := x13) S hK hT hS ha kf_X5_19 (Nat.le_of_ble_eq_true rfl) dX5_advanceWord_43 (fun _ h => by cases h) (fun H locs hT hS => ?_)
          have hT : TW E K F (tl, [z0, z1, z2, z3, z4, z5, z6, z7, z8, z9, z10, z11, z12, z13, z14, z15, 1, z17, x13, z19, z20], ts) [] H := hT
          refine lv_goto (tgt := 5) hx hb dX5_advanceWord_46 (by decide) ?_
          exact ih4 x13 _ _ _ (z_X5_advanceWord_2 tl.toInt x1.toInt x13.toInt N2 hm3 c6 t14 (xr tl) (xr x1) (xr x13)) hT.nil hS (lv_sub hl [0] rfl)
  exact L5 4294967297 z18 _ _ _ (z_X5_advanceWord_3 z18.toInt (xr z18)) hT.nil hS (lv_sub hl [0] rfl)

theorem z_X5_advanceNumber_1 (a0 : Int) (r0 : -2147483648 ≤ a0 ∧ a0 < 2147483648) : ¬ (2147483648 - a0 < ((0 : Nat) : Int)) := by omega
theorem z_X5_advanceNumber_2 (a0 : Int) (a1 : Int) (a2 : Int) (a3 : Nat) (h0 : 2147483648 - a2 < ((a3 + 1 : Nat) : Int)) (h1 : ¬ (a0 ≤ a2)) (h2 : a1 = a2 + (1 : Int) ∨ a2 + (1 : Int) < -2147483648 ∨ 2147483648 ≤ a2 + (1 : Int)) (r0 : -2147483648 ≤ a0 ∧ a0 < 2147483648) (r1 : -2147483648 ≤ a1 ∧ a1 < 2147483648) (r2 : -2147483648 ≤ a2 ∧ a2 < 2147483648) : 2147483648 - a1 < ((a3 : Nat) : Int) := by omega
theorem z_X5_advanceNumber_3 (a0 : Int) (r0 : -2147483648 ≤ a0 ∧ a0 < 2147483648) : 2147483648 - a0 < ((4294967297 : Nat) : Int) := by omega
abbrev rm_X5_advanceNumber : Room := { frames := 1, cells := 0, slots := 0, locals := 21 }
set_option maxHeartbeats 4000000 in
set_option maxRecDepth 100000 in
theorem c_X5_advanceNumber (l : Launch) (E : XE) (K : Nat → Nat) (F : Nat → Nat → Nat) (tl z0 z1 z2 z3 z4 z5 z6 z7 z8 z9 z10 z11 z12 z13 z14 z15 z16 z17 z18 z19 z20 : Int32) (ts : List (Nat → Int32)) (a : Nat) (ha : K a = 7) : Met l yX5_advanceNumber (xw yX5_advanceNumber cX5_advanceNumber 4 none) rm_X5_advanceNumber (va_Pc [.ref a] (XP E K F (tl, [z0, z1, z2, z3, z4, z5, z6, z7, z8, z9, z10, z11, z12, z13, z14, z15, z16, z17, z18, z19, z20], ts))) (XQv E (fun (u : Int32 × Int32 × Int32 × Int32 × Int32) => True) (fun u H => TW E K F (tl, [z0, z1, z2, z3, z4, z5, z6, z7, z8, z9, z10, z11, z12, z13, z14, z15, u.1, u.2.1, u.2.2.1, u.2.2.2.1, u.2.2.2.2], ts) [] H)) 0 0 (xA E) := by
  refine x_enter (by decide) (Nat.le_of_ble_eq_true rfl) ?_
  intro p e s m args below meth c Q S hr hlk hnm hQ hP ls hl
  obtain ⟨hz, hK, hT⟩ := hP
  obtain ⟨hx, hb, -, -, -⟩ := id S
  obtain ⟨H, hT, hS, hgo⟩ : ∃ H : Heap, TW E K F (tl, [z0, z1, z2, z3, z4, z5, z6, z7, z8, z9, z10, z11, z12, z13, z14, z15, z16, z17, z18, z19, z20], ts) [] H ∧ va_S (xA E) s.heap H [] ∧ H = s.heap := ⟨_, hT, va_S.rf, rfl⟩
  rw [← hgo]
  have hl : lv_has ls 4 [(0, .ref a)] := hl
  refine lv_aload_n hx hb dX5_advanceNumber_0 rfl (lv_at hl 0 rfl) ?_
  refine gX5_0 S hK hT ha kf_X5_9 dX5_advanceNumber_1 (fun hk1 => ?_)
  refine lv_aload_n hx hb dX5_advanceNumber_4 rfl (lv_at hl 0 rfl) ?_
  refine gX5_2 S hK hT ha kf_X5_78 dX5_advanceNumber_5 (v := z17) rfl ?_
  refine x_clp (x_runV (b := (F a 0)) (As := [.int z17]) (rest := []) S (c_X8_signAt l E K F tl [z0, z1, z2, z3, z4, z5, z6, z7, z8, z9, z10, z11, z12, z13, z14, z15, z16, z17, z18, z19, z20] ts H (F a 0) z17 hk1) mv_X8_signAt km_X5_97 rfl rfl ⟨Nat.le_of_ble_eq_true rfl, Nat.le_of_ble_eq_true rfl⟩ (rc_10 hK hT hk1) hK (fun _ => XPh.blind) (fun U hU hW => XPh.at hK hz hS hT hU hW) rfl hl.1 (Nat.le_of_ble_eq_true rfl) dX5_advanceNumber_8 ⟨Nat.le_of_ble_eq_true rfl, Nat.le_of_ble_eq_true rfl⟩) hS ?_
  rintro _ _ locs ⟨x2, rfl, o3⟩ hS
  refine lv_bipush (v := 45) hx hb dX5_advanceNumber_11 (by decide) ?_
  have J21 : ∀ (x4 : Int32) (H : Heap) (locs : List Loc) (ls : Array Slot), TW E K F (tl, [z0, z1, z2, z3, z4, z5, z6, z7, z8, z9, z10, z11, z12, z13, z14, z15, z16, z17, z18, z19, z20], ts) [] H → va_S (xA E) s.heap H locs → lv_has ls 4 [(0, .ref a)] → W p l e rm_X5_advanceNumber s m args below meth c H locs 0 0 Q (F0 m 21 ls [.int x4]) := by
    intro x4 H locs ls hT hS hl
    refine lv_istore_n (lv' := [(1, .int x4), (0, .ref a)]) hx hb dX5_advanceNumber_21 rfl hl (by decide) rfl (fun ls hl => ?_)
    refine lv_iconst (v := 0) hx hb dX5_advanceNumber_22 (by decide) ?_
    refine lv_istore_n (lv' := [(2, .int 0), (1, .int x4), (0, .ref a)]) hx hb dX5_advanceNumber_23 rfl hl (by decide) rfl (fun ls hl => ?_)
    refine lv_iconst (v := 0) hx hb dX5_advanceNumber_24 (by decide) ?_
    refine lv_istore_n (lv' := [(3, .int 0), (2, .int 0), (1, .int x4), (0, .ref a)]) hx hb dX5_advanceNumber_25 rfl hl (by decide) rfl (fun ls hl => ?_)
    refine lv_aload_n hx hb dX5_advanceNumber_26 rfl (lv_at hl 3 rfl) ?_
    refine lv_iload_n hx hb dX5_advanceNumber_27 rfl (lv_at hl 2 rfl) ?_
    have J44 : ∀ (x5 : Int32) (H : Heap) (locs : List Loc) (ls : Array Slot), TW E K F (tl, [z0, z1, z2, z3, z4, z5, z6, z7, z8, z9, z10, z11, z12, z13, z14, z15, z16, z17, z18, z19, z20], ts) [] H → va_S (xA E) s.heap H locs → lv_has ls 4 [(0, .ref a), (1, .int x4), (2, .int 0), (3, .int 0)] → W p l e rm_X5_advanceNumber s m args below meth c H locs 0 0 Q (F0 m 44 ls [.int x5, .ref a]) := by
      intro x5 H locs ls hT hS hl
      refine pX5_3 (kq := []) (v := x5) S hK hT hS ha kf_X5_19 (Nat.le_of_ble_eq_true rfl) dX5_advanceNumber_44 (fun _ h => by cases h) (fun H locs hT hS => ?_)
      have hT : TW E K F (tl, [z0, z1, z2, z3, z4, z5, z6, z7, z8, z9, z10, z11, z12, z13, z14, z15, z16, z17, x5, z19, z20], ts) [] H := hT
      have L47 : ∀ (N9 : Nat) (x6 : Int32) (x7 : Int32) (x8 : Int32) (H : Heap) (locs : List Loc) (ls : Array Slot), 2147483648 - x8.toInt < ((N9 : Nat) : Int) → TW E K F (tl, [z0, z1, z2, z3, z4, z5, z6, z7, z8, z9, z10, z11, z12, z13, z14, z15, z16, z17, x8, z19, z20], ts) [] H → va_S (xA E) s.heap H locs → lv_has ls 4 [(0, .ref a), (1, .int x4), (2, .int x6), (3, .int x7)] → W p l e rm_X5_advanceNumber s m args below meth c H locs 0 0 Q (F0 m 47 ls []) := by
        intro N9
        induction N9 with
        | zero =>
          intro x6 x7 x8 H locs ls hm10
          exact absurd hm10 (z_X5_advanceNumber_1 x8.toInt (xr x8))
        | succ N9 ih11 =>
          intro x6 x7 x8 H locs ls hm10 hT hS hl
          refine lv_aload_n hx hb dX5_advanceNumber_47 rfl (lv_at hl 0 rfl) ?_
          refine gX5_3 S hK hT ha kf_X5_19 dX5_advanceNumber_48 (v := x8) rfl ?_
          refine lv_aload_n hx hb dX5_advanceNumber_51 rfl (lv_at hl 0 rfl) ?_
          refine gX5_0 S hK hT ha kf_X5_9 dX5_advanceNumber_52 (fun hk12 => ?_)
          refine x_clp (x_runV (b := (F a 0)) (As := []) (rest := [.int x8]) S (c_X8_length l E K F tl [z0, z1, z2, z3, z4, z5, z6, z7, z8, z9, z10, z11, z12, z13, z14, z15, z16, z17, x8, z19, z20] ts H (F a 0) hk12) mv_X8_length km_X5_106 rfl rfl ⟨Nat.le_of_ble_eq_true rfl, Nat.le_of_ble_eq_true rfl⟩ (rc_10 hK hT hk12) hK (fun _ => XPh.blind) (fun U hU hW => XPh.at hK hz hS hT hU hW) rfl hl.1 (Nat.le_of_ble_eq_true rfl) dX5_advanceNumber_55 ⟨Nat.le_of_ble_eq_true rfl, Nat.le_of_ble_eq_true rfl⟩) hS ?_
          rintro _ _ locs ⟨x9, rfl, h9⟩ hS
          have h9 := h9.symm
          subst h9
          have J119 : ∀ (H : Heap) (locs : List Loc) (ls : Array Slot), TW E K F (tl, [z0, z1, z2, z3, z4, z5, z6, z7, z8, z9, z10, z11, z12, z13, z14, z15, z16, z17, x8, z19, z20], ts) [] H → va_S (xA E) s.heap H locs → lv_has ls 4 [(0, .ref a), (1, .int x4), (2, .int x6), (3, .int x7)] → W p l e rm_X5_advanceNumber s m args below meth c H locs 0 0 Q (F0 m 119 ls []) := by
            intro H locs ls hT hS hl
            refine lv_aload_n hx hb dX5_advanceNumber_119 rfl (lv_at hl 0 rfl) ?_
            refine lv_iload_n hx hb dX5_advanceNumber_120 rfl (lv_at hl 3 rfl) ?_
            refine lv_iconst (v := 1) hx hb dX5_advanceNumber_121 (by decide) ?_
            have J135 : ∀ (x13 : Int32) (H : Heap) (locs : List Loc) (ls : Array Slot), TW E K F (tl, [z0, z1, z2, z3, z4, z5, z6, z7, z8, z9, z10, z11, z12, z13, z14, z15, z16, z17, x8, z19, z20], ts) [] H → va_S (xA E) s.heap H locs → lv_has ls 4 [(0, .ref a), (1, .int x4), (2, .int x6)] → W p l e rm_X5_advanceNumber s m args below meth c H locs 0 0 Q (F0 m 135 ls [.int x13, .ref a]) := by
              intro x13 H locs ls hT hS hl
              refine pX5_1 (kq := []) (v := x13) S hK hT hS ha kf_X5_75 (Nat.le_of_ble_eq_true rfl) dX5_advanceNumber_135 (fun _ h => by cases h) (fun H locs hT hS => ?_)
              have hT : TW E K F (tl, [z0, z1, z2, z3, z4, z5, z6, z7, z8, z9, z10, z11, z12, z13, z14, z15, x13, z17, x8, z19, z20], ts) [] H := hT
              refine lv_aload_n hx hb dX5_advanceNumber_138 rfl (lv_at hl 0 rfl) ?_
              refine lv_iload_n hx hb dX5_advanceNumber_139 rfl (lv_at hl 1 rfl) ?_
              refine xi_zeq (tgt := 148) hx hb (rfl : Int32.toInt x4 = x4.toInt) dX5_advanceNumber_140 (by decide) (fun c14 => ?_) (fun c14 => ?_)
              · refine lv_iload_n hx hb dX5_advanceNumber_148 rfl (lv_at hl 2 rfl) ?_
                refine pX5_4 (kq := []) (v := x6) S hK hT hS ha kf_X5_89 (Nat.le_of_ble_eq_true rfl) dX5_advanceNumber_149 (fun _ h => by cases h) (fun H locs hT hS => ?_)
                have hT : TW E K F (tl, [z0, z1, z2, z3, z4, z5, z6, z7, z8, z9, z10, z11, z12, z13, z14, z15, x13, z17, x8, x6, z20], ts) [] H := hT
                exact x_rv hx hb hr hlk hQ (Nat.le_of_ble_eq_true rfl) (Nat.le_of_ble_eq_true rfl) hS dX5_advanceNumber_152 (x13, z17, x8, x6, z20) trivial hT.nil
              · refine lv_iload_n hx hb dX5_advanceNumber_143 rfl (lv_at hl 2 rfl) ?_
                refine xi_ineg hx hb (rfl : Int32.toInt x6 = x6.toInt) dX5_advanceNumber_144 (fun x15 t16 => ?_)
                refine lv_goto (tgt := 149) hx hb dX5_advanceNumber_145 (by decide) ?_
                refine pX5_4 (kq := []) (v := x15) S hK hT hS ha kf_X5_89 (Nat.le_of_ble_eq_true rfl) dX5_advanceNumber_149 (fun _ h => by cases h) (fun H locs hT hS => ?_)
                have hT : TW E K F (tl, [z0, z1, z2, z3, z4, z5, z6, z7, z8, z9, z10, z11, z12, z13, z14, z15, x13, z17, x8, x15, z20], ts) [] H := hT
                exact x_rv hx hb hr hlk hQ (Nat.le_of_ble_eq_true rfl) (Nat.le_of_ble_eq_true rfl) hS dX5_advanceNumber_152 (x13, z17, x8, x15, z20) trivial hT.nil
            have J134 : ∀ (H : Heap) (locs : List Loc) (ls : Array Slot), TW E K F (tl, [z0, z1, z2, z3, z4, z5, z6, z7, z8, z9, z10, z11, z12, z13, z14, z15, z16, z17, x8, z19, z20], ts) [] H → va_S (xA E) s.heap H locs → lv_has ls 4 [(0, .ref a), (1, .int x4), (2, .int x6)] → W p l e rm_X5_advanceNumber s m args below meth c H locs 0 0 Q (F0 m 134 ls [.ref a]) := by
              intro H locs ls hT hS hl
              refine lv_iconst (v := 3) hx hb dX5_advanceNumber_134 (by decide) ?_
              exact J135 3 _ _ _ hT.nil hS (lv_sub hl [0, 1, 2] rfl)
            refine xi_clt (tgt := 134) hx hb (rfl : Int32.toInt x7 = x7.toInt) ((by decide) : Int32.toInt 1 = (1 : Int)) dX5_advanceNumber_122 (by decide) (fun c17 => ?_) (fun c17 => ?_)
            · exact J134 _ _ _ hT.nil hS (lv_sub hl [0, 1, 2] rfl)
            · refine lv_iload_n hx hb dX5_advanceNumber_125 rfl (lv_at hl 3 rfl) ?_
              refine lv_iconst (v := 4) hx hb dX5_advanceNumber_126 (by decide) ?_
              refine xi_cgt (tgt := 134) hx hb (rfl : Int32.toInt x7 = x7.toInt) ((by decide) : Int32.toInt 4 = (4 : Int)) dX5_advanceNumber_127 (by decide) (fun c18 => ?_) (fun c18 => ?_)
              · exact J134 _ _ _ hT.nil hS (lv_sub hl [0, 1, 2] rfl)
              · refine lv_iconst (v := 2) hx hb dX5_advanceNumber_130 (by decide) ?_
                refine lv_goto (tgt := 135) hx hb dX5_advanceNumber_131 (by decide) ?_
                exact J135 2 _ _ _ hT.nil hS (lv_sub hl [0, 1, 2] rfl)
          refine xi_cge (tgt := 119) hx hb (rfl : Int32.toInt x8 = x8.toInt) (rfl : Int32.toInt tl = tl.toInt) dX5_advanceNumber_58 (by decide) (fun c19 => ?_) (fun c19 => ?_)
          · exact J119 _ _ _ hT.nil hS (lv_sub hl [0, 1, 2, 3] rfl)
          · refine lv_aload_n hx hb dX5_advanceNumber_61 rfl (lv_at hl 0 rfl) ?_
            refine gX5_0 S hK hT ha kf_X5_9 dX5_advanceNumber_62 (fun hk20 => ?_)
            refine lv_aload_n hx hb dX5_advanceNumber_65 rfl (lv_at hl 0 rfl) ?_
            refine gX5_3 S hK hT ha kf_X5_19 dX5_advanceNumber_66 (v := x8) rfl ?_
            refine x_clp (x_runV (b := (F a 0)) (As := [.int x8]) (rest := []) S (c_X8_signAt l E K F tl [z0, z1, z2, z3, z4, z5, z6, z7, z8, z9, z10, z11, z12, z13, z14, z15, z16, z17, x8, z19, z20] ts H (F a 0) x8 hk20) mv_X8_signAt km_X5_97 rfl rfl ⟨Nat.le_of_ble_eq_true rfl, Nat.le_of_ble_eq_true rfl⟩ (rc_10 hK hT hk20) hK (fun _ => XPh.blind) (fun U hU hW => XPh.at hK hz hS hT hU hW) rfl hl.1 (Nat.le_of_ble_eq_true rfl) dX5_advanceNumber_69 ⟨Nat.le_of_ble_eq_true rfl, Nat.le_of_ble_eq_true rfl⟩) hS ?_
            rintro _ _ locs ⟨x21, rfl, o22⟩ hS
            refine x_clp (x_runS (As := [.int x21]) (rest := []) S (c_X5_isDigit l E K F (tl, [z0, z1, z2, z3, z4, z5, z6, z7, z8, z9, z10, z11, z12, z13, z14, z15, z16, z17, x8, z19, z20], ts) H x21) ms_X5_isDigit km_X5_117 rfl rfl ⟨Nat.le_of_ble_eq_true rfl, Nat.le_of_ble_eq_true rfl⟩ hK (fun _ => XPh.blind) (fun U hU hW => XPh.at hK hz hS hT hU hW) rfl hl.1 (Nat.le_of_ble_eq_true rfl) dX5_advanceNumber_72 ⟨Nat.le_of_ble_eq_true rfl, Nat.le_of_ble_eq_true rfl⟩) hS ?_
            rintro _ _ locs ⟨x23, rfl, b24⟩ hS
            refine xi_zeq (tgt := 119) hx hb (rfl : Int32.toInt x23 = x23.toInt) dX5_advanceNumber_75 (by decide) (fun c25 => ?_) (fun c25 => ?_)
            · exact J119 _ _ _ hT.nil hS (lv_sub hl [0, 1, 2, 3] rfl)
            · refine lv_iload_n hx hb dX5_advanceNumber_78 rfl (lv_at hl 3 rfl) ?_
              refine lv_iconst (v := 4) hx hb dX5_advanceNumber_79 (by decide) ?_
              have J103 : ∀ (x26 : Int32) (H : Heap) (locs : List Loc) (ls : Array Slot), TW E K F (tl, [z0, z1, z2, z3, z4, z5, z6, z7, z8, z9, z10, z11, z12, z13, z14, z15, z16, z17, x8, z19, z20], ts) [] H → va_S (xA E) s.heap H locs → lv_has ls 4 [(0, .ref a), (1, .int x4), (2, .int x26), (3, .int x7)] → W p l e rm_X5_advanceNumber s m args below meth c H locs 0 0 Q (F0 m 103 ls []) := by
                intro x26 H locs ls hT hS hl
                refine xi_iinc (n := 1) (lv' := fun z9 => [(3, .int z9), (0, .ref a), (1, .int x4), (2, .int x26)]) (k := 3) hx hb (rfl : Int32.toInt x7 = x7.toInt) (by decide) dX5_advanceNumber_103 hl rfl (by decide) (fun _ => rfl) (fun x27 ls t28 hl => ?_)
                have hl : lv_has ls 4 [(3, .int x27), (0, .ref a), (1, .int x4), (2, .int x26)] := hl
                refine lv_aload_n hx hb dX5_advanceNumber_106 rfl (lv_at hl 1 rfl) ?_
                refine lv_dup hx hb dX5_advanceNumber_107 rfl ?_
                refine gX5_3 S hK hT ha kf_X5_19 dX5_advanceNumber_108 (v := x8) rfl ?_
                refine lv_iconst (v := 1) hx hb dX5_advanceNumber_111 (by decide) ?_
                refine xi_iadd hx hb (rfl : Int32.toInt x8 = x8.toInt) ((by decide) : Int32.toInt 1 = (1 : Int)) dX5_advanceNumber_112 (fun x29 t30 => ?_)
                refine pX5_3 (kq := []) (v := x29) S hK hT hS ha kf_X5_19 (Nat.le_of_ble_eq_true rfl) dX5_advanceNumber_113 (fun _ h => by cases h) (fun H locs hT hS => ?_)
                have hT : TW E K F (tl, [z0, z1, z2, z3, z4, z5, z6, z7, z8, z9, z10, z11, z12, z13, z14, z15, z16, z17, x29, z19, z20], ts) [] H := hT
                refine lv_goto (tgt := 47) hx hb dX5_advanceNumber_116 (by decide) ?_
                exact ih11 x26 x27 x29 _ _ _ (z_X5_advanceNumber_2 tl.toInt x29.toInt x8.toInt N9 hm10 c19 t30 (xr tl) (xr x29) (xr x8)) hT.nil hS (lv_sub hl [1, 2, 3, 0] rfl)
              refine xi_cge (tgt := 103) hx hb (rfl : Int32.toInt x7 = x7.toInt) ((by decide) : Int32.toInt 4 = (4 : Int)) dX5_advanceNumber_80 (by decide) (fun c31 => ?_) (fun c31 => ?_)
              · exact J103 x6 _ _ _ hT.nil hS (lv_sub hl [0, 1, 2, 3] rfl)
              · refine lv_iload_n hx hb dX5_advanceNumber_83 rfl (lv_at hl 2 rfl) ?_
                refine lv_bipush (v := 10) hx hb dX5_advanceNumber_84 (by decide) ?_
                refine xi_imul hx hb (rfl : Int32.toInt x6 = x6.toInt) ((by decide) : Int32.toInt 10 = (10 : Int)) dX5_advanceNumber_86 (fun x32 t33 => ?_)
                refine lv_aload_n hx hb dX5_advanceNumber_87 rfl (lv_at hl 0 rfl) ?_
                refine gX5_0 S hK hT ha kf_X5_9 dX5_advanceNumber_88 (fun hk34 => ?_)
                refine lv_aload_n hx hb dX5_advanceNumber_91 rfl (lv_at hl 0 rfl) ?_
                refine gX5_3 S hK hT ha kf_X5_19 dX5_advanceNumber_92 (v := x8) rfl ?_
                refine x_clp (x_runV (b := (F a 0)) (As := [.int x8]) (rest := [.int x32]) S (c_X8_signAt l E K F tl [z0, z1, z2, z3, z4, z5, z6, z7, z8, z9, z10, z11, z12, z13, z14, z15, z16, z17, x8, z19, z20] ts H (F a 0) x8 hk34) mv_X8_signAt km_X5_97 rfl rfl ⟨Nat.le_of_ble_eq_true rfl, Nat.le_of_ble_eq_true rfl⟩ (rc_10 hK hT hk34) hK (fun _ => XPh.blind) (fun U hU hW => XPh.at hK hz hS hT hU hW) rfl hl.1 (Nat.le_of_ble_eq_true rfl) dX5_advanceNumber_95 ⟨Nat.le_of_ble_eq_true rfl, Nat.le_of_ble_eq_true rfl⟩) hS ?_
                rintro _ _ locs ⟨x35, rfl, o36⟩ hS
                refine lv_bipush (v := 48) hx hb dX5_advanceNumber_98 (by decide) ?_
                refine xi_isub hx hb (rfl : Int32.toInt x35 = x35.toInt) ((by decide) : Int32.toInt 48 = (48 : Int)) dX5_advanceNumber_100 (fun x37 t38 => ?_)
                refine xi_iadd hx hb (rfl : Int32.toInt x32 = x32.toInt) (rfl : Int32.toInt x37 = x37.toInt) dX5_advanceNumber_101 (fun x39 t40 => ?_)
                refine lv_istore_n (lv' := [(2, .int x39), (0, .ref a), (1, .int x4), (3, .int x7)]) hx hb dX5_advanceNumber_102 rfl hl (by decide) rfl (fun ls hl => ?_)
                exact J103 x39 _ _ _ hT.nil hS (lv_sub hl [1, 2, 0, 3] rfl)
      exact L47 4294967297 0 0 x5 _ _ _ (z_X5_advanceNumber_3 x5.toInt (xr x5)) hT.nil hS (lv_sub hl [0, 1, 2, 3] rfl)
    refine xi_zeq (tgt := 40) hx hb (rfl : Int32.toInt x4 = x4.toInt) dX5_advanceNumber_28 (by decide) (fun c41 => ?_) (fun c41 => ?_)
    · refine lv_aload_n hx hb dX5_advanceNumber_40 rfl (lv_at hl 3 rfl) ?_
      refine gX5_2 S hK hT ha kf_X5_78 dX5_advanceNumber_41 (v := z17) rfl ?_
      exact J44 z17 _ _ _ hT.nil hS (lv_sub hl [3, 2, 1, 0] rfl)
    · refine lv_aload_n hx hb dX5_advanceNumber_31 rfl (lv_at hl 3 rfl) ?_
      refine gX5_2 S hK hT ha kf_X5_78 dX5_advanceNumber_32 (v := z17) rfl ?_
      refine lv_iconst (v := 1) hx hb dX5_advanceNumber_35 (by decide) ?_
      refine xi_iadd hx hb (rfl : Int32.toInt z17 = z17.toInt) ((by decide) : Int32.toInt 1 = (1 : Int)) dX5_advanceNumber_36 (fun x42 t43 => ?_)
      refine lv_goto (tgt := 44) hx hb dX5_advanceNumber_37 (by decide) ?_
      exact J44 x42 _ _ _ hT.nil hS (lv_sub hl [3, 2, 1, 0] rfl)
  refine xi_cne (tgt := 20) hx hb (rfl : Int32.toInt x2 = x2.toInt) ((by decide) : Int32.toInt 45 = (45 : Int)) dX5_advanceNumber_13 (by decide) (fun c44 => ?_) (fun c44 => ?_)
  · refine lv_iconst (v := 0) hx hb dX5_advanceNumber_20 (by decide) ?_
    exact J21 0 _ _ _ hT.nil hS (lv_sub hl [0] rfl)
  · refine lv_iconst (v := 1) hx hb dX5_advanceNumber_16 (by decide) ?_
    refine lv_goto (tgt := 21) hx hb dX5_advanceNumber_17 (by decide) ?_
    exact J21 1 _ _ _ hT.nil hS (lv_sub hl [0] rfl)

theorem z_X5_advance_1 (a0 : Int) (r0 : -2147483648 ≤ a0 ∧ a0 < 2147483648) : ¬ (2147483648 - a0 < ((0 : Nat) : Int)) := by omega
theorem z_X5_advance_2 (a0 : Int) (a1 : Int) (a2 : Int) (a3 : Nat) (h0 : 2147483648 - a1 < ((a3 + 1 : Nat) : Int)) (h1 : ¬ (a0 ≤ a1)) (h2 : a2 = a1 + (1 : Int) ∨ a1 + (1 : Int) < -2147483648 ∨ 2147483648 ≤ a1 + (1 : Int)) (r0 : -2147483648 ≤ a0 ∧ a0 < 2147483648) (r1 : -2147483648 ≤ a1 ∧ a1 < 2147483648) (r2 : -2147483648 ≤ a2 ∧ a2 < 2147483648) : 2147483648 - a2 < ((a3 : Nat) : Int) := by omega
theorem z_X5_advance_3 (a0 : Int) (r0 : -2147483648 ≤ a0 ∧ a0 < 2147483648) : 2147483648 - a0 < ((4294967297 : Nat) : Int) := by omega
abbrev rm_X5_advance : Room := { frames := 2, cells := 0, slots := 0, locals := 44 }
set_option maxHeartbeats 4000000 in
set_option maxRecDepth 100000 in
theorem c_X5_advance (l : Launch) (E : XE) (K : Nat → Nat) (F : Nat → Nat → Nat) (tl z0 z1 z2 z3 z4 z5 z6 z7 z8 z9 z10 z11 z12 z13 z14 z15 z16 z17 z18 z19 z20 : Int32) (ts : List (Nat → Int32)) (a : Nat) (ha : K a = 7) : Met l yX5_advance (xw yX5_advance cX5_advance 1 none) rm_X5_advance (va_Pc [.ref a] (XP E K F (tl, [z0, z1, z2, z3, z4, z5, z6, z7, z8, z9, z10, z11, z12, z13, z14, z15, z16, z17, z18, z19, z20], ts))) (XQv E (fun (u : Int32 × Int32 × Int32 × Int32 × Int32) => True) (fun u H => TW E K F (tl, [z0, z1, z2, z3, z4, z5, z6, z7, z8, z9, z10, z11, z12, z13, z14, z15, u.1, u.2.1, u.2.2.1, u.2.2.2.1, u.2.2.2.2], ts) [] H)) 0 0 (xA E) := by
  refine x_enter (by decide) (Nat.le_of_ble_eq_true rfl) ?_
  intro p e s m args below meth c Q S hr hlk hnm hQ hP ls hl
  obtain ⟨hz, hK, hT⟩ := hP
  obtain ⟨hx, hb, -, -, -⟩ := id S
  obtain ⟨H, hT, hS, hgo⟩ : ∃ H : Heap, TW E K F (tl, [z0, z1, z2, z3, z4, z5, z6, z7, z8, z9, z10, z11, z12, z13, z14, z15, z16, z17, z18, z19, z20], ts) [] H ∧ va_S (xA E) s.heap H [] ∧ H = s.heap := ⟨_, hT, va_S.rf, rfl⟩
  rw [← hgo]
  have hl : lv_has ls 1 [(0, .ref a)] := hl
  refine lv_aload_n hx hb dX5_advance_0 rfl (lv_at hl 0 rfl) ?_
  refine lv_aload_n hx hb dX5_advance_1 rfl (lv_at hl 0 rfl) ?_
  refine gX5_3 S hK hT ha kf_X5_19 dX5_advance_2 (v := z18) rfl ?_
  refine pX5_2 (kq := []) (v := z18) S hK hT hS ha kf_X5_78 (Nat.le_of_ble_eq_true rfl) dX5_advance_5 (fun _ h => by cases h) (fun H locs hT hS => ?_)
  have hT : TW E K F (tl, [z0, z1, z2, z3, z4, z5, z6, z7, z8, z9, z10, z11, z12, z13, z14, z15, z16, z18, z18, z19, z20], ts) [] H := hT
  have L8 : ∀ (N2 : Nat) (x1 : Int32) (H : Heap) (locs : List Loc) (ls : Array Slot), 2147483648 - x1.toInt < ((N2 : Nat) : Int) → TW E K F (tl, [z0, z1, z2, z3, z4, z5, z6, z7, z8, z9, z10, z11, z12, z13, z14, z15, z16, x1, z18, z19, z20], ts) [] H → va_S (xA E) s.heap H locs → lv_has ls 1 [(0, .ref a)] → W p l e rm_X5_advance s m args below meth c H locs 0 0 Q (F0 m 8 ls []) := by
    intro N2
    induction N2 with
    | zero =>
      intro x1 H locs ls hm3
      exact absurd hm3 (z_X5_advance_1 x1.toInt (xr x1))
    | succ N2 ih4 =>
      intro x1 H locs ls hm3 hT hS hl
      refine lv_aload_n hx hb dX5_advance_8 rfl (lv_at hl 0 rfl) ?_
      refine gX5_2 S hK hT ha kf_X5_78 dX5_advance_9 (v := x1) rfl ?_
      refine lv_aload_n hx hb dX5_advance_12 rfl (lv_at hl 0 rfl) ?_
      refine gX5_0 S hK hT ha kf_X5_9 dX5_advance_13 (fun hk5 => ?_)
      refine x_clp (x_runV (b := (F a 0)) (As := []) (rest := [.int x1]) S (c_X8_length l E K F tl [z0, z1, z2, z3, z4, z5, z6, z7, z8, z9, z10, z11, z12, z13, z14, z15, z16, x1, z18, z19, z20] ts H (F a 0) hk5) mv_X8_length km_X5_106 rfl rfl ⟨Nat.le_of_ble_eq_true rfl, Nat.le_of_ble_eq_true rfl⟩ (rc_10 hK hT hk5) hK (fun _ => XPh.blind) (fun U hU hW => XPh.at hK hz hS hT hU hW) rfl hl.1 (Nat.le_of_ble_eq_true rfl) dX5_advance_16 ⟨Nat.le_of_ble_eq_true rfl, Nat.le_of_ble_eq_true rfl⟩) hS ?_
      rintro _ _ locs ⟨x9, rfl, h9⟩ hS
      have h9 := h9.symm
      subst h9
      have J51 : ∀ (H : Heap) (locs : List Loc) (ls : Array Slot), TW E K F (tl, [z0, z1, z2, z3, z4, z5, z6, z7, z8, z9, z10, z11, z12, z13, z14, z15, z16, x1, z18, z19, z20], ts) [] H → va_S (xA E) s.heap H locs → lv_has ls 1 [(0, .ref a)] → W p l e rm_X5_advance s m args below meth c H locs 0 0 Q (F0 m 51 ls []) := by
        intro H locs ls hT hS hl
        refine lv_aload_n hx hb dX5_advance_51 rfl (lv_at hl 0 rfl) ?_
        refine lv_aload_n hx hb dX5_advance_52 rfl (lv_at hl 0 rfl) ?_
        refine gX5_2 S hK hT ha kf_X5_78 dX5_advance_53 (v := x1) rfl ?_
        refine pX5_3 (kq := []) (v := x1) S hK hT hS ha kf_X5_19 (Nat.le_of_ble_eq_true rfl) dX5_advance_56 (fun _ h => by cases h) (fun H locs hT hS => ?_)
        have hT : TW E K F (tl, [z0, z1, z2, z3, z4, z5, z6, z7, z8, z9, z10, z11, z12, z13, z14, z15, z16, x1, x1, z19, z20], ts) [] H := hT
        refine lv_aload_n hx hb dX5_advance_59 rfl (lv_at hl 0 rfl) ?_
        refine gX5_2 S hK hT ha kf_X5_78 dX5_advance_60 (v := x1) rfl ?_
        refine lv_aload_n hx hb dX5_advance_63 rfl (lv_at hl 0 rfl) ?_
        refine gX5_0 S hK hT ha kf_X5_9 dX5_advance_64 (fun hk6 => ?_)
        refine x_clp (x_runV (b := (F a 0)) (As := []) (rest := [.int x1]) S (c_X8_length l E K F tl [z0, z1, z2, z3, z4, z5, z6, z7, z8, z9, z10, z11, z12, z13, z14, z15, z16, x1, x1, z19, z20] ts H (F a 0) hk6) mv_X8_length km_X5_106 rfl rfl ⟨Nat.le_of_ble_eq_true rfl, Nat.le_of_ble_eq_true rfl⟩ (rc_10 hK hT hk6) hK (fun _ => XPh.blind) (fun U hU hW => XPh.at hK hz hS hT hU hW) rfl hl.1 (Nat.le_of_ble_eq_true rfl) dX5_advance_67 ⟨Nat.le_of_ble_eq_true rfl, Nat.le_of_ble_eq_true rfl⟩) hS ?_
        rintro _ _ locs ⟨x9, rfl, h9⟩ hS
        have h9 := h9.symm
        subst h9
        refine xi_clt (tgt := 81) hx hb (rfl : Int32.toInt x1 = x1.toInt) (rfl : Int32.toInt tl = tl.toInt) dX5_advance_70 (by decide) (fun c7 => ?_) (fun c7 => ?_)
        · refine lv_aload_n hx hb dX5_advance_81 rfl (lv_at hl 0 rfl) ?_
          refine gX5_0 S hK hT ha kf_X5_9 dX5_advance_82 (fun hk8 => ?_)
          refine lv_aload_n hx hb dX5_advance_85 rfl (lv_at hl 0 rfl) ?_
          refine gX5_2 S hK hT ha kf_X5_78 dX5_advance_86 (v := x1) rfl ?_
          refine x_clp (x_runV (b := (F a 0)) (As := [.int x1]) (rest := []) S (c_X8_signAt l E K F tl [z0, z1, z2, z3, z4, z5, z6, z7, z8, z9, z10, z11, z12, z13, z14, z15, z16, x1, x1, z19, z20] ts H (F a 0) x1 hk8) mv_X8_signAt km_X5_97 rfl rfl ⟨Nat.le_of_ble_eq_true rfl, Nat.le_of_ble_eq_true rfl⟩ (rc_10 hK hT hk8) hK (fun _ => XPh.blind) (fun U hU hW => XPh.at hK hz hS hT hU hW) rfl hl.1 (Nat.le_of_ble_eq_true rfl) dX5_advance_89 ⟨Nat.le_of_ble_eq_true rfl, Nat.le_of_ble_eq_true rfl⟩) hS ?_
          rintro _ _ locs ⟨x9, rfl, o10⟩ hS
          refine x_clp (x_runS (As := [.int x9]) (rest := []) S (c_X5_isLetter l E K F (tl, [z0, z1, z2, z3, z4, z5, z6, z7, z8, z9, z10, z11, z12, z13, z14, z15, z16, x1, x1, z19, z20], ts) H x9) ms_X5_isLetter km_X5_107 rfl rfl ⟨Nat.le_of_ble_eq_true rfl, Nat.le_of_ble_eq_true rfl⟩ hK (fun _ => XPh.blind) (fun U hU hW => XPh.at hK hz hS hT hU hW) rfl hl.1 (Nat.le_of_ble_eq_true rfl) dX5_advance_92 ⟨Nat.le_of_ble_eq_true rfl, Nat.le_of_ble_eq_true rfl⟩) hS ?_
          rintro _ _ locs ⟨x11, rfl, b12⟩ hS
          refine xi_zeq (tgt := 105) hx hb (rfl : Int32.toInt x11 = x11.toInt) dX5_advance_95 (by decide) (fun c13 => ?_) (fun c13 => ?_)
          · refine lv_aload_n hx hb dX5_advance_105 rfl (lv_at hl 0 rfl) ?_
            refine x_cv0 (x_runV (b := a) (As := []) (rest := []) S (c_X5_advanceNumber l E K F tl z0 z1 z2 z3 z4 z5 z6 z7 z8 z9 z10 z11 z12 z13 z14 z15 z16 x1 x1 z19 z20 ts a ha) mv_X5_advanceNumber km_X5_114 rfl rfl ⟨Nat.le_of_ble_eq_true rfl, Nat.le_of_ble_eq_true rfl⟩ (rc_7 hK hT ha) hK (fun _ => XP.blind) (fun U hU hW => XP.at hK hz hS hT hU hW) rfl hl.1 (Nat.le_of_ble_eq_true rfl) dX5_advance_106 ⟨Nat.le_of_ble_eq_true rfl, Nat.le_of_ble_eq_true rfl⟩) hS ?_
            rintro ⟨u14, u15, u16, u17, u18⟩ H locs - hT hS
            have hT : TW E K F (tl, [z0, z1, z2, z3, z4, z5, z6, z7, z8, z9, z10, z11, z12, z13, z14, z15, u14, u15, u16, u17, u18], ts) [] H := hT
            exact x_rv hx hb hr hlk hQ (Nat.le_of_ble_eq_true rfl) (Nat.le_of_ble_eq_true rfl) hS dX5_advance_109 (u14, u15, u16, u17, u18) trivial hT.nil
          · refine lv_aload_n hx hb dX5_advance_98 rfl (lv_at hl 0 rfl) ?_
            refine x_cv0 (x_runV (b := a) (As := []) (rest := []) S (c_X5_advanceWord l E K F tl z0 z1 z2 z3 z4 z5 z6 z7 z8 z9 z10 z11 z12 z13 z14 z15 z16 x1 x1 z19 z20 ts a ha) mv_X5_advanceWord km_X5_111 rfl rfl ⟨Nat.le_of_ble_eq_true rfl, Nat.le_of_ble_eq_true rfl⟩ (rc_7 hK hT ha) hK (fun _ => XP.blind) (fun U hU hW => XP.at hK hz hS hT hU hW) rfl hl.1 (Nat.le_of_ble_eq_true rfl) dX5_advance_99 ⟨Nat.le_of_ble_eq_true rfl, Nat.le_of_ble_eq_true rfl⟩) hS ?_
            rintro ⟨u20, u21, u22, u23, u24⟩ H locs - hT hS
            have hT : TW E K F (tl, [z0, z1, z2, z3, z4, z5, z6, z7, z8, z9, z10, z11, z12, z13, z14, z15, u20, u21, u22, u23, u24], ts) [] H := hT
            refine lv_goto (tgt := 109) hx hb dX5_advance_102 (by decide) ?_
            exact x_rv hx hb hr hlk hQ (Nat.le_of_ble_eq_true rfl) (Nat.le_of_ble_eq_true rfl) hS dX5_advance_109 (u20, u21, u22, u23, u24) trivial hT.nil
        · refine lv_aload_n hx hb dX5_advance_73 rfl (lv_at hl 0 rfl) ?_
          refine lv_iconst (v := 0) hx hb dX5_advance_74 (by decide) ?_
          refine pX5_1 (kq := []) (v := 0) S hK hT hS ha kf_X5_75 (Nat.le_of_ble_eq_true rfl) dX5_advance_75 (fun _ h => by cases h) (fun H locs hT hS => ?_)
          have hT : TW E K F (tl, [z0, z1, z2, z3, z4, z5, z6, z7, z8, z9, z10, z11, z12, z13, z14, z15, 0, x1, x1, z19, z20], ts) [] H := hT
          refine lv_goto (tgt := 109) hx hb dX5_advance_78 (by decide) ?_
          exact x_rv hx hb hr hlk hQ (Nat.le_of_ble_eq_true rfl) (Nat.le_of_ble_eq_true rfl) hS dX5_advance_109 (0, x1, x1, z19, z20) trivial hT.nil
      refine xi_cge (tgt := 51) hx hb (rfl : Int32.toInt x1 = x1.toInt) (rfl : Int32.toInt tl = tl.toInt) dX5_advance_19 (by decide) (fun c26 => ?_) (fun c26 => ?_)
      · exact J51 _ _ _ hT.nil hS (lv_sub hl [0] rfl)
      · refine lv_aload_n hx hb dX5_advance_22 rfl (lv_at hl 0 rfl) ?_
        refine gX5_0 S hK hT ha kf_X5_9 dX5_advance_23 (fun hk27 => ?_)
        refine lv_aload_n hx hb dX5_advance_26 rfl (lv_at hl 0 rfl) ?_
        refine gX5_2 S hK hT ha kf_X5_78 dX5_advance_27 (v := x1) rfl ?_
        refine x_clp (x_runV (b := (F a 0)) (As := [.int x1]) (rest := []) S (c_X8_signAt l E K F tl [z0, z1, z2, z3, z4, z5, z6, z7, z8, z9, z10, z11, z12, z13, z14, z15, z16, x1, z18, z19, z20] ts H (F a 0) x1 hk27) mv_X8_signAt km_X5_97 rfl rfl ⟨Nat.le_of_ble_eq_true rfl, Nat.le_of_ble_eq_true rfl⟩ (rc_10 hK hT hk27) hK (fun _ => XPh.blind) (fun U hU hW => XPh.at hK hz hS hT hU hW) rfl hl.1 (Nat.le_of_ble_eq_true rfl) dX5_advance_30 ⟨Nat.le_of_ble_eq_true rfl, Nat.le_of_ble_eq_true rfl⟩) hS ?_
        rintro _ _ locs ⟨x28, rfl, o29⟩ hS
        refine lv_bipush (v := 32) hx hb dX5_advance_33 (by decide) ?_
        refine xi_cne (tgt := 51) hx hb (rfl : Int32.toInt x28 = x28.toInt) ((by decide) : Int32.toInt 32 = (32 : Int)) dX5_advance_35 (by decide) (fun c30 => ?_) (fun c30 => ?_)
        · exact J51 _ _ _ hT.nil hS (lv_sub hl [0] rfl)
        · refine lv_aload_n hx hb dX5_advance_38 rfl (lv_at hl 0 rfl) ?_
          refine lv_dup hx hb dX5_advance_39 rfl ?_
          refine gX5_2 S hK hT ha kf_X5_78 dX5_advance_40 (v := x1) rfl ?_
          refine lv_iconst (v := 1) hx hb dX5_advance_43 (by decide) ?_
          refine xi_iadd hx hb (rfl : Int32.toInt x1 = x1.toInt) ((by decide) : Int32.toInt 1 = (1 : Int)) dX5_advance_44 (fun x31 t32 => ?_)
          refine pX5_2 (kq := []) (v := x31) S hK hT hS ha kf_X5_78 (Nat.le_of_ble_eq_true rfl) dX5_advance_45 (fun _ h => by cases h) (fun H locs hT hS => ?_)
          have hT : TW E K F (tl, [z0, z1, z2, z3, z4, z5, z6, z7, z8, z9, z10, z11, z12, z13, z14, z15, z16, x31, z18, z19, z20], ts) [] H := hT
          refine lv_goto (tgt := 8) hx hb dX5_advance_48 (by decide) ?_
          exact ih4 x31 _ _ _ (z_X5_advance_2 tl.toInt x1.toInt x31.toInt N2 hm3 c26 t32 (xr tl) (xr x1) (xr x31)) hT.nil hS (lv_sub hl [0] rfl)
  exact L8 4294967297 z18 _ _ _ (z_X5_advance_3 z18.toInt (xr z18)) hT.nil hS (lv_sub hl [0] rfl)

theorem z_X5_takeWord_1 (a0 : Int) (h0 : (0 : Int) ≤ a0) (r0 : -2147483648 ≤ a0 ∧ a0 < 2147483648) : ¬ (2147483648 - a0 < ((0 : Nat) : Int)) := by omega
theorem z_X5_takeWord_2 (a0 : Int) (a1 : Int) (a2 : Int) (a3 : Int) (a4 : Int) (a5 : Int) (a6 : Int) (a7 : Nat) (a8 : Nat) (h0 : a2 = a6 - a5 ∨ a6 - a5 < -2147483648 ∨ 2147483648 ≤ a6 - a5) (h1 : a3 = ((a8 : Nat) : Int)) (h2 : a2 = a3) (h3 : (0 : Int) ≤ a4) (h4 : 2147483648 - a4 < ((a7 + 1 : Nat) : Int)) (h5 : a0 = ((a8 : Nat) : Int)) (h6 : ¬ (a0 ≤ a4)) (h7 : a1 = a5 + a4 ∨ a5 + a4 < -2147483648 ∨ 2147483648 ≤ a5 + a4) (r0 : -2147483648 ≤ a0 ∧ a0 < 2147483648) (r1 : -2147483648 ≤ a1 ∧ a1 < 2147483648) (r2 : -2147483648 ≤ a2 ∧ a2 < 2147483648) (r3 : -2147483648 ≤ a3 ∧ a3 < 2147483648) (r4 : -2147483648 ≤ a4 ∧ a4 < 2147483648) (r5 : -2147483648 ≤ a5 ∧ a5 < 2147483648) (r6 : -2147483648 ≤ a6 ∧ a6 < 2147483648) : 0 ≤ a4 ∧ a4 < ((a8 : Nat) : Int) := by omega
theorem z_X5_takeWord_3 (a0 : Int) (a1 : Int) (a2 : Int) (a3 : Int) (a4 : Int) (a5 : Int) (a6 : Int) (a7 : Int) (a8 : Nat) (a9 : Nat) (h0 : a2 = a7 - a6 ∨ a7 - a6 < -2147483648 ∨ 2147483648 ≤ a7 - a6) (h1 : a4 = ((a9 : Nat) : Int)) (h2 : a2 = a4) (h3 : (0 : Int) ≤ a5) (h4 : 2147483648 - a5 < ((a8 + 1 : Nat) : Int)) (h5 : a0 = ((a9 : Nat) : Int)) (h6 : ¬ (a0 ≤ a5)) (h7 : a1 = a6 + a5 ∨ a6 + a5 < -2147483648 ∨ 2147483648 ≤ a6 + a5) (h8 : a3 = a5 + 1 ∨ a5 + 1 < -2147483648 ∨ 2147483648 ≤ a5 + 1) (r0 : -2147483648 ≤ a0 ∧ a0 < 2147483648) (r1 : -2147483648 ≤ a1 ∧ a1 < 2147483648) (r2 : -2147483648 ≤ a2 ∧ a2 < 2147483648) (r3 : -2147483648 ≤ a3 ∧ a3 < 2147483648) (r4 : -2147483648 ≤ a4 ∧ a4 < 2147483648) (r5 : -2147483648 ≤ a5 ∧ a5 < 2147483648) (r6 : -2147483648 ≤ a6 ∧ a6 < 2147483648) (r7 : -2147483648 ≤ a7 ∧ a7 < 2147483648) : (0 : Int) ≤ a3 := by omega
theorem z_X5_takeWord_4 (a0 : Int) (a1 : Int) (a2 : Int) (a3 : Int) (a4 : Int) (a5 : Int) (a6 : Int) (a7 : Int) (a8 : Nat) (a9 : Nat) (h0 : a2 = a7 - a6 ∨ a7 - a6 < -2147483648 ∨ 2147483648 ≤ a7 - a6) (h1 : a4 = ((a9 : Nat) : Int)) (h2 : a2 = a4) (h3 : (0 : Int) ≤ a5) (h4 : 2147483648 - a5 < ((a8 + 1 : Nat) : Int)) (h5 : a0 = ((a9 : Nat) : Int)) (h6 : ¬ (a0 ≤ a5)) (h7 : a1 = a6 + a5 ∨ a6 + a5 < -2147483648 ∨ 2147483648 ≤ a6 + a5) (h8 : a3 = a5 + 1 ∨ a5 + 1 < -2147483648 ∨ 2147483648 ≤ a5 + 1) (r0 : -2147483648 ≤ a0 ∧ a0 < 2147483648) (r1 : -2147483648 ≤ a1 ∧ a1 < 2147483648) (r2 : -2147483648 ≤ a2 ∧ a2 < 2147483648) (r3 : -2147483648 ≤ a3 ∧ a3 < 2147483648) (r4 : -2147483648 ≤ a4 ∧ a4 < 2147483648) (r5 : -2147483648 ≤ a5 ∧ a5 < 2147483648) (r6 : -2147483648 ≤ a6 ∧ a6 < 2147483648) (r7 : -2147483648 ≤ a7 ∧ a7 < 2147483648) : 2147483648 - a3 < ((a8 : Nat) : Int) := by omega
abbrev rm_X5_takeWord : Room := { frames := 4, cells := 0, slots := 0, locals := 85 }
set_option maxHeartbeats 4000000 in
set_option maxRecDepth 100000 in
theorem c_X5_takeWord (l : Launch) (E : XE) (K : Nat → Nat) (F : Nat → Nat → Nat) (tl z0 z1 z2 z3 z4 z5 z6 z7 z8 z9 z10 z11 z12 z13 z14 z15 z16 z17 z18 z19 z20 : Int32) (ts : List (Nat → Int32)) (a : Nat) (i : Nat) (ha : K a = 7) (hi : i < 13) : Met l yX5_takeWord (xw yX5_takeWord cX5_takeWord 3 (some .boolean)) rm_X5_takeWord (va_Pc [.ref a, .ref (E.2.2.2.2.1 i)] (XP E K F (tl, [z0, z1, z2, z3, z4, z5, z6, z7, z8, z9, z10, z11, z12, z13, z14, z15, z16, z17, z18, z19, z20], ts))) (XQ E (fun v (u : Int32 × Int32 × Int32 × Int32 × Int32) => ∃ r : Int32, v = .int r ∧ (r = 0 ∨ r = 1)) (fun u H => TW E K F (tl, [z0, z1, z2, z3, z4, z5, z6, z7, z8, z9, z10, z11, z12, z13, z14, z15, u.1, u.2.1, u.2.2.1, u.2.2.2.1, u.2.2.2.2], ts) [] H)) 0 0 (xA E) := by
  refine x_enter (by decide) (Nat.le_of_ble_eq_true rfl) ?_
  intro p e s m args below meth c Q S hr hlk hnm hQ hP ls hl
  obtain ⟨hz, hK, hT⟩ := hP
  obtain ⟨hx, hb, -, -, -⟩ := id S
  obtain ⟨H, hT, hS, hgo⟩ : ∃ H : Heap, TW E K F (tl, [z0, z1, z2, z3, z4, z5, z6, z7, z8, z9, z10, z11, z12, z13, z14, z15, z16, z17, z18, z19, z20], ts) [] H ∧ va_S (xA E) s.heap H [] ∧ H = s.heap := ⟨_, hT, va_S.rf, rfl⟩
  rw [← hgo]
  have hl : lv_has ls 3 [(0, .ref a), (1, .ref (E.2.2.2.2.1 i))] := hl
  refine lv_aload_n hx hb dX5_takeWord_0 rfl (lv_at hl 0 rfl) ?_
  refine gX5_5 S hK hT ha kf_X5_15 dX5_takeWord_1 (v := z20) rfl ?_
  refine xi_zne (tgt := 31) hx hb (rfl : Int32.toInt z20 = z20.toInt) dX5_takeWord_4 (by decide) (fun c1 => ?_) (fun c1 => ?_)
  · refine lv_iconst (v := 0) hx hb dX5_takeWord_31 (by decide) ?_
    exact x_rz hx hb hr (xnz (Or.inl rfl)) hlk hQ (Nat.le_of_ble_eq_true rfl) (Nat.le_of_ble_eq_true rfl) hS dX5_takeWord_32 (z16, z17, z18, z19, z20) ⟨_, rfl, (Or.inl rfl)⟩ hT.nil
  · refine lv_aload_n hx hb dX5_takeWord_7 rfl (lv_at hl 0 rfl) ?_
    refine gX5_1 S hK hT ha kf_X5_75 dX5_takeWord_8 (v := z16) rfl ?_
    refine lv_iconst (v := 1) hx hb dX5_takeWord_11 (by decide) ?_
    refine xi_cne (tgt := 31) hx hb (rfl : Int32.toInt z16 = z16.toInt) ((by decide) : Int32.toInt 1 = (1 : Int)) dX5_takeWord_12 (by decide) (fun c2 => ?_) (fun c2 => ?_)
    · refine lv_iconst (v := 0) hx hb dX5_takeWord_31 (by decide) ?_
      exact x_rz hx hb hr (xnz (Or.inl rfl)) hlk hQ (Nat.le_of_ble_eq_true rfl) (Nat.le_of_ble_eq_true rfl) hS dX5_takeWord_32 (z16, z17, z18, z19, z20) ⟨_, rfl, (Or.inl rfl)⟩ hT.nil
    · refine lv_aload_n hx hb dX5_takeWord_15 rfl (lv_at hl 0 rfl) ?_
      refine gX5_3 S hK hT ha kf_X5_19 dX5_takeWord_16 (v := z18) rfl ?_
      refine lv_aload_n hx hb dX5_takeWord_19 rfl (lv_at hl 0 rfl) ?_
      refine gX5_2 S hK hT ha kf_X5_78 dX5_takeWord_20 (v := z17) rfl ?_
      refine xi_isub hx hb (rfl : Int32.toInt z18 = z18.toInt) (rfl : Int32.toInt z17 = z17.toInt) dX5_takeWord_23 (fun x3 t4 => ?_)
      refine lv_aload_n hx hb dX5_takeWord_24 rfl (lv_at hl 1 rfl) ?_
      refine x_clp (x_runV (b := (E.2.2.2.2.1 i)) (As := []) (rest := [.int x3]) S (c_J0_length_8abf5 l E K F (tl, [z0, z1, z2, z3, z4, z5, z6, z7, z8, z9, z10, z11, z12, z13, z14, z15, z16, z17, z18, z19, z20], ts) H i hi) mv_J0_length_8abf5 km_X5_92 rfl rfl ⟨Nat.le_of_ble_eq_true rfl, Nat.le_of_ble_eq_true rfl⟩ (vk_recv hK.2.2.2.1 hi hS) hK (fun _ => XPh.blind) (fun U hU hW => XPh.at hK hz hS hT hU hW) rfl hl.1 (Nat.le_of_ble_eq_true rfl) dX5_takeWord_25 ⟨Nat.le_of_ble_eq_true rfl, Nat.le_of_ble_eq_true rfl⟩) hS ?_
      rintro _ _ locs ⟨x5, rfl, t6⟩ hS
      refine xi_ceq (tgt := 33) hx hb (rfl : Int32.toInt x3 = x3.toInt) (rfl : Int32.toInt x5 = x5.toInt) dX5_takeWord_28 (by decide) (fun c7 => ?_) (fun c7 => ?_)
      · refine lv_iconst (v := 0) hx hb dX5_takeWord_33 (by decide) ?_
        refine lv_istore_n (lv' := [(2, .int 0), (0, .ref a), (1, .ref (E.2.2.2.2.1 i))]) hx hb dX5_takeWord_34 rfl hl (by decide) rfl (fun ls hl => ?_)
        have L35 : ∀ (N9 : Nat) (x8 : Int32) (H : Heap) (locs : List Loc) (ls : Array Slot), (0 : Int) ≤ x8.toInt → 2147483648 - x8.toInt < ((N9 : Nat) : Int) → TW E K F (tl, [z0, z1, z2, z3, z4, z5, z6, z7, z8, z9, z10, z11, z12, z13, z14, z15, z16, z17, z18, z19, z20], ts) [] H → va_S (xA E) s.heap H locs → lv_has ls 3 [(0, .ref a), (1, .ref (E.2.2.2.2.1 i)), (2, .int x8)] → W p l e rm_X5_takeWord s m args below meth c H locs 0 0 Q (F0 m 35 ls []) := by
          intro N9
          induction N9 with
          | zero =>
            intro x8 H locs ls hf10 hm11
            exact absurd hm11 (z_X5_takeWord_1 x8.toInt hf10 (xr x8))
          | succ N9 ih12 =>
            intro x8 H locs ls hf10 hm11 hT hS hl
            refine lv_iload_n hx hb dX5_takeWord_35 rfl (lv_at hl 2 rfl) ?_
            refine lv_aload_n hx hb dX5_takeWord_36 rfl (lv_at hl 1 rfl) ?_
            refine x_clp (x_runV (b := (E.2.2.2.2.1 i)) (As := []) (rest := [.int x8]) S (c_J0_length_8abf5 l E K F (tl, [z0, z1, z2, z3, z4, z5, z6, z7, z8, z9, z10, z11, z12, z13, z14, z15, z16, z17, z18, z19, z20], ts) H i hi) mv_J0_length_8abf5 km_X5_92 rfl rfl ⟨Nat.le_of_ble_eq_true rfl, Nat.le_of_ble_eq_true rfl⟩ (vk_recv hK.2.2.2.1 hi hS) hK (fun _ => XPh.blind) (fun U hU hW => XPh.at hK hz hS hT hU hW) rfl hl.1 (Nat.le_of_ble_eq_true rfl) dX5_takeWord_37 ⟨Nat.le_of_ble_eq_true rfl, Nat.le_of_ble_eq_true rfl⟩) hS ?_
            rintro _ _ locs ⟨x13, rfl, t14⟩ hS
            refine xi_cge (tgt := 72) hx hb (rfl : Int32.toInt x8 = x8.toInt) (rfl : Int32.toInt x13 = x13.toInt) dX5_takeWord_40 (by decide) (fun c15 => ?_) (fun c15 => ?_)
            · refine lv_aload_n hx hb dX5_takeWord_72 rfl (lv_at hl 0 rfl) ?_
              refine x_cv0 (x_runV (b := a) (As := []) (rest := []) S (c_X5_advance l E K F tl z0 z1 z2 z3 z4 z5 z6 z7 z8 z9 z10 z11 z12 z13 z14 z15 z16 z17 z18 z19 z20 ts a ha) mv_X5_advance km_X5_23 rfl rfl ⟨Nat.le_of_ble_eq_true rfl, Nat.le_of_ble_eq_true rfl⟩ (rc_7 hK hT ha) hK (fun _ => XP.blind) (fun U hU hW => XP.at hK hz hS hT hU hW) rfl hl.1 (Nat.le_of_ble_eq_true rfl) dX5_takeWord_73 ⟨Nat.le_of_ble_eq_true rfl, Nat.le_of_ble_eq_true rfl⟩) hS ?_
              rintro ⟨u16, u17, u18, u19, u20⟩ H locs - hT hS
              have hT : TW E K F (tl, [z0, z1, z2, z3, z4, z5, z6, z7, z8, z9, z10, z11, z12, z13, z14, z15, u16, u17, u18, u19, u20], ts) [] H := hT
              refine lv_iconst (v := 1) hx hb dX5_takeWord_76 (by decide) ?_
              exact x_rz hx hb hr (xnz (Or.inr rfl)) hlk hQ (Nat.le_of_ble_eq_true rfl) (Nat.le_of_ble_eq_true rfl) hS dX5_takeWord_77 (u16, u17, u18, u19, u20) ⟨_, rfl, (Or.inr rfl)⟩ hT.nil
            · refine lv_aload_n hx hb dX5_takeWord_43 rfl (lv_at hl 0 rfl) ?_
              refine gX5_0 S hK hT ha kf_X5_9 dX5_takeWord_44 (fun hk22 => ?_)
              refine lv_aload_n hx hb dX5_takeWord_47 rfl (lv_at hl 0 rfl) ?_
              refine gX5_2 S hK hT ha kf_X5_78 dX5_takeWord_48 (v := z17) rfl ?_
              refine lv_iload_n hx hb dX5_takeWord_51 rfl (lv_at hl 2 rfl) ?_
              refine xi_iadd hx hb (rfl : Int32.toInt z17 = z17.toInt) (rfl : Int32.toInt x8 = x8.toInt) dX5_takeWord_52 (fun x23 t24 => ?_)
              refine x_clp (x_runV (b := (F a 0)) (As := [.int x23]) (rest := []) S (c_X8_signAt l E K F tl [z0, z1, z2, z3, z4, z5, z6, z7, z8, z9, z10, z11, z12, z13, z14, z15, z16, z17, z18, z19, z20] ts H (F a 0) x23 hk22) mv_X8_signAt km_X5_97 rfl rfl ⟨Nat.le_of_ble_eq_true rfl, Nat.le_of_ble_eq_true rfl⟩ (rc_10 hK hT hk22) hK (fun _ => XPh.blind) (fun U hU hW => XPh.at hK hz hS hT hU hW) rfl hl.1 (Nat.le_of_ble_eq_true rfl) dX5_takeWord_53 ⟨Nat.le_of_ble_eq_true rfl, Nat.le_of_ble_eq_true rfl⟩) hS ?_
              rintro _ _ locs ⟨x25, rfl, o26⟩ hS
              refine lv_aload_n hx hb dX5_takeWord_56 rfl (lv_at hl 1 rfl) ?_
              refine lv_iload_n hx hb dX5_takeWord_57 rfl (lv_at hl 2 rfl) ?_
              refine x_clp (x_runV (b := (E.2.2.2.2.1 i)) (As := [.int x8]) (rest := [.int x25]) S (c_J0_charAt_5068e l E K F (tl, [z0, z1, z2, z3, z4, z5, z6, z7, z8, z9, z10, z11, z12, z13, z14, z15, z16, z17, z18, z19, z20], ts) H i x8 hi (z_X5_takeWord_2 x13.toInt x23.toInt x3.toInt x5.toInt x8.toInt z17.toInt z18.toInt N9 (xlen.getD i 0) t4 t6 c7 hf10 hm11 t14 c15 t24 (xr x13) (xr x23) (xr x3) (xr x5) (xr x8) (xr z17) (xr z18))) mv_J0_charAt_5068e km_X5_103 rfl rfl ⟨Nat.le_of_ble_eq_true rfl, Nat.le_of_ble_eq_true rfl⟩ (vk_recv hK.2.2.2.1 hi hS) hK (fun _ => XPh.blind) (fun U hU hW => XPh.at hK hz hS hT hU hW) rfl hl.1 (Nat.le_of_ble_eq_true rfl) dX5_takeWord_58 ⟨Nat.le_of_ble_eq_true rfl, Nat.le_of_ble_eq_true rfl⟩) hS ?_
              rintro _ _ locs ⟨x27, rfl, o28⟩ hS
              refine xi_ceq (tgt := 66) hx hb (rfl : Int32.toInt x25 = x25.toInt) (rfl : Int32.toInt x27 = x27.toInt) dX5_takeWord_61 (by decide) (fun c29 => ?_) (fun c29 => ?_)
              · refine xi_iinc (n := 1) (lv' := fun z9 => [(2, .int z9), (0, .ref a), (1, .ref (E.2.2.2.2.1 i))]) (k := 2) hx hb (rfl : Int32.toInt x8 = x8.toInt) (by decide) dX5_takeWord_66 hl rfl (by decide) (fun _ => rfl) (fun x30 ls t31 hl => ?_)
                have hl : lv_has ls 3 [(2, .int x30), (0, .ref a), (1, .ref (E.2.2.2.2.1 i))] := hl
                refine lv_goto (tgt := 35) hx hb dX5_takeWord_69 (by decide) ?_
                exact ih12 x30 _ _ _ (z_X5_takeWord_3 x13.toInt x23.toInt x3.toInt x30.toInt x5.toInt x8.toInt z17.toInt z18.toInt N9 (xlen.getD i 0) t4 t6 c7 hf10 hm11 t14 c15 t24 t31 (xr x13) (xr x23) (xr x3) (xr x30) (xr x5) (xr x8) (xr z17) (xr z18)) (z_X5_takeWord_4 x13.toInt x23.toInt x3.toInt x30.toInt x5.toInt x8.toInt z17.toInt z18.toInt N9 (xlen.getD i 0) t4 t6 c7 hf10 hm11 t14 c15 t24 t31 (xr x13) (xr x23) (xr x3) (xr x30) (xr x5) (xr x8) (xr z17) (xr z18)) hT.nil hS (lv_sub hl [1, 2, 0] rfl)
              · refine lv_iconst (v := 0) hx hb dX5_takeWord_64 (by decide) ?_
                exact x_rz hx hb hr (xnz (Or.inl rfl)) hlk hQ (Nat.le_of_ble_eq_true rfl) (Nat.le_of_ble_eq_true rfl) hS dX5_takeWord_65 (z16, z17, z18, z19, z20) ⟨_, rfl, (Or.inl rfl)⟩ hT.nil
        exact L35 4294967297 0 _ _ _ (by decide) (by decide) hT.nil hS (lv_sub hl [1, 2, 0] rfl)
      · refine lv_iconst (v := 0) hx hb dX5_takeWord_31 (by decide) ?_
        exact x_rz hx hb hr (xnz (Or.inl rfl)) hlk hQ (Nat.le_of_ble_eq_true rfl) (Nat.le_of_ble_eq_true rfl) hS dX5_takeWord_32 (z16, z17, z18, z19, z20) ⟨_, rfl, (Or.inl rfl)⟩ hT.nil

abbrev rm_X5_takeNumber : Room := { frames := 3, cells := 0, slots := 0, locals := 64 }
set_option maxHeartbeats 4000000 in
set_option maxRecDepth 100000 in
theorem c_X5_takeNumber (l : Launch) (E : XE) (K : Nat → Nat) (F : Nat → Nat → Nat) (tl z0 z1 z2 z3 z4 z5 z6 z7 z8 z9 z10 z11 z12 z13 z14 z15 z16 z17 z18 z19 z20 : Int32) (ts : List (Nat → Int32)) (a : Nat) (p0 : Int32) (p1 : Int32) (ha : K a = 7) : Met l yX5_takeNumber (xw yX5_takeNumber cX5_takeNumber 4 (some .int)) rm_X5_takeNumber (va_Pc [.ref a, .int p0, .int p1] (XP E K F (tl, [z0, z1, z2, z3, z4, z5, z6, z7, z8, z9, z10, z11, z12, z13, z14, z15, z16, z17, z18, z19, z20], ts))) (XQ E (fun v (u : Int32 × Int32 × Int32 × Int32 × Int32) => ∃ r : Int32, v = .int r) (fun u H => TW E K F (tl, [z0, z1, z2, z3, z4, z5, z6, z7, z8, z9, z10, z11, z12, z13, z14, z15, u.1, u.2.1, u.2.2.1, u.2.2.2.1, u.2.2.2.2], ts) [] H)) 0 0 (xA E) := by
  refine x_enter (by decide) (Nat.le_of_ble_eq_true rfl) ?_
  intro p e s m args below meth c Q S hr hlk hnm hQ hP ls hl
  obtain ⟨hz, hK, hT⟩ := hP
  obtain ⟨hx, hb, -, -, -⟩ := id S
  obtain ⟨H, hT, hS, hgo⟩ : ∃ H : Heap, TW E K F (tl, [z0, z1, z2, z3, z4, z5, z6, z7, z8, z9, z10, z11, z12, z13, z14, z15, z16, z17, z18, z19, z20], ts) [] H ∧ va_S (xA E) s.heap H [] ∧ H = s.heap := ⟨_, hT, va_S.rf, rfl⟩
  rw [← hgo]
  have hl : lv_has ls 4 [(0, .ref a), (1, .int p0), (2, .int p1)] := hl
  refine lv_aload_n hx hb dX5_takeNumber_0 rfl (lv_at hl 0 rfl) ?_
  refine gX5_5 S hK hT ha kf_X5_15 dX5_takeNumber_1 (v := z20) rfl ?_
  have J31 : ∀ (H : Heap) (locs : List Loc) (ls : Array Slot), TW E K F (tl, [z0, z1, z2, z3, z4, z5, z6, z7, z8, z9, z10, z11, z12, z13, z14, z15, z16, z17, z18, z19, z20], ts) [] H → va_S (xA E) s.heap H locs → lv_has ls 4 [(0, .ref a)] → W p l e rm_X5_takeNumber s m args below meth c H locs 0 0 Q (F0 m 31 ls []) := by
    intro H locs ls hT hS hl
    refine lv_aload_n hx hb dX5_takeNumber_31 rfl (lv_at hl 0 rfl) ?_
    refine lv_iconst (v := 1) hx hb dX5_takeNumber_32 (by decide) ?_
    refine pX5_5 (kq := []) (v := 1) S hK hT hS ha kf_X5_15 (Or.inr rfl) (Nat.le_of_ble_eq_true rfl) dX5_takeNumber_33 (fun _ h => by cases h) (fun H locs hT hS => ?_)
    have hT : TW E K F (tl, [z0, z1, z2, z3, z4, z5, z6, z7, z8, z9, z10, z11, z12, z13, z14, z15, z16, z17, z18, z19, 1], ts) [] H := hT
    refine lv_iconst (v := 0) hx hb dX5_takeNumber_36 (by decide) ?_
    exact x_ri hx hb hr hlk hQ (Nat.le_of_ble_eq_true rfl) (Nat.le_of_ble_eq_true rfl) hS dX5_takeNumber_37 (z16, z17, z18, z19, 1) ⟨_, rfl⟩ hT.nil
  refine xi_zne (tgt := 31) hx hb (rfl : Int32.toInt z20 = z20.toInt) dX5_takeNumber_4 (by decide) (fun c1 => ?_) (fun c1 => ?_)
  · exact J31 _ _ _ hT.nil hS (lv_sub hl [0] rfl)
  · refine lv_aload_n hx hb dX5_takeNumber_7 rfl (lv_at hl 0 rfl) ?_
    refine gX5_1 S hK hT ha kf_X5_75 dX5_takeNumber_8 (v := z16) rfl ?_
    refine lv_iconst (v := 2) hx hb dX5_takeNumber_11 (by decide) ?_
    refine xi_cne (tgt := 31) hx hb (rfl : Int32.toInt z16 = z16.toInt) ((by decide) : Int32.toInt 2 = (2 : Int)) dX5_takeNumber_12 (by decide) (fun c2 => ?_) (fun c2 => ?_)
    · exact J31 _ _ _ hT.nil hS (lv_sub hl [0] rfl)
    · refine lv_aload_n hx hb dX5_takeNumber_15 rfl (lv_at hl 0 rfl) ?_
      refine gX5_4 S hK hT ha kf_X5_89 dX5_takeNumber_16 (v := z19) rfl ?_
      refine lv_iload_n hx hb dX5_takeNumber_19 rfl (lv_at hl 1 rfl) ?_
      refine xi_clt (tgt := 31) hx hb (rfl : Int32.toInt z19 = z19.toInt) (rfl : Int32.toInt p0 = p0.toInt) dX5_takeNumber_20 (by decide) (fun c3 => ?_) (fun c3 => ?_)
      · exact J31 _ _ _ hT.nil hS (lv_sub hl [0] rfl)
      · refine lv_aload_n hx hb dX5_takeNumber_23 rfl (lv_at hl 0 rfl) ?_
        refine gX5_4 S hK hT ha kf_X5_89 dX5_takeNumber_24 (v := z19) rfl ?_
        refine lv_iload_n hx hb dX5_takeNumber_27 rfl (lv_at hl 2 rfl) ?_
        refine xi_cle (tgt := 38) hx hb (rfl : Int32.toInt z19 = z19.toInt) (rfl : Int32.toInt p1 = p1.toInt) dX5_takeNumber_28 (by decide) (fun c4 => ?_) (fun c4 => ?_)
        · refine lv_aload_n hx hb dX5_takeNumber_38 rfl (lv_at hl 0 rfl) ?_
          refine gX5_4 S hK hT ha kf_X5_89 dX5_takeNumber_39 (v := z19) rfl ?_
          refine lv_istore_n (lv' := [(3, .int z19), (0, .ref a), (1, .int p0), (2, .int p1)]) hx hb dX5_takeNumber_42 rfl hl (by decide) rfl (fun ls hl => ?_)
          refine lv_aload_n hx hb dX5_takeNumber_43 rfl (lv_at hl 1 rfl) ?_
          refine x_cv0 (x_runV (b := a) (As := []) (rest := []) S (c_X5_advance l E K F tl z0 z1 z2 z3 z4 z5 z6 z7 z8 z9 z10 z11 z12 z13 z14 z15 z16 z17 z18 z19 z20 ts a ha) mv_X5_advance km_X5_23 rfl rfl ⟨Nat.le_of_ble_eq_true rfl, Nat.le_of_ble_eq_true rfl⟩ (rc_7 hK hT ha) hK (fun _ => XP.blind) (fun U hU hW => XP.at hK hz hS hT hU hW) rfl hl.1 (Nat.le_of_ble_eq_true rfl) dX5_takeNumber_44 ⟨Nat.le_of_ble_eq_true rfl, Nat.le_of_ble_eq_true rfl⟩) hS ?_
          rintro ⟨u5, u6, u7, u8, u9⟩ H locs - hT hS
          have hT : TW E K F (tl, [z0, z1, z2, z3, z4, z5, z6, z7, z8, z9, z10, z11, z12, z13, z14, z15, u5, u6, u7, u8, u9], ts) [] H := hT
          refine lv_iload_n hx hb dX5_takeNumber_47 rfl (lv_at hl 0 rfl) ?_
          exact x_ri hx hb hr hlk hQ (Nat.le_of_ble_eq_true rfl) (Nat.le_of_ble_eq_true rfl) hS dX5_takeNumber_48 (u5, u6, u7, u8, u9) ⟨_, rfl⟩ hT.nil
        · exact J31 _ _ _ hT.nil hS (lv_sub hl [0] rfl)

abbrev rm_X5_takeAction : Room := { frames := 5, cells := 0, slots := 0, locals := 107 }
set_option maxHeartbeats 4000000 in
set_option maxRecDepth 100000 in
theorem c_X5_takeAction (l : Launch) (E : XE) (K : Nat → Nat) (F : Nat → Nat → Nat) (tl z0 z1 z2 z3 z4 z5 z6 z7 z8 z9 z10 z11 z12 z13 z14 z15 z16 z17 z18 z19 z20 : Int32) (ts : List (Nat → Int32)) (a : Nat) (ha : K a = 7) : Met l yX5_takeAction (xw yX5_takeAction cX5_takeAction 1 (some .int)) rm_X5_takeAction (va_Pc [.ref a] (XP E K F (tl, [z0, z1, z2, z3, z4, z5, z6, z7, z8, z9, z10, z11, z12, z13, z14, z15, z16, z17, z18, z19, z20], ts))) (XQ E (fun v (u : Int32 × Int32 × Int32 × Int32 × Int32) => ∃ r : Int32, v = .int r) (fun u H => TW E K F (tl, [z0, z1, z2, z3, z4, z5, z6, z7, z8, z9, z10, z11, z12, z13, z14, z15, u.1, u.2.1, u.2.2.1, u.2.2.2.1, u.2.2.2.2], ts) [] H)) 0 0 (xA E) := by
  refine x_enter (by decide) (Nat.le_of_ble_eq_true rfl) ?_
  intro p e s m args below meth c Q S hr hlk hnm hQ hP ls hl
  obtain ⟨hz, hK, hT⟩ := hP
  obtain ⟨hx, hb, -, -, -⟩ := id S
  obtain ⟨H, hT, hS, hgo⟩ : ∃ H : Heap, TW E K F (tl, [z0, z1, z2, z3, z4, z5, z6, z7, z8, z9, z10, z11, z12, z13, z14, z15, z16, z17, z18, z19, z20], ts) [] H ∧ va_S (xA E) s.heap H [] ∧ H = s.heap := ⟨_, hT, va_S.rf, rfl⟩
  rw [← hgo]
  have hl : lv_has ls 1 [(0, .ref a)] := hl
  refine lv_aload_n hx hb dX5_takeAction_0 rfl (lv_at hl 0 rfl) ?_
  refine va_ldcS hx hb S.2.2.2.1 (hK.2.2.1 6 _ rfl) dX5_takeAction_1 ?_
  refine x_cl0 (x_runV (b := a) (As := [.ref (E.2.2.2.2.1 6)]) (rest := []) S (c_X5_takeWord l E K F tl z0 z1 z2 z3 z4 z5 z6 z7 z8 z9 z10 z11 z12 z13 z14 z15 z16 z17 z18 z19 z20 ts a 6 ha (show 6 < 13 by decide)) mv_X5_takeWord km_X5_65 rfl rfl ⟨Nat.le_of_ble_eq_true rfl, Nat.le_of_ble_eq_true rfl⟩ (rc_7 hK hT ha) hK (fun _ => XP.blind) (fun U hU hW => XP.at hK hz hS hT hU hW) rfl hl.1 (Nat.le_of_ble_eq_true rfl) dX5_takeAction_3 ⟨Nat.le_of_ble_eq_true rfl, Nat.le_of_ble_eq_true rfl⟩) hS ?_
  rintro _ ⟨u1, u2, u3, u4, u5⟩ H locs ⟨x6, rfl, b7⟩ hT hS
  have hT : TW E K F (tl, [z0, z1, z2, z3, z4, z5, z6, z7, z8, z9, z10, z11, z12, z13, z14, z15, u1, u2, u3, u4, u5], ts) [] H := hT
  refine xi_zeq (tgt := 11) hx hb (rfl : Int32.toInt x6 = x6.toInt) dX5_takeAction_6 (by decide) (fun c8 => ?_) (fun c8 => ?_)
  · refine lv_aload_n hx hb dX5_takeAction_11 rfl (lv_at hl 0 rfl) ?_
    refine va_ldcS hx hb S.2.2.2.1 (hK.2.2.1 7 _ rfl) dX5_takeAction_12 ?_
    refine x_cl0 (x_runV (b := a) (As := [.ref (E.2.2.2.2.1 7)]) (rest := []) S (c_X5_takeWord l E K F tl z0 z1 z2 z3 z4 z5 z6 z7 z8 z9 z10 z11 z12 z13 z14 z15 u1 u2 u3 u4 u5 ts a 7 ha (show 7 < 13 by decide)) mv_X5_takeWord km_X5_65 rfl rfl ⟨Nat.le_of_ble_eq_true rfl, Nat.le_of_ble_eq_true rfl⟩ (rc_7 hK hT ha) hK (fun _ => XP.blind) (fun U hU hW => XP.at hK hz hS hT hU hW) rfl hl.1 (Nat.le_of_ble_eq_true rfl) dX5_takeAction_14 ⟨Nat.le_of_ble_eq_true rfl, Nat.le_of_ble_eq_true rfl⟩) hS ?_
    rintro _ ⟨u9, u10, u11, u12, u13⟩ H locs ⟨x14, rfl, b15⟩ hT hS
    have hT : TW E K F (tl, [z0, z1, z2, z3, z4, z5, z6, z7, z8, z9, z10, z11, z12, z13, z14, z15, u9, u10, u11, u12, u13], ts) [] H := hT
    refine xi_zeq (tgt := 24) hx hb (rfl : Int32.toInt x14 = x14.toInt) dX5_takeAction_17 (by decide) (fun c16 => ?_) (fun c16 => ?_)
    · refine lv_iconst (v := 0) hx hb dX5_takeAction_24 (by decide) ?_
      exact x_ri hx hb hr hlk hQ (Nat.le_of_ble_eq_true rfl) (Nat.le_of_ble_eq_true rfl) hS dX5_takeAction_25 (u9, u10, u11, u12, u13) ⟨_, rfl⟩ hT.nil
    · refine lv_iconst (v := 2) hx hb dX5_takeAction_20 (by decide) ?_
      refine lv_goto (tgt := 25) hx hb dX5_takeAction_21 (by decide) ?_
      exact x_ri hx hb hr hlk hQ (Nat.le_of_ble_eq_true rfl) (Nat.le_of_ble_eq_true rfl) hS dX5_takeAction_25 (u9, u10, u11, u12, u13) ⟨_, rfl⟩ hT.nil
  · refine lv_iconst (v := 1) hx hb dX5_takeAction_9 (by decide) ?_
    exact x_ri hx hb hr hlk hQ (Nat.le_of_ble_eq_true rfl) (Nat.le_of_ble_eq_true rfl) hS dX5_takeAction_10 (u1, u2, u3, u4, u5) ⟨_, rfl⟩ hT.nil

theorem z_X5_takeKind_1 (a0 : Int) (h0 : (0 : Int) ≤ a0) (r0 : -2147483648 ≤ a0 ∧ a0 < 2147483648) : ¬ (2147483648 - a0 < ((0 : Nat) : Int)) := by omega
theorem z_X5_takeKind_2 (a0 : Int) (a1 : Int) (a2 : Nat) (h0 : (0 : Int) ≤ a0) (h1 : 2147483648 - a0 < ((a2 + 1 : Nat) : Int)) (h2 : ¬ ((6 : Int) ≤ a0)) (h3 : a1 = a0 + 1 ∨ a0 + 1 < -2147483648 ∨ 2147483648 ≤ a0 + 1) (r0 : -2147483648 ≤ a0 ∧ a0 < 2147483648) (r1 : -2147483648 ≤ a1 ∧ a1 < 2147483648) : (0 : Int) ≤ a1 := by omega
theorem z_X5_takeKind_3 (a0 : Int) (a1 : Int) (a2 : Nat) (h0 : (0 : Int) ≤ a0) (h1 : 2147483648 - a0 < ((a2 + 1 : Nat) : Int)) (h2 : ¬ ((6 : Int) ≤ a0)) (h3 : a1 = a0 + 1 ∨ a0 + 1 < -2147483648 ∨ 2147483648 ≤ a0 + 1) (r0 : -2147483648 ≤ a0 ∧ a0 < 2147483648) (r1 : -2147483648 ≤ a1 ∧ a1 < 2147483648) : 2147483648 - a1 < ((a2 : Nat) : Int) := by omega
abbrev rm_X5_takeKind : Room := { frames := 5, cells := 0, slots := 0, locals := 107 }
set_option maxHeartbeats 4000000 in
set_option maxRecDepth 100000 in
theorem c_X5_takeKind (l : Launch) (E : XE) (K : Nat → Nat) (F : Nat → Nat → Nat) (tl z0 z1 z2 z3 z4 z5 z6 z7 z8 z9 z10 z11 z12 z13 z14 z15 z16 z17 z18 z19 z20 : Int32) (ts : List (Nat → Int32)) (a : Nat) (ha : K a = 7) : Met l yX5_takeKind (xw yX5_takeKind cX5_takeKind 2 (some .int)) rm_X5_takeKind (va_Pc [.ref a] (XP E K F (tl, [z0, z1, z2, z3, z4, z5, z6, z7, z8, z9, z10, z11, z12, z13, z14, z15, z16, z17, z18, z19, z20], ts))) (XQ E (fun v (u : Int32 × Int32 × Int32 × Int32 × Int32) => ∃ r : Int32, v = .int r) (fun u H => TW E K F (tl, [z0, z1, z2, z3, z4, z5, z6, z7, z8, z9, z10, z11, z12, z13, z14, z15, u.1, u.2.1, u.2.2.1, u.2.2.2.1, u.2.2.2.2], ts) [] H)) 0 0 (xA E) := by
  refine x_enter (by decide) (Nat.le_of_ble_eq_true rfl) ?_
  intro p e s m args below meth c Q S hr hlk hnm hQ hP ls hl
  obtain ⟨hz, hK, hT⟩ := hP
  obtain ⟨hx, hb, -, -, -⟩ := id S
  obtain ⟨H, hT, hS, hgo⟩ : ∃ H : Heap, TW E K F (tl, [z0, z1, z2, z3, z4, z5, z6, z7, z8, z9, z10, z11, z12, z13, z14, z15, z16, z17, z18, z19, z20], ts) [] H ∧ va_S (xA E) s.heap H [] ∧ H = s.heap := ⟨_, hT, va_S.rf, rfl⟩
  rw [← hgo]
  have hl : lv_has ls 2 [(0, .ref a)] := hl
  refine lv_iconst (v := 0) hx hb dX5_takeKind_0 (by decide) ?_
  refine lv_istore_n (lv' := [(1, .int 0), (0, .ref a)]) hx hb dX5_takeKind_1 rfl hl (by decide) rfl (fun ls hl => ?_)
  have L2 : ∀ (N7 : Nat) (x1 : Int32) (x2 : Int32) (x3 : Int32) (x4 : Int32) (x5 : Int32) (x6 : Int32) (H : Heap) (locs : List Loc) (ls : Array Slot), (0 : Int) ≤ x1.toInt → 2147483648 - x1.toInt < ((N7 : Nat) : Int) → TW E K F (tl, [z0, z1, z2, z3, z4, z5, z6, z7, z8, z9, z10, z11, z12, z13, z14, z15, x2, x3, x4, x5, x6], ts) [] H → va_S (xA E) s.heap H locs → lv_has ls 2 [(0, .ref a), (1, .int x1)] → W p l e rm_X5_takeKind s m args below meth c H locs 0 0 Q (F0 m 2 ls []) := by
    intro N7
    induction N7 with
    | zero =>
      intro x1 x2 x3 x4 x5 x6 H locs ls hf8 hm9
      exact absurd hm9 (z_X5_takeKind_1 x1.toInt hf8 (xr x1))
    | succ N7 ih10 =>
      intro x1 x2 x3 x4 x5 x6 H locs ls hf8 hm9 hT hS hl
      refine lv_iload_n hx hb dX5_takeKind_2 rfl (lv_at hl 1 rfl) ?_
      refine lv_bipush (v := 6) hx hb dX5_takeKind_3 (by decide) ?_
      refine xi_cge (tgt := 27) hx hb (rfl : Int32.toInt x1 = x1.toInt) ((by decide) : Int32.toInt 6 = (6 : Int)) dX5_takeKind_5 (by decide) (fun c11 => ?_) (fun c11 => ?_)
      · refine lv_aload_n hx hb dX5_takeKind_27 rfl (lv_at hl 0 rfl) ?_
        refine lv_iconst (v := 1) hx hb dX5_takeKind_28 (by decide) ?_
        refine pX5_5 (kq := []) (v := 1) S hK hT hS ha kf_X5_15 (Or.inr rfl) (Nat.le_of_ble_eq_true rfl) dX5_takeKind_29 (fun _ h => by cases h) (fun H locs hT hS => ?_)
        have hT : TW E K F (tl, [z0, z1, z2, z3, z4, z5, z6, z7, z8, z9, z10, z11, z12, z13, z14, z15, x2, x3, x4, x5, 1], ts) [] H := hT
        refine lv_iconst (v := 0) hx hb dX5_takeKind_32 (by decide) ?_
        exact x_ri hx hb hr hlk hQ (Nat.le_of_ble_eq_true rfl) (Nat.le_of_ble_eq_true rfl) hS dX5_takeKind_33 (x2, x3, x4, x5, 1) ⟨_, rfl⟩ hT.nil
      · refine lv_aload_n hx hb dX5_takeKind_8 rfl (lv_at hl 0 rfl) ?_
        refine lv_iload_n hx hb dX5_takeKind_9 rfl (lv_at hl 1 rfl) ?_
        refine x_clp (x_runSN (As := [.int x1]) (rest := [.ref a]) S (c_X10_wordOf l E K F (tl, [z0, z1, z2, z3, z4, z5, z6, z7, z8, z9, z10, z11, z12, z13, z14, z15, x2, x3, x4, x5, x6], ts) H x1) ms_X10_wordOf (by decide +kernel) rfl rfl ⟨Nat.le_of_ble_eq_true rfl, Nat.le_of_ble_eq_true rfl⟩ hK (fun _ => XPh.blind) (fun U hU hW => XPh.at hK hz hS hT hU hW) rfl hl.1 (Nat.le_of_ble_eq_true rfl) dX5_takeKind_10 ⟨Nat.le_of_ble_eq_true rfl, Nat.le_of_ble_eq_true rfl⟩) hS ?_
        rintro _ _ locs ⟨q13, hi14, rfl⟩ hS
        refine x_cl0 (x_runV (b := a) (As := [.ref (E.2.2.2.2.1 q13)]) (rest := []) S (c_X5_takeWord l E K F tl z0 z1 z2 z3 z4 z5 z6 z7 z8 z9 z10 z11 z12 z13 z14 z15 x2 x3 x4 x5 x6 ts a q13 ha (Nat.lt_of_lt_of_le hi14 (by decide))) mv_X5_takeWord km_X5_65 rfl rfl ⟨Nat.le_of_ble_eq_true rfl, Nat.le_of_ble_eq_true rfl⟩ (rc_7 hK hT ha) hK (fun _ => XP.blind) (fun U hU hW => XP.at hK hz hS hT hU hW) rfl hl.1 (Nat.le_of_ble_eq_true rfl) dX5_takeKind_13 ⟨Nat.le_of_ble_eq_true rfl, Nat.le_of_ble_eq_true rfl⟩) hS ?_
        rintro _ ⟨u15, u16, u17, u18, u19⟩ H locs ⟨x20, rfl, b21⟩ hT hS
        have hT : TW E K F (tl, [z0, z1, z2, z3, z4, z5, z6, z7, z8, z9, z10, z11, z12, z13, z14, z15, u15, u16, u17, u18, u19], ts) [] H := hT
        refine xi_zeq (tgt := 21) hx hb (rfl : Int32.toInt x20 = x20.toInt) dX5_takeKind_16 (by decide) (fun c22 => ?_) (fun c22 => ?_)
        · refine xi_iinc (n := 1) (lv' := fun z9 => [(1, .int z9), (0, .ref a)]) (k := 1) hx hb (rfl : Int32.toInt x1 = x1.toInt) (by decide) dX5_takeKind_21 hl rfl (by decide) (fun _ => rfl) (fun x23 ls t24 hl => ?_)
          have hl : lv_has ls 2 [(1, .int x23), (0, .ref a)] := hl
          refine lv_goto (tgt := 2) hx hb dX5_takeKind_24 (by decide) ?_
          exact ih10 x23 u15 u16 u17 u18 u19 _ _ _ (z_X5_takeKind_2 x1.toInt x23.toInt N7 hf8 hm9 c11 t24 (xr x1) (xr x23)) (z_X5_takeKind_3 x1.toInt x23.toInt N7 hf8 hm9 c11 t24 (xr x1) (xr x23)) hT.nil hS (lv_sub hl [1, 0] rfl)
        · refine lv_iload_n hx hb dX5_takeKind_19 rfl (lv_at hl 1 rfl) ?_
          exact x_ri hx hb hr hlk hQ (Nat.le_of_ble_eq_true rfl) (Nat.le_of_ble_eq_true rfl) hS dX5_takeKind_20 (u15, u16, u17, u18, u19) ⟨_, rfl⟩ hT.nil
  exact L2 4294967297 0 z16 z17 z18 z19 z20 _ _ _ (by decide) (by decide) hT.nil hS (lv_sub hl [1, 0] rfl)

abbrev rm_X5_faultPlace : Room := { frames := 0, cells := 0, slots := 0, locals := 0 }
set_option maxHeartbeats 4000000 in
set_option maxRecDepth 100000 in
theorem c_X5_faultPlace (l : Launch) (E : XE) (K : Nat → Nat) (F : Nat → Nat → Nat) (tl z0 z1 z2 z3 z4 z5 z6 z7 z8 z9 z10 z11 z12 z13 z14 z15 z16 z17 z18 z19 z20 : Int32) (ts : List (Nat → Int32)) (h0 : Heap) (a : Nat) (ha : K a = 7) : Met l yX5_faultPlace (xw yX5_faultPlace cX5_faultPlace 1 (some .int)) rm_X5_faultPlace (va_Pc [.ref a] (XPh E K F (tl, [z0, z1, z2, z3, z4, z5, z6, z7, z8, z9, z10, z11, z12, z13, z14, z15, z16, z17, z18, z19, z20], ts) h0)) (XQ E (fun v (u : Unit) => ∃ r : Int32, v = .int r) (fun _ H => H = h0)) 0 0 (xA E) := by
  refine x_enter (by decide) (Nat.le_of_ble_eq_true rfl) ?_
  intro p e s m args below meth c Q S hr hlk hnm hQ hP ls hl
  obtain ⟨⟨hz, hK, hT⟩, hh⟩ := hP
  obtain ⟨hx, hb, -, -, -⟩ := id S
  have hS : va_S (xA E) s.heap s.heap [] := va_S.rf
  have hl : lv_has ls 1 [(0, .ref a)] := hl
  refine lv_aload_n hx hb dX5_faultPlace_0 rfl (lv_at hl 0 rfl) ?_
  refine gX5_2 S hK hT ha kf_X5_78 dX5_faultPlace_1 (v := z17) rfl ?_
  exact x_ri hx hb hr hlk hQ (Nat.le_of_ble_eq_true rfl) (Nat.le_of_ble_eq_true rfl) hS dX5_faultPlace_4 () ⟨_, rfl⟩ hh

abbrev rm_X7_init : Room := { frames := 1, cells := 0, slots := 0, locals := 12 }
set_option maxHeartbeats 4000000 in
set_option maxRecDepth 100000 in
theorem c_X7_init (l : Launch) (E : XE) (K : Nat → Nat) (F : Nat → Nat → Nat) (G : XG) (a : Nat) (p0 : Int32) (ha : K a = 9) : Met l yX7_init (xw yX7_init cX7_init 2 none) rm_X7_init (va_Pc [.ref a, .int p0] (XP E K F G)) (XQv E (fun (u : Unit) => True) (fun _ H => TW E K F G [] H)) 0 0 (xA E) := by
  refine x_enter (by decide) (Nat.le_of_ble_eq_true rfl) ?_
  intro p e s m args below meth c Q S hr hlk hnm hQ hP ls hl
  obtain ⟨hz, hK, hT⟩ := hP
  obtain ⟨hx, hb, -, -, -⟩ := id S
  obtain ⟨H, hT, hS, hgo⟩ : ∃ H : Heap, TW E K F G [] H ∧ va_S (xA E) s.heap H [] ∧ H = s.heap := ⟨_, hT, va_S.rf, rfl⟩
  rw [← hgo]
  have hl : lv_has ls 2 [(0, .ref a), (1, .int p0)] := hl
  refine lv_aload_n hx hb dX7_init_0 rfl (lv_at hl 0 rfl) ?_
  refine W.objInit hx hb S.2.2.2.1 (S.2.2.2.2 _ (List.mem_cons_of_mem _ km_X7_3)) (S.2.2.2.2 _ (List.mem_cons_of_mem _ koi.1)) (S.2.2.2.2 _ (List.mem_cons_of_mem _ koi.2)) rfl (by rw [S.2.2.1]; exact hl.1) rfl dX7_init_1 (Nat.le_of_ble_eq_true rfl) (Nat.le_of_ble_eq_true rfl) ?_
  refine W.eq (g2 := F0 m 4 ls []) rfl ?_
  refine lv_aload_n hx hb dX7_init_4 rfl (lv_at hl 0 rfl) ?_
  refine lv_iconst (v := (-1)) hx hb dX7_init_5 (by decide) ?_
  refine pX7_1 (kq := []) S hK hT hS ha kf_X7_9 dX7_init_6 (fun _ h => by cases h) (fun H locs hT hS => ?_)
  refine lv_aload_n hx hb dX7_init_9 rfl (lv_at hl 0 rfl) ?_
  refine lv_iconst (v := (-1)) hx hb dX7_init_10 (by decide) ?_
  refine pX7_4 (kq := [(a, 1, (-1))]) S hK hT hS ha kf_X7_15 dX7_init_11 (List.forall_mem_cons.mpr ⟨⟨List.mem_of_getElem? (i := 0) rfl, (show (1 : Nat) ≠ 4 by decide)⟩, fun _ h => by cases h⟩) (fun H locs hT hS => ?_)
  refine lv_aload_n hx hb dX7_init_14 rfl (lv_at hl 0 rfl) ?_
  refine lv_iconst (v := 0) hx hb dX7_init_15 (by decide) ?_
  refine pX7_7 (kq := [(a, 4, (-1)), (a, 1, (-1))]) S hK hT hS ha kf_X7_18 dX7_init_16 (List.forall_mem_cons.mpr ⟨⟨List.mem_of_getElem? (i := 0) rfl, (show (4 : Nat) ≠ 7 by decide)⟩, List.forall_mem_cons.mpr ⟨⟨List.mem_of_getElem? (i := 1) rfl, (show (1 : Nat) ≠ 7 by decide)⟩, fun _ h => by cases h⟩⟩) (fun H locs hT hS => ?_)
  refine lv_aload_n hx hb dX7_init_19 rfl (lv_at hl 0 rfl) ?_
  refine lv_iload_n hx hb dX7_init_20 rfl (lv_at hl 1 rfl) ?_
  refine pX7_0 (kq := [(a, 7, 0), (a, 4, (-1)), (a, 1, (-1))]) S hK hT hS ha kf_X7_21 hnm rfl dX7_init_21 (List.forall_mem_cons.mpr ⟨⟨List.mem_of_getElem? (i := 0) rfl, (show (7 : Nat) ≠ 0 by decide)⟩, List.forall_mem_cons.mpr ⟨⟨List.mem_of_getElem? (i := 1) rfl, (show (4 : Nat) ≠ 0 by decide)⟩, List.forall_mem_cons.mpr ⟨⟨List.mem_of_getElem? (i := 2) rfl, (show (1 : Nat) ≠ 0 by decide)⟩, fun _ h => by cases h⟩⟩⟩) (fun H locs hT hS => ?_)
  exact x_rv hx hb hr hlk hQ (Nat.le_of_ble_eq_true rfl) (Nat.le_of_ble_eq_true rfl) hS dX7_init_24 () trivial hT.nil

abbrev rm_X5_read : Room := { frames := 6, cells := 1, slots := 10, locals := 128 }
set_option maxHeartbeats 4000000 in
set_option maxRecDepth 100000 in
theorem c_X5_read (l : Launch) (E : XE) (K : Nat → Nat) (F : Nat → Nat → Nat) (tl z0 z1 z2 z3 z4 z5 z6 z7 z8 z9 z10 z11 z12 z13 z14 z15 z16 z17 z18 z19 z20 : Int32) (ts : List (Nat → Int32)) (a : Nat) (ha : K a = 7) : Met l yX5_read (xw yX5_read cX5_read 2 (some (.object "LateRules$Rule"))) rm_X5_read (va_Pc [.ref a] (XP E K F (tl, [z0, z1, z2, z3, z4, z5, z6, z7, z8, z9, z10, z11, z12, z13, z14, z15, z16, z17, z18, z19, z20], ts))) (XQ E (fun v (u : (Nat → Nat) × Int32 × Int32 × Int32 × Int32 × Int32) => (v = .null ∨ ∃ r : Nat, v = .ref r ∧ u.1 r = 9) ∧ KM K u.1) (fun u H => TW E u.1 F (tl, [z0, z1, z2, z3, z4, z5, z6, z7, z8, z9, z10, z11, z12, z13, z14, z15, u.2.1, u.2.2.1, u.2.2.2.1, u.2.2.2.2.1, u.2.2.2.2.2], ts) [] H)) 1 10 (xA E) := by
  refine x_enter (by decide) (Nat.le_of_ble_eq_true rfl) ?_
  intro p e s m args below meth c Q S hr hlk hnm hQ hP ls hl
  obtain ⟨hz, hK, hT⟩ := hP
  obtain ⟨hx, hb, -, -, -⟩ := id S
  obtain ⟨H, hT, hS, hgo⟩ : ∃ H : Heap, TW E K F (tl, [z0, z1, z2, z3, z4, z5, z6, z7, z8, z9, z10, z11, z12, z13, z14, z15, z16, z17, z18, z19, z20], ts) [] H ∧ va_S (xA E) s.heap H [] ∧ H = s.heap := ⟨_, hT, va_S.rf, rfl⟩
  rw [← hgo]
  have hl : lv_has ls 2 [(0, .ref a)] := hl
  refine lv_aload_n hx hb dX5_read_0 rfl (lv_at hl 0 rfl) ?_
  refine lv_iconst (v := 0) hx hb dX5_read_1 (by decide) ?_
  refine pX5_5 (kq := []) (v := 0) S hK hT hS ha kf_X5_15 (Or.inl rfl) (Nat.le_of_ble_eq_true rfl) dX5_read_2 (fun _ h => by cases h) (fun H locs hT hS => ?_)
  have hT : TW E K F (tl, [z0, z1, z2, z3, z4, z5, z6, z7, z8, z9, z10, z11, z12, z13, z14, z15, z16, z17, z18, z19, 0], ts) [] H := hT
  refine lv_aload_n hx hb dX5_read_5 rfl (lv_at hl 0 rfl) ?_
  refine lv_iconst (v := 0) hx hb dX5_read_6 (by decide) ?_
  refine pX5_3 (kq := []) (v := 0) S hK hT hS ha kf_X5_19 (Nat.le_of_ble_eq_true rfl) dX5_read_7 (fun _ h => by cases h) (fun H locs hT hS => ?_)
  have hT : TW E K F (tl, [z0, z1, z2, z3, z4, z5, z6, z7, z8, z9, z10, z11, z12, z13, z14, z15, z16, z17, 0, z19, 0], ts) [] H := hT
  refine lv_aload_n hx hb dX5_read_10 rfl (lv_at hl 0 rfl) ?_
  refine x_cv0 (x_runV (b := a) (As := []) (rest := []) S (c_X5_advance l E K F tl z0 z1 z2 z3 z4 z5 z6 z7 z8 z9 z10 z11 z12 z13 z14 z15 z16 z17 0 z19 0 ts a ha) mv_X5_advance km_X5_23 rfl rfl ⟨Nat.le_of_ble_eq_true rfl, Nat.le_of_ble_eq_true rfl⟩ (rc_7 hK hT ha) hK (fun _ => XP.blind) (fun U hU hW => XP.at hK hz hS hT hU hW) rfl hl.1 (Nat.le_of_ble_eq_true rfl) dX5_read_11 ⟨Nat.le_of_ble_eq_true rfl, Nat.le_of_ble_eq_true rfl⟩) hS ?_
  rintro ⟨u1, u2, u3, u4, u5⟩ H locs - hT hS
  have hT : TW E K F (tl, [z0, z1, z2, z3, z4, z5, z6, z7, z8, z9, z10, z11, z12, z13, z14, z15, u1, u2, u3, u4, u5], ts) [] H := hT
  refine x_newR S hK hz hT hS kn_X5_26 (Nat.le_of_ble_eq_true rfl) (Nat.le_of_ble_eq_true rfl) dX5_read_14 (fun q7 K H hM hk8 hT hS => ?_)
  have hk9 : K a = 7 := hM _ _ ha (by decide)
  refine lv_dup hx hb dX5_read_17 rfl ?_
  refine lv_aload_n hx hb dX5_read_18 rfl (lv_at hl 0 rfl) ?_
  refine x_cl0 (x_runV (b := a) (As := []) (rest := [.ref q7, .ref q7]) S (c_X5_takeKind l E K F tl z0 z1 z2 z3 z4 z5 z6 z7 z8 z9 z10 z11 z12 z13 z14 z15 u1 u2 u3 u4 u5 ts a hk9) mv_X5_takeKind km_X5_28 rfl rfl ⟨Nat.le_of_ble_eq_true rfl, Nat.le_of_ble_eq_true rfl⟩ (rc_7 hK hT hk9) hK (fun _ => XP.blind) (fun U hU hW => XP.at hK hz hS hT hU hW) rfl hl.1 (Nat.le_of_ble_eq_true rfl) dX5_read_19 ⟨Nat.le_of_ble_eq_true rfl, Nat.le_of_ble_eq_true rfl⟩) hS ?_
  rintro _ ⟨u10, u11, u12, u13, u14⟩ H locs ⟨x15, rfl⟩ hT hS
  have hT : TW E K F (tl, [z0, z1, z2, z3, z4, z5, z6, z7, z8, z9, z10, z11, z12, z13, z14, z15, u10, u11, u12, u13, u14], ts) [] H := hT
  refine x_cv0 (x_runI (b := q7) (As := [.int x15]) (rest := [.ref q7]) S (c_X7_init l E K F (tl, [z0, z1, z2, z3, z4, z5, z6, z7, z8, z9, z10, z11, z12, z13, z14, z15, u10, u11, u12, u13, u14], ts) q7 x15 hk8) mi_X7_init rfl km_X5_32 rfl rfl ⟨Nat.le_of_ble_eq_true rfl, Nat.le_of_ble_eq_true rfl⟩ hK (fun _ => XP.blind) (fun U hU hW => XP.at hK hz hS hT hU hW) rfl hl.1 (Nat.le_of_ble_eq_true rfl) dX5_read_22 ⟨Nat.le_of_ble_eq_true rfl, Nat.le_of_ble_eq_true rfl⟩) hS ?_
  rintro _ H locs - hT hS
  refine lv_astore_n (lv' := [(1, .ref q7), (0, .ref a)]) hx hb dX5_read_25 rfl hl (by decide) rfl (fun ls hl => ?_)
  refine lv_aload_n hx hb dX5_read_26 rfl (lv_at hl 0 rfl) ?_
  refine lv_aload_n hx hb dX5_read_27 rfl (lv_at hl 1 rfl) ?_
  refine lv_iconst (v := 0) hx hb dX5_read_28 (by decide) ?_
  refine lv_iconst (v := 2) hx hb dX5_read_29 (by decide) ?_
  refine x_cl0 (x_runV (b := a) (As := [.int 0, .int 2]) (rest := [.ref q7]) S (c_X5_takeNumber l E K F tl z0 z1 z2 z3 z4 z5 z6 z7 z8 z9 z10 z11 z12 z13 z14 z15 u10 u11 u12 u13 u14 ts a 0 2 hk9) mv_X5_takeNumber km_X5_35 rfl rfl ⟨Nat.le_of_ble_eq_true rfl, Nat.le_of_ble_eq_true rfl⟩ (rc_7 hK hT hk9) hK (fun _ => XP.blind) (fun U hU hW => XP.at hK hz hS hT hU hW) rfl hl.1 (Nat.le_of_ble_eq_true rfl) dX5_read_30 ⟨Nat.le_of_ble_eq_true rfl, Nat.le_of_ble_eq_true rfl⟩) hS ?_
  rintro _ ⟨u16, u17, u18, u19, u20⟩ H locs ⟨x21, rfl⟩ hT hS
  have hT : TW E K F (tl, [z0, z1, z2, z3, z4, z5, z6, z7, z8, z9, z10, z11, z12, z13, z14, z15, u16, u17, u18, u19, u20], ts) [] H := hT
  refine pX7_2 (kq := []) S hK hT hS hk8 kf_X5_39 dX5_read_33 (fun _ h => by cases h) (fun H locs hT hS => ?_)
  refine lv_aload_n hx hb dX5_read_36 rfl (lv_at hl 0 rfl) ?_
  refine lv_aload_n hx hb dX5_read_37 rfl (lv_at hl 1 rfl) ?_
  refine lv_iconst (v := 0) hx hb dX5_read_38 (by decide) ?_
  refine lv_iconst (v := 2) hx hb dX5_read_39 (by decide) ?_
  refine x_cl0 (x_runV (b := a) (As := [.int 0, .int 2]) (rest := [.ref q7]) S (c_X5_takeNumber l E K F tl z0 z1 z2 z3 z4 z5 z6 z7 z8 z9 z10 z11 z12 z13 z14 z15 u16 u17 u18 u19 u20 ts a 0 2 hk9) mv_X5_takeNumber km_X5_35 rfl rfl ⟨Nat.le_of_ble_eq_true rfl, Nat.le_of_ble_eq_true rfl⟩ (rc_7 hK hT hk9) hK (fun _ => XP.blind) (fun U hU hW => XP.at hK hz hS hT hU hW) rfl hl.1 (Nat.le_of_ble_eq_true rfl) dX5_read_40 ⟨Nat.le_of_ble_eq_true rfl, Nat.le_of_ble_eq_true rfl⟩) hS ?_
  rintro _ ⟨u22, u23, u24, u25, u26⟩ H locs ⟨x27, rfl⟩ hT hS
  have hT : TW E K F (tl, [z0, z1, z2, z3, z4, z5, z6, z7, z8, z9, z10, z11, z12, z13, z14, z15, u22, u23, u24, u25, u26], ts) [] H := hT
  refine pX7_3 (kq := []) S hK hT hS hk8 kf_X5_42 dX5_read_43 (fun _ h => by cases h) (fun H locs hT hS => ?_)
  refine lv_aload_n hx hb dX5_read_46 rfl (lv_at hl 0 rfl) ?_
  refine gX7_0 S hK hT hk8 kf_X5_45 dX5_read_47 (fun x28 hT => ?_)
  refine lv_iconst (v := 1) hx hb dX5_read_50 (by decide) ?_
  have J80 : ∀ (x29 : Int32) (x30 : Int32) (x31 : Int32) (x32 : Int32) (x33 : Int32) (H : Heap) (locs : List Loc) (ls : Array Slot), TW E K F (tl, [z0, z1, z2, z3, z4, z5, z6, z7, z8, z9, z10, z11, z12, z13, z14, z15, x29, x30, x31, x32, x33], ts) [] H → va_S (xA E) s.heap H locs → lv_has ls 2 [(0, .ref a), (1, .ref q7)] → W p l e rm_X5_read s m args below meth c H locs 1 10 Q (F0 m 80 ls []) := by
    intro x29 x30 x31 x32 x33 H locs ls hT hS hl
    refine lv_aload_n hx hb dX5_read_80 rfl (lv_at hl 1 rfl) ?_
    refine gX7_0 S hK hT hk8 kf_X5_45 dX5_read_81 (fun x34 hT => ?_)
    refine lv_iconst (v := 2) hx hb dX5_read_84 (by decide) ?_
    have J133 : ∀ (x35 : Int32) (x36 : Int32) (x37 : Int32) (x38 : Int32) (x39 : Int32) (H : Heap) (locs : List Loc) (ls : Array Slot), TW E K F (tl, [z0, z1, z2, z3, z4, z5, z6, z7, z8, z9, z10, z11, z12, z13, z14, z15, x35, x36, x37, x38, x39], ts) [] H → va_S (xA E) s.heap H locs → lv_has ls 2 [(0, .ref a), (1, .ref q7)] → W p l e rm_X5_read s m args below meth c H locs 1 10 Q (F0 m 133 ls []) := by
      intro x35 x36 x37 x38 x39 H locs ls hT hS hl
      refine lv_aload_n hx hb dX5_read_133 rfl (lv_at hl 1 rfl) ?_
      refine gX7_0 S hK hT hk8 kf_X5_45 dX5_read_134 (fun x40 hT => ?_)
      refine lv_iconst (v := 1) hx hb dX5_read_137 (by decide) ?_
      have J149 : ∀ (x41 : Int32) (x42 : Int32) (x43 : Int32) (x44 : Int32) (x45 : Int32) (H : Heap) (locs : List Loc) (ls : Array Slot), TW E K F (tl, [z0, z1, z2, z3, z4, z5, z6, z7, z8, z9, z10, z11, z12, z13, z14, z15, x41, x42, x43, x44, x45], ts) [] H → va_S (xA E) s.heap H locs → lv_has ls 2 [(0, .ref a), (1, .ref q7)] → W p l e rm_X5_read s m args below meth c H locs 1 10 Q (F0 m 149 ls []) := by
        intro x41 x42 x43 x44 x45 H locs ls hT hS hl
        refine lv_aload_n hx hb dX5_read_149 rfl (lv_at hl 1 rfl) ?_
        refine lv_aload_n hx hb dX5_read_150 rfl (lv_at hl 0 rfl) ?_
        refine va_ldcS hx hb S.2.2.2.1 (hK.2.2.1 8 _ rfl) dX5_read_151 ?_
        refine x_cl0 (x_runV (b := a) (As := [.ref (E.2.2.2.2.1 8)]) (rest := [.ref q7]) S (c_X5_takeWord l E K F tl z0 z1 z2 z3 z4 z5 z6 z7 z8 z9 z10 z11 z12 z13 z14 z15 x41 x42 x43 x44 x45 ts a 8 hk9 (show 8 < 13 by decide)) mv_X5_takeWord km_X5_65 rfl rfl ⟨Nat.le_of_ble_eq_true rfl, Nat.le_of_ble_eq_true rfl⟩ (rc_7 hK hT hk9) hK (fun _ => XP.blind) (fun U hU hW => XP.at hK hz hS hT hU hW) rfl hl.1 (Nat.le_of_ble_eq_true rfl) dX5_read_153 ⟨Nat.le_of_ble_eq_true rfl, Nat.le_of_ble_eq_true rfl⟩) hS ?_
        rintro _ ⟨u46, u47, u48, u49, u50⟩ H locs ⟨x51, rfl, b52⟩ hT hS
        have hT : TW E K F (tl, [z0, z1, z2, z3, z4, z5, z6, z7, z8, z9, z10, z11, z12, z13, z14, z15, u46, u47, u48, u49, u50], ts) [] H := hT
        refine pX7_9 (kq := []) S hK hT hS hk8 kf_X5_69 b52 dX5_read_156 (fun _ h => by cases h) (fun H locs hT hS => ?_)
        refine lv_aload_n hx hb dX5_read_159 rfl (lv_at hl 1 rfl) ?_
        refine lv_aload_n hx hb dX5_read_160 rfl (lv_at hl 0 rfl) ?_
        refine va_ldcS hx hb S.2.2.2.1 (hK.2.2.1 9 _ rfl) dX5_read_161 ?_
        refine x_cl0 (x_runV (b := a) (As := [.ref (E.2.2.2.2.1 9)]) (rest := [.ref q7]) S (c_X5_takeWord l E K F tl z0 z1 z2 z3 z4 z5 z6 z7 z8 z9 z10 z11 z12 z13 z14 z15 u46 u47 u48 u49 u50 ts a 9 hk9 (show 9 < 13 by decide)) mv_X5_takeWord km_X5_65 rfl rfl ⟨Nat.le_of_ble_eq_true rfl, Nat.le_of_ble_eq_true rfl⟩ (rc_7 hK hT hk9) hK (fun _ => XP.blind) (fun U hU hW => XP.at hK hz hS hT hU hW) rfl hl.1 (Nat.le_of_ble_eq_true rfl) dX5_read_163 ⟨Nat.le_of_ble_eq_true rfl, Nat.le_of_ble_eq_true rfl⟩) hS ?_
        rintro _ ⟨u53, u54, u55, u56, u57⟩ H locs ⟨x58, rfl, b59⟩ hT hS
        have hT : TW E K F (tl, [z0, z1, z2, z3, z4, z5, z6, z7, z8, z9, z10, z11, z12, z13, z14, z15, u53, u54, u55, u56, u57], ts) [] H := hT
        have J181 : ∀ (x60 : Int32) (x61 : Int32) (x62 : Int32) (x63 : Int32) (x64 : Int32) (x65 : Int32) (H : Heap) (locs : List Loc) (ls : Array Slot), TW E K F (tl, [z0, z1, z2, z3, z4, z5, z6, z7, z8, z9, z10, z11, z12, z13, z14, z15, x60, x61, x62, x63, x64], ts) [] H → va_S (xA E) s.heap H locs → lv_has ls 2 [(0, .ref a), (1, .ref q7)] → W p l e rm_X5_read s m args below meth c H locs 1 10 Q (F0 m 181 ls [.int x65, .ref q7]) := by
          intro x60 x61 x62 x63 x64 x65 H locs ls hT hS hl
          refine pX7_8 (kq := []) S hK hT hS hk8 kf_X5_73 dX5_read_181 (fun _ h => by cases h) (fun H locs hT hS => ?_)
          refine lv_aload_n hx hb dX5_read_184 rfl (lv_at hl 0 rfl) ?_
          refine gX5_1 S hK hT hk9 kf_X5_75 dX5_read_185 (v := x60) rfl ?_
          have J196 : ∀ (x66 : Int32) (H : Heap) (locs : List Loc) (ls : Array Slot), TW E K F (tl, [z0, z1, z2, z3, z4, z5, z6, z7, z8, z9, z10, z11, z12, z13, z14, z15, x60, x61, x62, x63, x66], ts) [(q7, 8, x65)] H → va_S (xA E) s.heap H locs → lv_has ls 2 [(0, .ref a), (1, .ref q7)] → W p l e rm_X5_read s m args below meth c H locs 1 10 Q (F0 m 196 ls []) := by
            intro x66 H locs ls hT hS hl
            refine lv_aload_n hx hb dX5_read_196 rfl (lv_at hl 0 rfl) ?_
            refine gX5_5 S hK hT hk9 kf_X5_15 dX5_read_197 (v := x66) rfl ?_
            refine xi_zeq (tgt := 207) hx hb (rfl : Int32.toInt x66 = x66.toInt) dX5_read_200 (by decide) (fun c67 => ?_) (fun c67 => ?_)
            · refine lv_aload_n hx hb dX5_read_207 rfl (lv_at hl 1 rfl) ?_
              exact x_ra hx hb hr (by first | exact Or.inl ⟨_, rfl⟩ | exact Or.inr ⟨_, rfl⟩) (by first | exact Or.inl rfl | exact Or.inr ⟨_, rfl⟩) hlk hQ (Nat.le_of_ble_eq_true rfl) (Nat.le_of_ble_eq_true rfl) hS dX5_read_208 (K, x60, x61, x62, x63, x66) ⟨Or.inr ⟨_, rfl, hk8⟩, hM⟩ hT.nil
            · refine lv_null hx hb dX5_read_203 ?_
              refine lv_goto (tgt := 208) hx hb dX5_read_204 (by decide) ?_
              exact x_ra hx hb hr (by first | exact Or.inl ⟨_, rfl⟩ | exact Or.inr ⟨_, rfl⟩) (by first | exact Or.inl rfl | exact Or.inr ⟨_, rfl⟩) hlk hQ (Nat.le_of_ble_eq_true rfl) (Nat.le_of_ble_eq_true rfl) hS dX5_read_208 (K, x60, x61, x62, x63, x66) ⟨Or.inl rfl, hM⟩ hT.nil
          refine xi_zeq (tgt := 196) hx hb (rfl : Int32.toInt x60 = x60.toInt) dX5_read_188 (by decide) (fun c68 => ?_) (fun c68 => ?_)
          · exact J196 x64 _ _ _ hT hS (lv_sub hl [0, 1] rfl)
          · refine lv_aload_n hx hb dX5_read_191 rfl (lv_at hl 0 rfl) ?_
            refine lv_iconst (v := 1) hx hb dX5_read_192 (by decide) ?_
            refine pX5_5 (kq := [(q7, 8, x65)]) (v := 1) S hK hT hS hk9 kf_X5_15 (Or.inr rfl) (Nat.le_of_ble_eq_true rfl) dX5_read_193 (List.forall_mem_cons.mpr ⟨⟨List.mem_of_getElem? (i := 0) rfl, (show (8 : Nat) ≠ 5 by decide)⟩, fun _ h => by cases h⟩) (fun H locs hT hS => ?_)
            have hT : TW E K F (tl, [z0, z1, z2, z3, z4, z5, z6, z7, z8, z9, z10, z11, z12, z13, z14, z15, x60, x61, x62, x63, 1], ts) [(q7, 8, x65)] H := hT
            exact J196 1 _ _ _ hT hS (lv_sub hl [0, 1] rfl)
        refine xi_zeq (tgt := 179) hx hb (rfl : Int32.toInt x58 = x58.toInt) dX5_read_166 (by decide) (fun c69 => ?_) (fun c69 => ?_)
        · refine lv_bipush (v := 50) hx hb dX5_read_179 (by decide) ?_
          exact J181 u53 u54 u55 u56 u57 50 _ _ _ hT.nil hS (lv_sub hl [0, 1] rfl)
        · refine lv_aload_n hx hb dX5_read_169 rfl (lv_at hl 0 rfl) ?_
          refine lv_iconst (v := 0) hx hb dX5_read_170 (by decide) ?_
          refine lv_bipush (v := 99) hx hb dX5_read_171 (by decide) ?_
          refine x_cl0 (x_runV (b := a) (As := [.int 0, .int 99]) (rest := [.ref q7]) S (c_X5_takeNumber l E K F tl z0 z1 z2 z3 z4 z5 z6 z7 z8 z9 z10 z11 z12 z13 z14 z15 u53 u54 u55 u56 u57 ts a 0 99 hk9) mv_X5_takeNumber km_X5_35 rfl rfl ⟨Nat.le_of_ble_eq_true rfl, Nat.le_of_ble_eq_true rfl⟩ (rc_7 hK hT hk9) hK (fun _ => XP.blind) (fun U hU hW => XP.at hK hz hS hT hU hW) rfl hl.1 (Nat.le_of_ble_eq_true rfl) dX5_read_173 ⟨Nat.le_of_ble_eq_true rfl, Nat.le_of_ble_eq_true rfl⟩) hS ?_
          rintro _ ⟨u70, u71, u72, u73, u74⟩ H locs ⟨x75, rfl⟩ hT hS
          have hT : TW E K F (tl, [z0, z1, z2, z3, z4, z5, z6, z7, z8, z9, z10, z11, z12, z13, z14, z15, u70, u71, u72, u73, u74], ts) [] H := hT
          refine lv_goto (tgt := 181) hx hb dX5_read_176 (by decide) ?_
          exact J181 u70 u71 u72 u73 u74 x75 _ _ _ hT.nil hS (lv_sub hl [0, 1] rfl)
      refine xi_cne (tgt := 149) hx hb (rfl : Int32.toInt x40 = x40.toInt) ((by decide) : Int32.toInt 1 = (1 : Int)) dX5_read_138 (by decide) (fun c76 => ?_) (fun c76 => ?_)
      · exact J149 x35 x36 x37 x38 x39 _ _ _ hT.nil hS (lv_sub hl [0, 1] rfl)
      · refine lv_aload_n hx hb dX5_read_141 rfl (lv_at hl 1 rfl) ?_
        refine lv_aload_n hx hb dX5_read_142 rfl (lv_at hl 0 rfl) ?_
        refine x_cl0 (x_runV (b := a) (As := []) (rest := [.ref q7]) S (c_X5_takeAction l E K F tl z0 z1 z2 z3 z4 z5 z6 z7 z8 z9 z10 z11 z12 z13 z14 z15 x35 x36 x37 x38 x39 ts a hk9) mv_X5_takeAction km_X5_57 rfl rfl ⟨Nat.le_of_ble_eq_true rfl, Nat.le_of_ble_eq_true rfl⟩ (rc_7 hK hT hk9) hK (fun _ => XP.blind) (fun U hU hW => XP.at hK hz hS hT hU hW) rfl hl.1 (Nat.le_of_ble_eq_true rfl) dX5_read_143 ⟨Nat.le_of_ble_eq_true rfl, Nat.le_of_ble_eq_true rfl⟩) hS ?_
        rintro _ ⟨u77, u78, u79, u80, u81⟩ H locs ⟨x82, rfl⟩ hT hS
        have hT : TW E K F (tl, [z0, z1, z2, z3, z4, z5, z6, z7, z8, z9, z10, z11, z12, z13, z14, z15, u77, u78, u79, u80, u81], ts) [] H := hT
        refine pX7_7 (kq := []) S hK hT hS hk8 kf_X5_60 dX5_read_146 (fun _ h => by cases h) (fun H locs hT hS => ?_)
        exact J149 u77 u78 u79 u80 u81 _ _ _ hT.nil hS (lv_sub hl [0, 1] rfl)
    have J104 : ∀ (H : Heap) (locs : List Loc) (ls : Array Slot), TW E K F (tl, [z0, z1, z2, z3, z4, z5, z6, z7, z8, z9, z10, z11, z12, z13, z14, z15, x29, x30, x31, x32, x33], ts) [(q7, 0, x34)] H → va_S (xA E) s.heap H locs → lv_has ls 2 [(0, .ref a), (1, .ref q7)] → W p l e rm_X5_read s m args below meth c H locs 1 10 Q (F0 m 104 ls []) := by
      intro H locs ls hT hS hl
      refine lv_aload_n hx hb dX5_read_104 rfl (lv_at hl 1 rfl) ?_
      refine lv_aload_n hx hb dX5_read_105 rfl (lv_at hl 0 rfl) ?_
      refine lv_sipush (v := (-9999)) hx hb dX5_read_106 (by decide) ?_
      refine lv_sipush (v := 9999) hx hb dX5_read_109 (by decide) ?_
      refine x_cl0 (x_runV (b := a) (As := [.int (-9999), .int 9999]) (rest := [.ref q7]) S (c_X5_takeNumber l E K F tl z0 z1 z2 z3 z4 z5 z6 z7 z8 z9 z10 z11 z12 z13 z14 z15 x29 x30 x31 x32 x33 ts a (-9999) 9999 hk9) mv_X5_takeNumber km_X5_35 rfl rfl ⟨Nat.le_of_ble_eq_true rfl, Nat.le_of_ble_eq_true rfl⟩ (rc_7 hK hT hk9) hK (fun _ => XP.blind) (fun U hU hW => XP.at hK hz hS hT hU hW) rfl hl.1 (Nat.le_of_ble_eq_true rfl) dX5_read_112 ⟨Nat.le_of_ble_eq_true rfl, Nat.le_of_ble_eq_true rfl⟩) hS ?_
      rintro _ ⟨u83, u84, u85, u86, u87⟩ H locs ⟨x88, rfl⟩ hT hS
      have hT : TW E K F (tl, [z0, z1, z2, z3, z4, z5, z6, z7, z8, z9, z10, z11, z12, z13, z14, z15, u83, u84, u85, u86, u87], ts) [] H := hT
      refine pX7_5 (kq := []) S hK hT hS hk8 kf_X5_51 dX5_read_115 (fun _ h => by cases h) (fun H locs hT hS => ?_)
      refine lv_aload_n hx hb dX5_read_118 rfl (lv_at hl 1 rfl) ?_
      refine lv_aload_n hx hb dX5_read_119 rfl (lv_at hl 0 rfl) ?_
      refine lv_aload_n hx hb dX5_read_120 rfl (lv_at hl 1 rfl) ?_
      refine kX7_5 (v := x88) S hK hT hk8 (List.mem_of_getElem? (i := 0) rfl) kf_X5_51 dX5_read_121 ?_
      refine lv_sipush (v := 9999) hx hb dX5_read_124 (by decide) ?_
      refine x_cl0 (x_runV (b := a) (As := [.int x88, .int 9999]) (rest := [.ref q7]) S (c_X5_takeNumber l E K F tl z0 z1 z2 z3 z4 z5 z6 z7 z8 z9 z10 z11 z12 z13 z14 z15 u83 u84 u85 u86 u87 ts a x88 9999 hk9) mv_X5_takeNumber km_X5_35 rfl rfl ⟨Nat.le_of_ble_eq_true rfl, Nat.le_of_ble_eq_true rfl⟩ (rc_7 hK hT hk9) hK (fun _ => XP.blind) (fun U hU hW => XP.at hK hz hS hT hU hW) rfl hl.1 (Nat.le_of_ble_eq_true rfl) dX5_read_127 ⟨Nat.le_of_ble_eq_true rfl, Nat.le_of_ble_eq_true rfl⟩) hS ?_
      rintro _ ⟨u89, u90, u91, u92, u93⟩ H locs ⟨x94, rfl⟩ hT hS
      have hT : TW E K F (tl, [z0, z1, z2, z3, z4, z5, z6, z7, z8, z9, z10, z11, z12, z13, z14, z15, u89, u90, u91, u92, u93], ts) [] H := hT
      refine pX7_6 (kq := []) S hK hT hS hk8 kf_X5_54 dX5_read_130 (fun _ h => by cases h) (fun H locs hT hS => ?_)
      exact J133 u89 u90 u91 u92 u93 _ _ _ hT.nil hS (lv_sub hl [0, 1] rfl)
    refine xi_ceq (tgt := 104) hx hb (rfl : Int32.toInt x34 = x34.toInt) ((by decide) : Int32.toInt 2 = (2 : Int)) dX5_read_85 (by decide) (fun c95 => ?_) (fun c95 => ?_)
    · exact J104 _ _ _ hT hS (lv_sub hl [0, 1] rfl)
    · refine lv_aload_n hx hb dX5_read_88 rfl (lv_at hl 1 rfl) ?_
      refine kX7_0 (v := x34) S hK hT hk8 (List.mem_of_getElem? (i := 0) rfl) kf_X5_45 dX5_read_89 ?_
      refine lv_iconst (v := 3) hx hb dX5_read_92 (by decide) ?_
      refine xi_ceq (tgt := 104) hx hb (rfl : Int32.toInt x34 = x34.toInt) ((by decide) : Int32.toInt 3 = (3 : Int)) dX5_read_93 (by decide) (fun c96 => ?_) (fun c96 => ?_)
      · exact J104 _ _ _ hT hS (lv_sub hl [0, 1] rfl)
      · refine lv_aload_n hx hb dX5_read_96 rfl (lv_at hl 1 rfl) ?_
        refine kX7_0 (v := x34) S hK hT hk8 (List.mem_of_getElem? (i := 0) rfl) kf_X5_45 dX5_read_97 ?_
        refine lv_iconst (v := 4) hx hb dX5_read_100 (by decide) ?_
        refine xi_cne (tgt := 133) hx hb (rfl : Int32.toInt x34 = x34.toInt) ((by decide) : Int32.toInt 4 = (4 : Int)) dX5_read_101 (by decide) (fun c97 => ?_) (fun c97 => ?_)
        · exact J133 x29 x30 x31 x32 x33 _ _ _ hT.nil hS (lv_sub hl [0, 1] rfl)
        · exact J104 _ _ _ hT hS (lv_sub hl [0, 1] rfl)
  have J70 : ∀ (H : Heap) (locs : List Loc) (ls : Array Slot), TW E K F (tl, [z0, z1, z2, z3, z4, z5, z6, z7, z8, z9, z10, z11, z12, z13, z14, z15, u22, u23, u24, u25, u26], ts) [(q7, 0, x28), (q7, 3, x27)] H → va_S (xA E) s.heap H locs → lv_has ls 2 [(0, .ref a), (1, .ref q7)] → W p l e rm_X5_read s m args below meth c H locs 1 10 Q (F0 m 70 ls []) := by
    intro H locs ls hT hS hl
    refine lv_aload_n hx hb dX5_read_70 rfl (lv_at hl 1 rfl) ?_
    refine lv_aload_n hx hb dX5_read_71 rfl (lv_at hl 0 rfl) ?_
    refine lv_iconst (v := 0) hx hb dX5_read_72 (by decide) ?_
    refine lv_iconst (v := 2) hx hb dX5_read_73 (by decide) ?_
    refine x_cl0 (x_runV (b := a) (As := [.int 0, .int 2]) (rest := [.ref q7]) S (c_X5_takeNumber l E K F tl z0 z1 z2 z3 z4 z5 z6 z7 z8 z9 z10 z11 z12 z13 z14 z15 u22 u23 u24 u25 u26 ts a 0 2 hk9) mv_X5_takeNumber km_X5_35 rfl rfl ⟨Nat.le_of_ble_eq_true rfl, Nat.le_of_ble_eq_true rfl⟩ (rc_7 hK hT hk9) hK (fun _ => XP.blind) (fun U hU hW => XP.at hK hz hS hT hU hW) rfl hl.1 (Nat.le_of_ble_eq_true rfl) dX5_read_74 ⟨Nat.le_of_ble_eq_true rfl, Nat.le_of_ble_eq_true rfl⟩) hS ?_
    rintro _ ⟨u98, u99, u100, u101, u102⟩ H locs ⟨x103, rfl⟩ hT hS
    have hT : TW E K F (tl, [z0, z1, z2, z3, z4, z5, z6, z7, z8, z9, z10, z11, z12, z13, z14, z15, u98, u99, u100, u101, u102], ts) [] H := hT
    refine pX7_4 (kq := []) S hK hT hS hk8 kf_X5_48 dX5_read_77 (fun _ h => by cases h) (fun H locs hT hS => ?_)
    exact J80 u98 u99 u100 u101 u102 _ _ _ hT.nil hS (lv_sub hl [0, 1] rfl)
  refine xi_ceq (tgt := 70) hx hb (rfl : Int32.toInt x28 = x28.toInt) ((by decide) : Int32.toInt 1 = (1 : Int)) dX5_read_51 (by decide) (fun c104 => ?_) (fun c104 => ?_)
  · exact J70 _ _ _ hT hS (lv_sub hl [1, 0] rfl)
  · refine lv_aload_n hx hb dX5_read_54 rfl (lv_at hl 0 rfl) ?_
    refine kX7_0 (v := x28) S hK hT hk8 (List.mem_of_getElem? (i := 0) rfl) kf_X5_45 dX5_read_55 ?_
    refine lv_iconst (v := 3) hx hb dX5_read_58 (by decide) ?_
    refine xi_ceq (tgt := 70) hx hb (rfl : Int32.toInt x28 = x28.toInt) ((by decide) : Int32.toInt 3 = (3 : Int)) dX5_read_59 (by decide) (fun c105 => ?_) (fun c105 => ?_)
    · exact J70 _ _ _ hT hS (lv_sub hl [1, 0] rfl)
    · refine lv_aload_n hx hb dX5_read_62 rfl (lv_at hl 0 rfl) ?_
      refine kX7_0 (v := x28) S hK hT hk8 (List.mem_of_getElem? (i := 0) rfl) kf_X5_45 dX5_read_63 ?_
      refine lv_iconst (v := 4) hx hb dX5_read_66 (by decide) ?_
      refine xi_cne (tgt := 80) hx hb (rfl : Int32.toInt x28 = x28.toInt) ((by decide) : Int32.toInt 4 = (4 : Int)) dX5_read_67 (by decide) (fun c106 => ?_) (fun c106 => ?_)
      · exact J80 u22 u23 u24 u25 u26 _ _ _ hT.nil hS (lv_sub hl [1, 0] rfl)
      · exact J70 _ _ _ hT hS (lv_sub hl [1, 0] rfl)

theorem z_X10_rule_1 (a0 : Int) (a1 : Int) (a2 : Int) (h0 : 0 ≤ a0 ∧ a0 ≤ 80) (h1 : (a2 = 1 ∧ a1 = (0 : Int) ∧ 0 ≤ (0 : Int) ∧ (0 : Int) ≤ a0) ∨ (a2 = 0 ∧ a1 = a0 ∧ ((0 : Int) < 0 ∨ a0 < (0 : Int)))) (r0 : -2147483648 ≤ a0 ∧ a0 < 2147483648) (r1 : -2147483648 ≤ a1 ∧ a1 < 2147483648) (r2 : -2147483648 ≤ a2 ∧ a2 < 2147483648) : a1 = 0 := by omega
theorem z_X10_rule_2 (a0 : Int) (a1 : Int) (a2 : Int) (h0 : 0 ≤ a0 ∧ a0 ≤ 80) (h1 : (a2 = 1 ∧ a1 = (0 : Int) ∧ 0 ≤ (0 : Int) ∧ (0 : Int) ≤ a0) ∨ (a2 = 0 ∧ a1 = a0 ∧ ((0 : Int) < 0 ∨ a0 < (0 : Int)))) (r0 : -2147483648 ≤ a0 ∧ a0 < 2147483648) (r1 : -2147483648 ≤ a1 ∧ a1 < 2147483648) (r2 : -2147483648 ≤ a2 ∧ a2 < 2147483648) : a1 = 0 := by omega
theorem z_X10_rule_3 (a0 : Int) (a1 : Int) (a2 : Int) (h0 : 0 ≤ a0 ∧ a0 ≤ 80) (h1 : (a2 = 1 ∧ a1 = (0 : Int) ∧ 0 ≤ (0 : Int) ∧ (0 : Int) ≤ a0) ∨ (a2 = 0 ∧ a1 = a0 ∧ ((0 : Int) < 0 ∨ a0 < (0 : Int)))) (r0 : -2147483648 ≤ a0 ∧ a0 < 2147483648) (r1 : -2147483648 ≤ a1 ∧ a1 < 2147483648) (r2 : -2147483648 ≤ a2 ∧ a2 < 2147483648) : a1 = 0 := by omega
theorem z_X10_rule_4 (a0 : Int) (a1 : Int) (a2 : Int) (h0 : 0 ≤ a0 ∧ a0 ≤ 80) (h1 : (a2 = 1 ∧ a1 = (0 : Int) ∧ 0 ≤ (0 : Int) ∧ (0 : Int) ≤ a0) ∨ (a2 = 0 ∧ a1 = a0 ∧ ((0 : Int) < 0 ∨ a0 < (0 : Int)))) (r0 : -2147483648 ≤ a0 ∧ a0 < 2147483648) (r1 : -2147483648 ≤ a1 ∧ a1 < 2147483648) (r2 : -2147483648 ≤ a2 ∧ a2 < 2147483648) : a1 = 0 := by omega
theorem z_X10_rule_5 (a0 : Int) (a1 : Int) (a2 : Int) (h0 : 0 ≤ a0 ∧ a0 ≤ 80) (h1 : (a2 = 1 ∧ a1 = (0 : Int) ∧ 0 ≤ (0 : Int) ∧ (0 : Int) ≤ a0) ∨ (a2 = 0 ∧ a1 = a0 ∧ ((0 : Int) < 0 ∨ a0 < (0 : Int)))) (r0 : -2147483648 ≤ a0 ∧ a0 < 2147483648) (r1 : -2147483648 ≤ a1 ∧ a1 < 2147483648) (r2 : -2147483648 ≤ a2 ∧ a2 < 2147483648) : a1 = 0 := by omega
abbrev rm_X10_rule : Room := { frames := 7, cells := 9, slots := 810, locals := 171 }
set_option maxHeartbeats 4000000 in
set_option maxRecDepth 100000 in
theorem c_X10_rule (l : Launch) (E : XE) (K : Nat → Nat) (F : Nat → Nat → Nat) (tl z0 z1 z2 z3 z4 z5 z6 z7 z8 z9 z10 z11 z12 z13 z14 z15 z16 z17 z18 z19 z20 : Int32) (ts : List (Nat → Int32)) (a : Nat) (ha : K a = 12) (e0 : 0 ≤ tl.toInt ∧ tl.toInt ≤ 80) : Met l yX10_rule (xw yX10_rule cX10_rule 4 (some .int)) rm_X10_rule (va_Pc [.ref a] (XP E K F (tl, [z0, z1, z2, z3, z4, z5, z6, z7, z8, z9, z10, z11, z12, z13, z14, z15, z16, z17, z18, z19, z20], ts))) (XQ E (fun v (u : (Nat → Nat) × Int32 × Int32 × Int32 × Int32 × Int32 × Int32) => (∃ r : Int32, v = .int r) ∧ u.2.1.toInt = 0 ∧ KM K u.1) (fun u H => TW E u.1 F (u.2.1, [z0, z1, z2, z3, z4, z5, z6, z7, z8, z9, z10, z11, z12, z13, z14, z15, u.2.2.1, u.2.2.2.1, u.2.2.2.2.1, u.2.2.2.2.2.1, u.2.2.2.2.2.2], ts) [] H)) 9 810 (xA E) := by
  refine x_enter (by decide) (Nat.le_of_ble_eq_true rfl) ?_
  intro p e s m args below meth c Q S hr hlk hnm hQ hP ls hl
  obtain ⟨hz, hK, hT⟩ := hP
  obtain ⟨hx, hb, -, -, -⟩ := id S
  obtain ⟨H, hT, hS, hgo⟩ : ∃ H : Heap, TW E K F (tl, [z0, z1, z2, z3, z4, z5, z6, z7, z8, z9, z10, z11, z12, z13, z14, z15, z16, z17, z18, z19, z20], ts) [] H ∧ va_S (xA E) s.heap H [] ∧ H = s.heap := ⟨_, hT, va_S.rf, rfl⟩
  rw [← hgo]
  have hl : lv_has ls 4 [(0, .ref a)] := hl
  refine lv_aload_n hx hb dX10_rule_0 rfl (lv_at hl 0 rfl) ?_
  refine gX10_14 S hK hT ha kf_X10_91 dX10_rule_1 (fun hk1 => ?_)
  refine x_cv (x_runV (b := (F a 14)) (As := []) (rest := []) S (c_X9_clear l E K F (tl, [z0, z1, z2, z3, z4, z5, z6, z7, z8, z9, z10, z11, z12, z13, z14, z15, z16, z17, z18, z19, z20], ts) (F a 14) hk1) mv_X9_clear km_X10_113 rfl rfl ⟨Nat.le_of_ble_eq_true rfl, Nat.le_of_ble_eq_true rfl⟩ (rc_11 hK hT hk1) hK (fun _ => XP.blind) (fun U hU hW => XP.at hK hz hS hT hU hW) rfl hl.1 (Nat.le_of_ble_eq_true rfl) dX10_rule_4 ⟨Nat.le_of_ble_eq_true rfl, Nat.le_of_ble_eq_true rfl⟩) hS ?_
  rintro _ H locs - hT hS
  refine lv_aload_n hx hb dX10_rule_7 rfl (lv_at hl 0 rfl) ?_
  refine gX10_1 S hK hT ha kf_X10_23 dX10_rule_8 (fun hk2 => ?_)
  refine x_cl (x_runV (b := (F a 1)) (As := []) (rest := []) S (c_X5_read l E K F tl z0 z1 z2 z3 z4 z5 z6 z7 z8 z9 z10 z11 z12 z13 z14 z15 z16 z17 z18 z19 z20 ts (F a 1) hk2) mv_X5_read km_X10_116 rfl rfl ⟨Nat.le_of_ble_eq_true rfl, Nat.le_of_ble_eq_true rfl⟩ (rc_7 hK hT hk2) hK (fun _ => XP.blind) (fun U hU hW => XP.at hK hz hS hT hU hW) rfl hl.1 (Nat.le_of_ble_eq_true rfl) dX10_rule_11 ⟨Nat.le_of_ble_eq_true rfl, Nat.le_of_ble_eq_true rfl⟩) hS ?_
  rintro v9 ⟨K, u3, u4, u5, u6, u7⟩ H locs ⟨hv9, hM⟩ hT hS
  have hT : TW E K F (tl, [z0, z1, z2, z3, z4, z5, z6, z7, z8, z9, z10, z11, z12, z13, z14, z15, u3, u4, u5, u6, u7], ts) [] H := hT
  have hk10 : K a = 12 := hM _ _ ha (by decide)
  rcases hv9 with rfl | ⟨q8, rfl, hk9⟩
  · refine lv_astore_nN (lv' := [(1, .null), (0, .ref a)]) hx hb dX10_rule_14 rfl hl (by decide) rfl (fun ls hl => ?_)
    refine lv_aload_n hx hb dX10_rule_15 rfl (lv_at hl 1 rfl) ?_
    refine gX10_0 S hK hT hk10 kf_X10_12 dX10_rule_16 (fun hk11 => ?_)
    refine lv_iconst (v := 0) hx hb dX10_rule_19 (by decide) ?_
    refine x_cl0 (x_runV (b := (F a 0)) (As := [.int 0]) (rest := []) S (c_X8_shorten l E K F tl [z0, z1, z2, z3, z4, z5, z6, z7, z8, z9, z10, z11, z12, z13, z14, z15, u3, u4, u5, u6, u7] ts (F a 0) 0 hk11) mv_X8_shorten km_X10_110 rfl rfl ⟨Nat.le_of_ble_eq_true rfl, Nat.le_of_ble_eq_true rfl⟩ (rc_10 hK hT hk11) hK (fun _ => XP.blind) (fun U hU hW => XP.at hK hz hS hT hU hW) rfl hl.1 (Nat.le_of_ble_eq_true rfl) dX10_rule_20 ⟨Nat.le_of_ble_eq_true rfl, Nat.le_of_ble_eq_true rfl⟩) hS ?_
    rintro _ u13 H locs ⟨x12, rfl, b14, t15⟩ hT hS
    have t15 : (x12.toInt = 1 ∧ u13.toInt = (0 : Int) ∧ 0 ≤ (0 : Int) ∧ (0 : Int) ≤ tl.toInt) ∨ (x12.toInt = 0 ∧ u13.toInt = tl.toInt ∧ ((0 : Int) < 0 ∨ tl.toInt < (0 : Int))) := t15
    have hT : TW E K F (u13, [z0, z1, z2, z3, z4, z5, z6, z7, z8, z9, z10, z11, z12, z13, z14, z15, u3, u4, u5, u6, u7], ts) [] H := hT
    refine lv_pop hx hb dX10_rule_23 rfl ?_
    refine lv_aload_nN hx hb dX10_rule_24 rfl (lv_at hl 0 rfl) ?_
    refine lv_ifnonnullN hx hb dX10_rule_25 ?_
    refine lv_sipush (v := (-1000)) hx hb dX10_rule_28 (by decide) ?_
    refine lv_aload_n hx hb dX10_rule_31 rfl (lv_at hl 1 rfl) ?_
    refine gX10_1 S hK hT hk10 kf_X10_23 dX10_rule_32 (fun hk16 => ?_)
    refine x_clp (x_runV (b := (F a 1)) (As := []) (rest := [.int (-1000)]) S (c_X5_faultPlace l E K F u13 z0 z1 z2 z3 z4 z5 z6 z7 z8 z9 z10 z11 z12 z13 z14 z15 u3 u4 u5 u6 u7 ts H (F a 1) hk16) mv_X5_faultPlace km_X10_120 rfl rfl ⟨Nat.le_of_ble_eq_true rfl, Nat.le_of_ble_eq_true rfl⟩ (rc_7 hK hT hk16) hK (fun _ => XPh.blind) (fun U hU hW => XPh.at hK hz hS hT hU hW) rfl hl.1 (Nat.le_of_ble_eq_true rfl) dX10_rule_35 ⟨Nat.le_of_ble_eq_true rfl, Nat.le_of_ble_eq_true rfl⟩) hS ?_
    rintro _ _ locs ⟨x17, rfl⟩ hS
    refine xi_isub hx hb ((by decide) : Int32.toInt (-1000) = (-1000 : Int)) (rfl : Int32.toInt x17 = x17.toInt) dX10_rule_38 (fun x18 t19 => ?_)
    exact x_ri hx hb hr hlk hQ (Nat.le_of_ble_eq_true rfl) (Nat.le_of_ble_eq_true rfl) hS dX10_rule_39 (K, u13, u3, u4, u5, u6, u7) ⟨⟨_, rfl⟩, (z_X10_rule_1 tl.toInt u13.toInt x12.toInt e0 t15 (xr tl) (xr u13) (xr x12)), hM⟩ hT.nil
  · refine lv_astore_n (lv' := [(1, .ref q8), (0, .ref a)]) hx hb dX10_rule_14 rfl hl (by decide) rfl (fun ls hl => ?_)
    refine lv_aload_n hx hb dX10_rule_15 rfl (lv_at hl 1 rfl) ?_
    refine gX10_0 S hK hT hk10 kf_X10_12 dX10_rule_16 (fun hk20 => ?_)
    refine lv_iconst (v := 0) hx hb dX10_rule_19 (by decide) ?_
    refine x_cl0 (x_runV (b := (F a 0)) (As := [.int 0]) (rest := []) S (c_X8_shorten l E K F tl [z0, z1, z2, z3, z4, z5, z6, z7, z8, z9, z10, z11, z12, z13, z14, z15, u3, u4, u5, u6, u7] ts (F a 0) 0 hk20) mv_X8_shorten km_X10_110 rfl rfl ⟨Nat.le_of_ble_eq_true rfl, Nat.le_of_ble_eq_true rfl⟩ (rc_10 hK hT hk20) hK (fun _ => XP.blind) (fun U hU hW => XP.at hK hz hS hT hU hW) rfl hl.1 (Nat.le_of_ble_eq_true rfl) dX10_rule_20 ⟨Nat.le_of_ble_eq_true rfl, Nat.le_of_ble_eq_true rfl⟩) hS ?_
    rintro _ u22 H locs ⟨x21, rfl, b23, t24⟩ hT hS
    have t24 : (x21.toInt = 1 ∧ u22.toInt = (0 : Int) ∧ 0 ≤ (0 : Int) ∧ (0 : Int) ≤ tl.toInt) ∨ (x21.toInt = 0 ∧ u22.toInt = tl.toInt ∧ ((0 : Int) < 0 ∨ tl.toInt < (0 : Int))) := t24
    have hT : TW E K F (u22, [z0, z1, z2, z3, z4, z5, z6, z7, z8, z9, z10, z11, z12, z13, z14, z15, u3, u4, u5, u6, u7], ts) [] H := hT
    refine lv_pop hx hb dX10_rule_23 rfl ?_
    refine lv_aload_n hx hb dX10_rule_24 rfl (lv_at hl 0 rfl) ?_
    refine lv_ifnonnull (tgt := 40) hx hb dX10_rule_25 (by decide) ?_
    refine lv_aload_n hx hb dX10_rule_40 rfl (lv_at hl 1 rfl) ?_
    refine gX10_18 S hK hT hk10 kf_X10_123 dX10_rule_41 (fun x25 hT => ?_)
    refine xi_zeq (tgt := 50) hx hb (rfl : Int32.toInt x25 = x25.toInt) dX10_rule_44 (by decide) (fun c26 => ?_) (fun c26 => ?_)
    · refine lv_aload_n hx hb dX10_rule_50 rfl (lv_at hl 1 rfl) ?_
      refine gX10_2 S hK hT hk10 kf_X10_30 dX10_rule_51 (fun hk27 => ?_)
      refine x_clp (x_runV (b := (F a 2)) (As := []) (rest := []) S (c_X0_leastFree l E K F (u22, [z0, z1, z2, z3, z4, z5, z6, z7, z8, z9, z10, z11, z12, z13, z14, z15, u3, u4, u5, u6, u7], ts) H (F a 2) hk27) mv_X0_leastFree km_X10_127 rfl rfl ⟨Nat.le_of_ble_eq_true rfl, Nat.le_of_ble_eq_true rfl⟩ (rc_2 hK hT hk27) hK (fun _ => XPh.blind) (fun U hU hW => XPh.at hK hz hS hT hU hW) rfl hl.1 (Nat.le_of_ble_eq_true rfl) dX10_rule_54 ⟨Nat.le_of_ble_eq_true rfl, Nat.le_of_ble_eq_true rfl⟩) hS ?_
      rintro _ _ locs ⟨x28, rfl⟩ hS
      refine lv_istore_n (lv' := [(2, .int x28), (1, .ref q8), (0, .ref a)]) hx hb dX10_rule_57 rfl hl (by decide) rfl (fun ls hl => ?_)
      refine lv_iload_n hx hb dX10_rule_58 rfl (lv_at hl 0 rfl) ?_
      refine lv_iconst (v := (-1)) hx hb dX10_rule_59 (by decide) ?_
      refine xi_cne (tgt := 66) hx hb (rfl : Int32.toInt x28 = x28.toInt) ((by decide) : Int32.toInt (-1) = (-1 : Int)) dX10_rule_60 (by decide) (fun c29 => ?_) (fun c29 => ?_)
      · refine lv_aload_n hx hb dX10_rule_66 rfl (lv_at hl 1 rfl) ?_
        refine lv_iload_n hx hb dX10_rule_67 rfl (lv_at hl 0 rfl) ?_
        refine pX7_1 (kq := [(a, 18, x25)]) S hK hT hS hk9 kf_X10_130 dX10_rule_68 (List.forall_mem_cons.mpr ⟨⟨List.mem_of_getElem? (i := 0) rfl, (show (18 : Nat) ≠ 1 by decide)⟩, fun _ h => by cases h⟩) (fun H locs hT hS => ?_)
        refine lv_aload_n hx hb dX10_rule_71 rfl (lv_at hl 2 rfl) ?_
        refine lv_aload_n hx hb dX10_rule_72 rfl (lv_at hl 1 rfl) ?_
        refine x_cl0 (x_runV (b := a) (As := [.ref q8]) (rest := []) S (c_X10_firstFailingOf l E K F (u22, [z0, z1, z2, z3, z4, z5, z6, z7, z8, z9, z10, z11, z12, z13, z14, z15, u3, u4, u5, u6, u7], ts) a q8 hk10 hk9) mv_X10_firstFailingOf km_X10_136 rfl rfl ⟨Nat.le_of_ble_eq_true rfl, Nat.le_of_ble_eq_true rfl⟩ (rc_12 hK hT hk10) hK (fun _ => XP.blind) (fun U hU hW => XP.at hK hz hS hT hU hW) rfl hl.1 (Nat.le_of_ble_eq_true rfl) dX10_rule_73 ⟨Nat.le_of_ble_eq_true rfl, Nat.le_of_ble_eq_true rfl⟩) hS ?_
        rintro _ _ H locs ⟨x30, rfl⟩ hT hS
        refine lv_istore_n (lv' := [(3, .int x30), (2, .int x28), (1, .ref q8), (0, .ref a)]) hx hb dX10_rule_76 rfl hl (by decide) rfl (fun ls hl => ?_)
        refine lv_iload_n hx hb dX10_rule_77 rfl (lv_at hl 0 rfl) ?_
        refine lv_iconst (v := (-1)) hx hb dX10_rule_78 (by decide) ?_
        refine xi_ceq (tgt := 108) hx hb (rfl : Int32.toInt x30 = x30.toInt) ((by decide) : Int32.toInt (-1) = (-1 : Int)) dX10_rule_79 (by decide) (fun c31 => ?_) (fun c31 => ?_)
        · refine lv_aload_n hx hb dX10_rule_108 rfl (lv_at hl 3 rfl) ?_
          refine gX10_2 S hK hT hk10 kf_X10_30 dX10_rule_109 (fun hk32 => ?_)
          refine lv_aload_n hx hb dX10_rule_112 rfl (lv_at hl 2 rfl) ?_
          refine x_cv0 (x_runV (b := (F a 2)) (As := [.ref q8]) (rest := []) S (c_X0_enter l E K F (u22, [z0, z1, z2, z3, z4, z5, z6, z7, z8, z9, z10, z11, z12, z13, z14, z15, u3, u4, u5, u6, u7], ts) (F a 2) q8 hk32 hk9) mv_X0_enter km_X10_155 rfl rfl ⟨Nat.le_of_ble_eq_true rfl, Nat.le_of_ble_eq_true rfl⟩ (rc_2 hK hT hk32) hK (fun _ => XP.blind) (fun U hU hW => XP.at hK hz hS hT hU hW) rfl hl.1 (Nat.le_of_ble_eq_true rfl) dX10_rule_113 ⟨Nat.le_of_ble_eq_true rfl, Nat.le_of_ble_eq_true rfl⟩) hS ?_
          rintro _ H locs - hT hS
          refine lv_iload_n hx hb dX10_rule_116 rfl (lv_at hl 1 rfl) ?_
          exact x_ri hx hb hr hlk hQ (Nat.le_of_ble_eq_true rfl) (Nat.le_of_ble_eq_true rfl) hS dX10_rule_117 (K, u22, u3, u4, u5, u6, u7) ⟨⟨_, rfl⟩, (z_X10_rule_2 tl.toInt u22.toInt x21.toInt e0 t24 (xr tl) (xr u22) (xr x21)), hM⟩ hT.nil
        · refine lv_aload_n hx hb dX10_rule_82 rfl (lv_at hl 3 rfl) ?_
          refine gX10_14 S hK hT hk10 kf_X10_91 dX10_rule_83 (fun hk33 => ?_)
          refine lv_iload_n hx hb dX10_rule_86 rfl (lv_at hl 1 rfl) ?_
          refine lv_aload_n hx hb dX10_rule_87 rfl (lv_at hl 2 rfl) ?_
          refine gX7_0 S hK hT hk9 kf_X10_140 dX10_rule_88 (fun x34 hT => ?_)
          refine x_clp (x_runS (As := [.int x34]) (rest := [.int x28, .ref (F a 14)]) S (c_X10_wordOf l E K F (u22, [z0, z1, z2, z3, z4, z5, z6, z7, z8, z9, z10, z11, z12, z13, z14, z15, u3, u4, u5, u6, u7], ts) H x34) ms_X10_wordOf km_X10_143 rfl rfl ⟨Nat.le_of_ble_eq_true rfl, Nat.le_of_ble_eq_true rfl⟩ hK (fun _ => XPh.blind) (fun U hU hW => XPh.at hK hz hS hT hU hW) rfl hl.1 (Nat.le_of_ble_eq_true rfl) dX10_rule_91 ⟨Nat.le_of_ble_eq_true rfl, Nat.le_of_ble_eq_true rfl⟩) hS ?_
          rintro _ _ locs ⟨q36, hi37, rfl⟩ hS
          refine lv_aload_n hx hb dX10_rule_94 rfl (lv_at hl 3 rfl) ?_
          refine gX10_9 S hK hT hk10 kf_X10_61 dX10_rule_95 (fun hk38 => ?_)
          refine lv_iload_n hx hb dX10_rule_98 rfl (lv_at hl 0 rfl) ?_
          refine x_clp (x_runV (b := (F a 9)) (As := [.int x30]) (rest := [.ref (E.2.2.2.2.1 q36), .int x28, .ref (F a 14)]) S (c_X4_subject l E K F (u22, [z0, z1, z2, z3, z4, z5, z6, z7, z8, z9, z10, z11, z12, z13, z14, z15, u3, u4, u5, u6, u7], ts) H (F a 9) x30 hk38) mv_X4_subject km_X10_147 rfl rfl ⟨Nat.le_of_ble_eq_true rfl, Nat.le_of_ble_eq_true rfl⟩ (rc_6 hK hT hk38) hK (fun _ => XPh.blind) (fun U hU hW => XPh.at hK hz hS hT hU hW) rfl hl.1 (Nat.le_of_ble_eq_true rfl) dX10_rule_99 ⟨Nat.le_of_ble_eq_true rfl, Nat.le_of_ble_eq_true rfl⟩) hS ?_
          rintro _ _ locs ⟨x39, rfl⟩ hS
          refine x_cv (x_runV (b := (F a 14)) (As := [.int x28, .ref (E.2.2.2.2.1 q36), .int x39]) (rest := []) S (c_X9_tell l E K F (u22, [z0, z1, z2, z3, z4, z5, z6, z7, z8, z9, z10, z11, z12, z13, z14, z15, u3, u4, u5, u6, u7], ts) (F a 14) x28 q36 x39 hk33 (Nat.lt_of_lt_of_le hi37 (by decide)) (xlen6 hi37)) mv_X9_tell km_X10_151 rfl rfl ⟨Nat.le_of_ble_eq_true rfl, Nat.le_of_ble_eq_true rfl⟩ (rc_11 hK hT hk33) hK (fun _ => XP.blind) (fun U hU hW => XP.at hK hz hS hT hU hW) rfl hl.1 (Nat.le_of_ble_eq_true rfl) dX10_rule_102 ⟨Nat.le_of_ble_eq_true rfl, Nat.le_of_ble_eq_true rfl⟩) hS ?_
          rintro _ H locs - hT hS
          refine lv_bipush (v := (-5)) hx hb dX10_rule_105 (by decide) ?_
          exact x_ri hx hb hr hlk hQ (Nat.le_of_ble_eq_true rfl) (Nat.le_of_ble_eq_true rfl) hS dX10_rule_107 (K, u22, u3, u4, u5, u6, u7) ⟨⟨_, rfl⟩, (z_X10_rule_3 tl.toInt u22.toInt x21.toInt e0 t24 (xr tl) (xr u22) (xr x21)), hM⟩ hT.nil
      · refine lv_bipush (v := (-4)) hx hb dX10_rule_63 (by decide) ?_
        exact x_ri hx hb hr hlk hQ (Nat.le_of_ble_eq_true rfl) (Nat.le_of_ble_eq_true rfl) hS dX10_rule_65 (K, u22, u3, u4, u5, u6, u7) ⟨⟨_, rfl⟩, (z_X10_rule_4 tl.toInt u22.toInt x21.toInt e0 t24 (xr tl) (xr u22) (xr x21)), hM⟩ hT.nil
    · refine lv_bipush (v := (-3)) hx hb dX10_rule_47 (by decide) ?_
      exact x_ri hx hb hr hlk hQ (Nat.le_of_ble_eq_true rfl) (Nat.le_of_ble_eq_true rfl) hS dX10_rule_49 (K, u22, u3, u4, u5, u6, u7) ⟨⟨_, rfl⟩, (z_X10_rule_5 tl.toInt u22.toInt x21.toInt e0 t24 (xr tl) (xr u22) (xr x21)), hM⟩ hT.nil
