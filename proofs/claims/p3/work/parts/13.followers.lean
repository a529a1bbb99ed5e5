theorem z_X2_replace_1 (a0 : Int) (h0 : (0 : Int) ≤ a0) (r0 : -2147483648 ≤ a0 ∧ a0 < 2147483648) : ¬ (2147483648 - a0 < ((0 : Nat) : Int)) := by omega
theorem z_X2_replace_2 (a0 : Int) (a1 : Int) (a2 : Nat) (h0 : (0 : Int) ≤ a0) (h1 : 2147483648 - a0 < ((a2 + 1 : Nat) : Int)) (h2 : ¬ ((30 : Int) ≤ a0)) (h3 : a1 = a0 + 1 ∨ a0 + 1 < -2147483648 ∨ 2147483648 ≤ a0 + 1) (r0 : -2147483648 ≤ a0 ∧ a0 < 2147483648) (r1 : -2147483648 ≤ a1 ∧ a1 < 2147483648) : (0 : Int) ≤ a1 := by omega
theorem z_X2_replace_3 (a0 : Int) (a1 : Int) (a2 : Nat) (h0 : (0 : Int) ≤ a0) (h1 : 2147483648 - a0 < ((a2 + 1 : Nat) : Int)) (h2 : ¬ ((30 : Int) ≤ a0)) (h3 : a1 = a0 + 1 ∨ a0 + 1 < -2147483648 ∨ 2147483648 ≤ a0 + 1) (r0 : -2147483648 ≤ a0 ∧ a0 < 2147483648) (r1 : -2147483648 ≤ a1 ∧ a1 < 2147483648) : 2147483648 - a1 < ((a2 : Nat) : Int) := by omega
abbrev rm_X2_replace : Room := { frames := 3, cells := 0, slots := 0, locals := 66 }
set_option maxHeartbeats 4000000 in
set_option maxRecDepth 100000 in
theorem c_X2_replace (l : Launch) (E : XE) (K : Nat → Nat) (F : Nat → Nat → Nat) (G : XG) (p0 : Nat) (p1 : Nat) (p2 : Int32) (p3 : Int32) (hp0 : K p0 = 8) (hp1 : K p1 = 9) : Met l yX2_replace (xw yX2_replace cX2_replace 5 none) rm_X2_replace (va_Pc [.ref p0, .ref p1, .int p2, .int p3] (XP E K F G)) (XQv E (fun (u : Unit) => True) (fun _ H => TW E K F G [] H)) 0 0 (xA E) := by
  refine x_enter (by decide) (Nat.le_of_ble_eq_true rfl) ?_
  intro p e s m args below meth c Q S hr hlk hnm hQ hP ls hl
  obtain ⟨hz, hK, hT⟩ := hP
  obtain ⟨hx, hb, -, -, -⟩ := id S
  obtain ⟨H, hT, hS, hgo⟩ : ∃ H : Heap, TW E K F G [] H ∧ va_S (xA E) s.heap H [] ∧ H = s.heap := ⟨_, hT, va_S.rf, rfl⟩
  rw [← hgo]
  have hl : lv_has ls 5 [(0, .ref p0), (1, .ref p1), (2, .int p2), (3, .int p3)] := hl
  refine lv_iconst (v := 0) hx hb dX2_replace_0 (by decide) ?_
  refine lv_istore (lv' := [(4, .int 0), (0, .ref p0), (1, .ref p1), (2, .int p2), (3, .int p3)]) hx hb dX2_replace_1 hl (by decide) rfl (fun ls hl => ?_)
  have L3 : ∀ (N2 : Nat) (x1 : Int32) (H : Heap) (locs : List Loc) (ls : Array Slot), (0 : Int) ≤ x1.toInt → 2147483648 - x1.toInt < ((N2 : Nat) : Int) → TW E K F G [] H → va_S (xA E) s.heap H locs → lv_has ls 5 [(0, .ref p0), (1, .ref p1), (2, .int p2), (3, .int p3), (4, .int x1)] → W p l e rm_X2_replace s m args below meth c H locs 0 0 Q (F0 m 3 ls []) := by
    intro N2
    induction N2 with
    | zero =>
      intro x1 H locs ls hf3 hm4
      exact absurd hm4 (z_X2_replace_1 x1.toInt hf3 (xr x1))
    | succ N2 ih5 =>
      intro x1 H locs ls hf3 hm4 hT hS hl
      refine lv_iload hx hb dX2_replace_3 (lv_at hl 4 rfl) ?_
      refine lv_bipush (v := 30) hx hb dX2_replace_5 (by decide) ?_
      refine xi_cge (tgt := 49) hx hb (rfl : Int32.toInt x1 = x1.toInt) ((by decide) : Int32.toInt 30 = (30 : Int)) dX2_replace_7 (by decide) (fun c6 => ?_) (fun c6 => ?_)
      · exact x_rv hx hb hr hlk hQ (Nat.le_of_ble_eq_true rfl) (Nat.le_of_ble_eq_true rfl) hS dX2_replace_49 () trivial hT.nil
      · refine lv_aload_n hx hb dX2_replace_10 rfl (lv_at hl 0 rfl) ?_
        refine lv_aload_n hx hb dX2_replace_11 rfl (lv_at hl 1 rfl) ?_
        refine gX7_2 S hK hT hp1 kf_X2_61 dX2_replace_12 (fun x7 hT => ?_)
        refine lv_iload hx hb dX2_replace_15 (lv_at hl 4 rfl) ?_
        refine lv_aload_n hx hb dX2_replace_17 rfl (lv_at hl 1 rfl) ?_
        refine gX7_3 S hK hT hp1 kf_X2_64 dX2_replace_18 (fun x8 hT => ?_)
        refine x_clp (x_runV (b := p0) (As := [.int x7, .int x1, .int x8]) (rest := []) S (c_X6_cell l E K F G H p0 x7 x1 x8 hp0) mv_X6_cell km_X2_67 rfl rfl ⟨Nat.le_of_ble_eq_true rfl, Nat.le_of_ble_eq_true rfl⟩ (rc_8 hK hT hp0) hK (fun _ => XPh.blind) (fun U hU hW => XPh.at hK hz hS hT hU hW) rfl hl.1 (Nat.le_of_ble_eq_true rfl) dX2_replace_21 ⟨Nat.le_of_ble_eq_true rfl, Nat.le_of_ble_eq_true rfl⟩) hS ?_
        rintro _ _ locs ⟨x9, rfl⟩ hS
        refine lv_iload_n hx hb dX2_replace_24 rfl (lv_at hl 2 rfl) ?_
        have J43 : ∀ (H : Heap) (locs : List Loc) (ls : Array Slot), TW E K F G [] H → va_S (xA E) s.heap H locs → lv_has ls 5 [(0, .ref p0), (1, .ref p1), (2, .int p2), (3, .int p3), (4, .int x1)] → W p l e rm_X2_replace s m args below meth c H locs 0 0 Q (F0 m 43 ls []) := by
          intro H locs ls hT hS hl
          refine xi_iinc (n := 1) (lv' := fun z9 => [(4, .int z9), (0, .ref p0), (1, .ref p1), (2, .int p2), (3, .int p3)]) (k := 4) hx hb (rfl : Int32.toInt x1 = x1.toInt) (by decide) dX2_replace_43 hl rfl (by decide) (fun _ => rfl) (fun x10 ls t11 hl => ?_)
          have hl : lv_has ls 5 [(4, .int x10), (0, .ref p0), (1, .ref p1), (2, .int p2), (3, .int p3)] := hl
          refine lv_goto (tgt := 3) hx hb dX2_replace_46 (by decide) ?_
          exact ih5 x10 _ _ _ (z_X2_replace_2 x1.toInt x10.toInt N2 hf3 hm4 c6 t11 (xr x1) (xr x10)) (z_X2_replace_3 x1.toInt x10.toInt N2 hf3 hm4 c6 t11 (xr x1) (xr x10)) hT.nil hS (lv_sub hl [1, 2, 3, 4, 0] rfl)
        refine xi_cne (tgt := 43) hx hb (rfl : Int32.toInt x9 = x9.toInt) (rfl : Int32.toInt p2 = p2.toInt) dX2_replace_25 (by decide) (fun c12 => ?_) (fun c12 => ?_)
        · exact J43 _ _ _ hT.nil hS (lv_sub hl [0, 1, 2, 3, 4] rfl)
        · refine lv_aload_n hx hb dX2_replace_28 rfl (lv_at hl 0 rfl) ?_
          refine lv_aload_n hx hb dX2_replace_29 rfl (lv_at hl 1 rfl) ?_
          refine kX7_2 (v := x7) S hK hT hp1 (List.mem_of_getElem? (i := 1) rfl) kf_X2_61 dX2_replace_30 ?_
          refine lv_iload hx hb dX2_replace_33 (lv_at hl 4 rfl) ?_
          refine lv_aload_n hx hb dX2_replace_35 rfl (lv_at hl 1 rfl) ?_
          refine kX7_3 (v := x8) S hK hT hp1 (List.mem_of_getElem? (i := 0) rfl) kf_X2_64 dX2_replace_36 ?_
          refine lv_iload_n hx hb dX2_replace_39 rfl (lv_at hl 3 rfl) ?_
          refine x_cv0 (x_runV (b := p0) (As := [.int x7, .int x1, .int x8, .int p3]) (rest := []) S (c_X6_change l E K F G p0 x7 x1 x8 p3 hp0) mv_X6_change km_X2_71 rfl rfl ⟨Nat.le_of_ble_eq_true rfl, Nat.le_of_ble_eq_true rfl⟩ (rc_8 hK hT hp0) hK (fun _ => XP.blind) (fun U hU hW => XP.at hK hz hS hT hU hW) rfl hl.1 (Nat.le_of_ble_eq_true rfl) dX2_replace_40 ⟨Nat.le_of_ble_eq_true rfl, Nat.le_of_ble_eq_true rfl⟩) hS ?_
          rintro _ H locs - hT hS
          exact J43 _ _ _ hT.nil hS (lv_sub hl [0, 1, 2, 3, 4] rfl)
  exact L3 4294967297 0 _ _ _ (by decide) (by decide) hT.nil hS (lv_sub hl [1, 2, 3, 4, 0] rfl)

theorem z_X2_nextWith_1 (a0 : Int) (r0 : -2147483648 ≤ a0 ∧ a0 < 2147483648) : ¬ (2147483648 - a0 < ((0 : Nat) : Int)) := by omega
theorem z_X2_nextWith_2 (a0 : Int) (a1 : Int) (a2 : Nat) (h0 : 2147483648 - a0 < ((a2 + 1 : Nat) : Int)) (h1 : ¬ ((30 : Int) ≤ a0)) (h2 : a1 = a0 + 1 ∨ a0 + 1 < -2147483648 ∨ 2147483648 ≤ a0 + 1) (r0 : -2147483648 ≤ a0 ∧ a0 < 2147483648) (r1 : -2147483648 ≤ a1 ∧ a1 < 2147483648) : 2147483648 - a1 < ((a2 : Nat) : Int) := by omega
theorem z_X2_nextWith_3 (a0 : Int) (r0 : -2147483648 ≤ a0 ∧ a0 < 2147483648) : 2147483648 - a0 < ((4294967297 : Nat) : Int) := by omega
abbrev rm_X2_nextWith : Room := { frames := 2, cells := 0, slots := 0, locals := 44 }
set_option maxHeartbeats 4000000 in
set_option maxRecDepth 100000 in
theorem c_X2_nextWith (l : Launch) (E : XE) (K : Nat → Nat) (F : Nat → Nat → Nat) (G : XG) (h0 : Heap) (p0 : Nat) (p1 : Nat) (p2 : Int32) (p3 : Int32) (hp0 : K p0 = 8) (hp1 : K p1 = 9) : Met l yX2_nextWith (xw yX2_nextWith cX2_nextWith 5 (some .int)) rm_X2_nextWith (va_Pc [.ref p0, .ref p1, .int p2, .int p3] (XPh E K F G h0)) (XQ E (fun v (u : Unit) => ∃ r : Int32, v = .int r) (fun _ H => H = h0)) 0 0 (xA E) := by
  refine x_enter (by decide) (Nat.le_of_ble_eq_true rfl) ?_
  intro p e s m args below meth c Q S hr hlk hnm hQ hP ls hl
  obtain ⟨⟨hz, hK, hT⟩, hh⟩ := hP
  obtain ⟨hx, hb, -, -, -⟩ := id S
  have hS : va_S (xA E) s.heap s.heap [] := va_S.rf
  have hl : lv_has ls 5 [(0, .ref p0), (1, .ref p1), (2, .int p2), (3, .int p3)] := hl
  refine lv_iload_n hx hb dX2_nextWith_0 rfl (lv_at hl 2 rfl) ?_
  refine lv_istore (lv' := [(4, .int p2), (0, .ref p0), (1, .ref p1), (2, .int p2), (3, .int p3)]) hx hb dX2_nextWith_1 hl (by decide) rfl (fun ls hl => ?_)
  have L3 : ∀ (N2 : Nat) (x1 : Int32) (locs : List Loc) (ls : Array Slot), 2147483648 - x1.toInt < ((N2 : Nat) : Int) → TW E K F G [] s.heap → va_S (xA E) s.heap s.heap locs → lv_has ls 5 [(0, .ref p0), (1, .ref p1), (3, .int p3), (4, .int x1)] → W p l e rm_X2_nextWith s m args below meth c s.heap locs 0 0 Q (F0 m 3 ls []) := by
    intro N2
    induction N2 with
    | zero =>
      intro x1 locs ls hm3
      exact absurd hm3 (z_X2_nextWith_1 x1.toInt (xr x1))
    | succ N2 ih4 =>
      intro x1 locs ls hm3 hT hS hl
      refine lv_iload hx hb dX2_nextWith_3 (lv_at hl 3 rfl) ?_
      refine lv_bipush (v := 30) hx hb dX2_nextWith_5 (by decide) ?_
      refine xi_cge (tgt := 37) hx hb (rfl : Int32.toInt x1 = x1.toInt) ((by decide) : Int32.toInt 30 = (30 : Int)) dX2_nextWith_7 (by decide) (fun c5 => ?_) (fun c5 => ?_)
      · refine lv_iconst (v := (-1)) hx hb dX2_nextWith_37 (by decide) ?_
        exact x_ri hx hb hr hlk hQ (Nat.le_of_ble_eq_true rfl) (Nat.le_of_ble_eq_true rfl) hS dX2_nextWith_38 () ⟨_, rfl⟩ hh
      · refine lv_aload_n hx hb dX2_nextWith_10 rfl (lv_at hl 0 rfl) ?_
        refine lv_aload_n hx hb dX2_nextWith_11 rfl (lv_at hl 1 rfl) ?_
        refine gX7_2 S hK hT hp1 kf_X2_61 dX2_nextWith_12 (fun x6 hT => ?_)
        refine lv_iload hx hb dX2_nextWith_15 (lv_at hl 3 rfl) ?_
        refine lv_aload_n hx hb dX2_nextWith_17 rfl (lv_at hl 1 rfl) ?_
        refine gX7_3 S hK hT hp1 kf_X2_64 dX2_nextWith_18 (fun x7 hT => ?_)
        refine x_clp (x_runV (b := p0) (As := [.int x6, .int x1, .int x7]) (rest := []) S (c_X6_cell l E K F G s.heap p0 x6 x1 x7 hp0) mv_X6_cell km_X2_67 rfl rfl ⟨Nat.le_of_ble_eq_true rfl, Nat.le_of_ble_eq_true rfl⟩ (rc_8 hK hT hp0) hK (fun _ => XPh.blind) (fun U hU hW => XPh.at hK hz hS hT hU hW) rfl hl.1 (Nat.le_of_ble_eq_true rfl) dX2_nextWith_21 ⟨Nat.le_of_ble_eq_true rfl, Nat.le_of_ble_eq_true rfl⟩) hS ?_
        rintro _ _ locs ⟨x8, rfl⟩ hS
        refine lv_iload_n hx hb dX2_nextWith_24 rfl (lv_at hl 2 rfl) ?_
        refine xi_cne (tgt := 31) hx hb (rfl : Int32.toInt x8 = x8.toInt) (rfl : Int32.toInt p3 = p3.toInt) dX2_nextWith_25 (by decide) (fun c9 => ?_) (fun c9 => ?_)
        · refine xi_iinc (n := 1) (lv' := fun z9 => [(4, .int z9), (0, .ref p0), (1, .ref p1), (3, .int p3)]) (k := 3) hx hb (rfl : Int32.toInt x1 = x1.toInt) (by decide) dX2_nextWith_31 hl rfl (by decide) (fun _ => rfl) (fun x10 ls t11 hl => ?_)
          have hl : lv_has ls 5 [(4, .int x10), (0, .ref p0), (1, .ref p1), (3, .int p3)] := hl
          refine lv_goto (tgt := 3) hx hb dX2_nextWith_34 (by decide) ?_
          exact ih4 x10 _ _ (z_X2_nextWith_2 x1.toInt x10.toInt N2 hm3 c5 t11 (xr x1) (xr x10)) hT.nil hS (lv_sub hl [1, 2, 3, 0] rfl)
        · refine lv_iload hx hb dX2_nextWith_28 (lv_at hl 3 rfl) ?_
          exact x_ri hx hb hr hlk hQ (Nat.le_of_ble_eq_true rfl) (Nat.le_of_ble_eq_true rfl) hS dX2_nextWith_30 () ⟨_, rfl⟩ hh
  exact L3 4294967297 p2 _ _ (z_X2_nextWith_3 p2.toInt (xr p2)) hT.nil hS (lv_sub hl [1, 2, 4, 0] rfl)

theorem z_X2_descend_1 (a0 : Int) (h0 : ¬ (a0 < 0)) (h1 : ¬ ((90 : Int) ≤ a0)) (r0 : -2147483648 ≤ a0 ∧ a0 < 2147483648) : 0 ≤ a0 ∧ a0 < ((90 : Nat) : Int) := by omega
theorem z_X2_descend_2 (a0 : Int) (h0 : ¬ (a0 < 0)) (h1 : ¬ ((90 : Int) ≤ a0)) (r0 : -2147483648 ≤ a0 ∧ a0 < 2147483648) : 0 ≤ a0 ∧ a0 < ((90 : Nat) : Int) := by omega
theorem z_X2_descend_3 (a0 : Int) (h0 : ¬ (a0 < 0)) (h1 : ¬ ((90 : Int) ≤ a0)) (r0 : -2147483648 ≤ a0 ∧ a0 < 2147483648) : 0 ≤ a0 ∧ a0 < ((90 : Nat) : Int) := by omega
theorem z_X2_descend_4 (a0 : Int) (h0 : ¬ (a0 < 0)) (h1 : ¬ ((90 : Int) ≤ a0)) (r0 : -2147483648 ≤ a0 ∧ a0 < 2147483648) : 0 ≤ a0 ∧ a0 < ((90 : Nat) : Int) := by omega
abbrev rm_X2_descend : Room := { frames := 3, cells := 0, slots := 0, locals := 67 }
set_option maxHeartbeats 4000000 in
set_option maxRecDepth 100000 in
theorem c_X2_descend (l : Launch) (E : XE) (K : Nat → Nat) (F : Nat → Nat → Nat) (G : XG) (a : Nat) (p0 : Nat) (p1 : Int32) (p2 : Int32) (ha : K a = 4) (hp0 : K p0 = 8) : Met l yX2_descend (xw yX2_descend cX2_descend 4 none) rm_X2_descend (va_Pc [.ref a, .ref p0, .int p1, .int p2] (XP E K F G)) (XQv E (fun (u : Unit) => True) (fun _ H => TW E K F G [] H)) 0 0 (xA E) := by
  refine x_enter (by decide) (Nat.le_of_ble_eq_true rfl) ?_
  intro p e s m args below meth c Q S hr hlk hnm hQ hP ls hl
  obtain ⟨hz, hK, hT⟩ := hP
  obtain ⟨hx, hb, -, -, -⟩ := id S
  obtain ⟨H, hT, hS, hgo⟩ : ∃ H : Heap, TW E K F G [] H ∧ va_S (xA E) s.heap H [] ∧ H = s.heap := ⟨_, hT, va_S.rf, rfl⟩
  rw [← hgo]
  have hl : lv_has ls 4 [(0, .ref a), (1, .ref p0), (2, .int p1), (3, .int p2)] := hl
  refine lv_aload_n hx hb dX2_descend_0 rfl (lv_at hl 1 rfl) ?_
  refine lv_iload_n hx hb dX2_descend_1 rfl (lv_at hl 2 rfl) ?_
  refine lv_iload_n hx hb dX2_descend_2 rfl (lv_at hl 3 rfl) ?_
  refine x_cv0 (x_runV (b := p0) (As := [.int p1, .int p2]) (rest := []) S (c_X6_remove l E K F G p0 p1 p2 hp0) mv_X6_remove km_X2_75 rfl rfl ⟨Nat.le_of_ble_eq_true rfl, Nat.le_of_ble_eq_true rfl⟩ (rc_8 hK hT hp0) hK (fun _ => XP.blind) (fun U hU hW => XP.at hK hz hS hT hU hW) rfl hl.1 (Nat.le_of_ble_eq_true rfl) dX2_descend_3 ⟨Nat.le_of_ble_eq_true rfl, Nat.le_of_ble_eq_true rfl⟩) hS ?_
  rintro _ H locs - hT hS
  refine lv_aload_n hx hb dX2_descend_6 rfl (lv_at hl 0 rfl) ?_
  refine gX2_4 S hK hT ha kf_X2_24 dX2_descend_7 (fun x1 hT => ?_)
  refine xi_zlt (tgt := 72) hx hb (rfl : Int32.toInt x1 = x1.toInt) dX2_descend_10 (by decide) (fun c2 => ?_) (fun c2 => ?_)
  · exact x_rv hx hb hr hlk hQ (Nat.le_of_ble_eq_true rfl) (Nat.le_of_ble_eq_true rfl) hS dX2_descend_72 () trivial hT.nil
  · refine lv_aload_n hx hb dX2_descend_13 rfl (lv_at hl 0 rfl) ?_
    refine kX2_4 (v := x1) S hK hT ha (List.mem_of_getElem? (i := 0) rfl) kf_X2_24 dX2_descend_14 ?_
    refine lv_bipush (v := 90) hx hb dX2_descend_17 (by decide) ?_
    refine xi_cge (tgt := 72) hx hb (rfl : Int32.toInt x1 = x1.toInt) ((by decide) : Int32.toInt 90 = (90 : Int)) dX2_descend_19 (by decide) (fun c3 => ?_) (fun c3 => ?_)
    · exact x_rv hx hb hr hlk hQ (Nat.le_of_ble_eq_true rfl) (Nat.le_of_ble_eq_true rfl) hS dX2_descend_72 () trivial hT.nil
    · refine lv_aload_n hx hb dX2_descend_22 rfl (lv_at hl 0 rfl) ?_
      refine gX2_0 S hK hT ha kf_X2_11 dX2_descend_23 (fun hk4 => ?_)
      refine lv_aload_n hx hb dX2_descend_26 rfl (lv_at hl 0 rfl) ?_
      refine kX2_4 (v := x1) S hK hT ha (List.mem_of_getElem? (i := 0) rfl) kf_X2_24 dX2_descend_27 ?_
      refine lv_iload_n hx hb dX2_descend_30 rfl (lv_at hl 2 rfl) ?_
      refine as_0 S hK hT hS hk4 ar_24 aw_24 (by decide) (z_X2_descend_1 x1.toInt c2 c3 (xr x1)) dX2_descend_31 (fun H locs hT hS => ?_)
      refine lv_aload_n hx hb dX2_descend_32 rfl (lv_at hl 0 rfl) ?_
      refine gX2_1 S hK hT ha kf_X2_15 dX2_descend_33 (fun hk5 => ?_)
      refine lv_aload_n hx hb dX2_descend_36 rfl (lv_at hl 0 rfl) ?_
      refine kX2_4 (v := x1) S hK hT ha (List.mem_of_getElem? (i := 0) rfl) kf_X2_24 dX2_descend_37 ?_
      refine lv_iload_n hx hb dX2_descend_40 rfl (lv_at hl 3 rfl) ?_
      refine as_0 S hK hT hS hk5 ar_24 aw_24 (by decide) (z_X2_descend_2 x1.toInt c2 c3 (xr x1)) dX2_descend_41 (fun H locs hT hS => ?_)
      refine lv_aload_n hx hb dX2_descend_42 rfl (lv_at hl 0 rfl) ?_
      refine gX2_2 S hK hT ha kf_X2_18 dX2_descend_43 (fun hk6 => ?_)
      refine lv_aload_n hx hb dX2_descend_46 rfl (lv_at hl 0 rfl) ?_
      refine kX2_4 (v := x1) S hK hT ha (List.mem_of_getElem? (i := 0) rfl) kf_X2_24 dX2_descend_47 ?_
      refine lv_iconst (v := 0) hx hb dX2_descend_50 (by decide) ?_
      refine as_0 S hK hT hS hk6 ar_24 aw_24 (by decide) (z_X2_descend_3 x1.toInt c2 c3 (xr x1)) dX2_descend_51 (fun H locs hT hS => ?_)
      refine lv_aload_n hx hb dX2_descend_52 rfl (lv_at hl 0 rfl) ?_
      refine gX2_3 S hK hT ha kf_X2_21 dX2_descend_53 (fun hk7 => ?_)
      refine lv_aload_n hx hb dX2_descend_56 rfl (lv_at hl 0 rfl) ?_
      refine kX2_4 (v := x1) S hK hT ha (List.mem_of_getElem? (i := 0) rfl) kf_X2_24 dX2_descend_57 ?_
      refine lv_iconst (v := 0) hx hb dX2_descend_60 (by decide) ?_
      refine as_0 S hK hT hS hk7 ar_24 aw_24 (by decide) (z_X2_descend_4 x1.toInt c2 c3 (xr x1)) dX2_descend_61 (fun H locs hT hS => ?_)
      refine lv_aload_n hx hb dX2_descend_62 rfl (lv_at hl 0 rfl) ?_
      refine lv_dup hx hb dX2_descend_63 rfl ?_
      refine kX2_4 (v := x1) S hK hT ha (List.mem_of_getElem? (i := 0) rfl) kf_X2_24 dX2_descend_64 ?_
      refine lv_iconst (v := 1) hx hb dX2_descend_67 (by decide) ?_
      refine xi_iadd hx hb (rfl : Int32.toInt x1 = x1.toInt) ((by decide) : Int32.toInt 1 = (1 : Int)) dX2_descend_68 (fun x8 t9 => ?_)
      refine pX2_4 (kq := []) S hK hT hS ha kf_X2_24 dX2_descend_69 (fun _ h => by cases h) (fun H locs hT hS => ?_)
      exact x_rv hx hb hr hlk hQ (Nat.le_of_ble_eq_true rfl) (Nat.le_of_ble_eq_true rfl) hS dX2_descend_72 () trivial hT.nil

theorem z_X2_goOn_1 (a0 : Int) (a1 : Int) (h0 : a1 = a0 - (1 : Int) ∨ a0 - (1 : Int) < -2147483648 ∨ 2147483648 ≤ a0 - (1 : Int)) (h1 : ¬ (a1 < 0)) (h2 : a1 < (90 : Int)) (r0 : -2147483648 ≤ a0 ∧ a0 < 2147483648) (r1 : -2147483648 ≤ a1 ∧ a1 < 2147483648) : 0 ≤ a1 ∧ a1 < ((90 : Nat) : Int) := by omega
theorem z_X2_goOn_2 (a0 : Int) (a1 : Int) (h0 : a1 = a0 - (1 : Int) ∨ a0 - (1 : Int) < -2147483648 ∨ 2147483648 ≤ a0 - (1 : Int)) (h1 : ¬ (a1 < 0)) (h2 : a1 < (90 : Int)) (r0 : -2147483648 ≤ a0 ∧ a0 < 2147483648) (r1 : -2147483648 ≤ a1 ∧ a1 < 2147483648) : 0 ≤ a1 ∧ a1 < ((90 : Nat) : Int) := by omega
theorem z_X2_goOn_3 (a0 : Int) (a1 : Int) (h0 : a1 = a0 - (1 : Int) ∨ a0 - (1 : Int) < -2147483648 ∨ 2147483648 ≤ a0 - (1 : Int)) (h1 : ¬ (a1 < 0)) (h2 : a1 < (90 : Int)) (r0 : -2147483648 ≤ a0 ∧ a0 < 2147483648) (r1 : -2147483648 ≤ a1 ∧ a1 < 2147483648) : 0 ≤ a1 ∧ a1 < ((90 : Nat) : Int) := by omega
theorem z_X2_goOn_4 (a0 : Int) (a1 : Int) (h0 : a1 = a0 - (1 : Int) ∨ a0 - (1 : Int) < -2147483648 ∨ 2147483648 ≤ a0 - (1 : Int)) (h1 : ¬ (a1 < 0)) (h2 : a1 < (90 : Int)) (r0 : -2147483648 ≤ a0 ∧ a0 < 2147483648) (r1 : -2147483648 ≤ a1 ∧ a1 < 2147483648) : 0 ≤ a1 ∧ a1 < ((90 : Nat) : Int) := by omega
theorem z_X2_goOn_5 (a0 : Int) (a1 : Int) (h0 : a1 = a0 - (1 : Int) ∨ a0 - (1 : Int) < -2147483648 ∨ 2147483648 ≤ a0 - (1 : Int)) (h1 : ¬ (a1 < 0)) (h2 : a1 < (90 : Int)) (r0 : -2147483648 ≤ a0 ∧ a0 < 2147483648) (r1 : -2147483648 ≤ a1 ∧ a1 < 2147483648) : 0 ≤ a1 ∧ a1 < ((90 : Nat) : Int) := by omega
theorem z_X2_goOn_6 (a0 : Int) (a1 : Int) (h0 : a1 = a0 - (1 : Int) ∨ a0 - (1 : Int) < -2147483648 ∨ 2147483648 ≤ a0 - (1 : Int)) (h1 : ¬ (a1 < 0)) (h2 : a1 < (90 : Int)) (r0 : -2147483648 ≤ a0 ∧ a0 < 2147483648) (r1 : -2147483648 ≤ a1 ∧ a1 < 2147483648) : 0 ≤ a1 ∧ a1 < ((90 : Nat) : Int) := by omega
theorem z_X2_goOn_7 (a0 : Int) (a1 : Int) (h0 : a1 = a0 - (1 : Int) ∨ a0 - (1 : Int) < -2147483648 ∨ 2147483648 ≤ a0 - (1 : Int)) (h1 : ¬ (a1 < 0)) (h2 : a1 < (90 : Int)) (r0 : -2147483648 ≤ a0 ∧ a0 < 2147483648) (r1 : -2147483648 ≤ a1 ∧ a1 < 2147483648) : 0 ≤ a1 ∧ a1 < ((90 : Nat) : Int) := by omega
theorem z_X2_goOn_8 (a0 : Int) (a1 : Int) (h0 : a1 = a0 - (1 : Int) ∨ a0 - (1 : Int) < -2147483648 ∨ 2147483648 ≤ a0 - (1 : Int)) (h1 : ¬ (a1 < 0)) (h2 : a1 < (90 : Int)) (r0 : -2147483648 ≤ a0 ∧ a0 < 2147483648) (r1 : -2147483648 ≤ a1 ∧ a1 < 2147483648) : 0 ≤ a1 ∧ a1 < ((90 : Nat) : Int) := by omega
theorem z_X2_goOn_9 (a0 : Int) (a1 : Int) (h0 : a1 = a0 - (1 : Int) ∨ a0 - (1 : Int) < -2147483648 ∨ 2147483648 ≤ a0 - (1 : Int)) (h1 : ¬ (a1 < 0)) (h2 : a1 < (90 : Int)) (r0 : -2147483648 ≤ a0 ∧ a0 < 2147483648) (r1 : -2147483648 ≤ a1 ∧ a1 < 2147483648) : 0 ≤ a1 ∧ a1 < ((90 : Nat) : Int) := by omega
theorem z_X2_goOn_10 (a0 : Int) (a1 : Int) (h0 : a1 = a0 - (1 : Int) ∨ a0 - (1 : Int) < -2147483648 ∨ 2147483648 ≤ a0 - (1 : Int)) (h1 : ¬ (a1 < 0)) (h2 : a1 < (90 : Int)) (r0 : -2147483648 ≤ a0 ∧ a0 < 2147483648) (r1 : -2147483648 ≤ a1 ∧ a1 < 2147483648) : 0 ≤ a1 ∧ a1 < ((90 : Nat) : Int) := by omega
theorem z_X2_goOn_11 (a0 : Int) (a1 : Int) (h0 : a1 = a0 - (1 : Int) ∨ a0 - (1 : Int) < -2147483648 ∨ 2147483648 ≤ a0 - (1 : Int)) (h1 : ¬ (a1 < 0)) (h2 : a1 < (90 : Int)) (r0 : -2147483648 ≤ a0 ∧ a0 < 2147483648) (r1 : -2147483648 ≤ a1 ∧ a1 < 2147483648) : 0 ≤ a1 ∧ a1 < ((90 : Nat) : Int) := by omega
theorem z_X2_goOn_12 (a0 : Int) (a1 : Int) (h0 : a1 = a0 - (1 : Int) ∨ a0 - (1 : Int) < -2147483648 ∨ 2147483648 ≤ a0 - (1 : Int)) (h1 : ¬ (a1 < 0)) (h2 : a1 < (90 : Int)) (r0 : -2147483648 ≤ a0 ∧ a0 < 2147483648) (r1 : -2147483648 ≤ a1 ∧ a1 < 2147483648) : 0 ≤ a1 ∧ a1 < ((90 : Nat) : Int) := by omega
theorem z_X2_goOn_13 (a0 : Int) (a1 : Int) (h0 : a1 = a0 - (1 : Int) ∨ a0 - (1 : Int) < -2147483648 ∨ 2147483648 ≤ a0 - (1 : Int)) (h1 : ¬ (a1 < 0)) (h2 : a1 < (90 : Int)) (r0 : -2147483648 ≤ a0 ∧ a0 < 2147483648) (r1 : -2147483648 ≤ a1 ∧ a1 < 2147483648) : 0 ≤ a1 ∧ a1 < ((90 : Nat) : Int) := by omega
theorem z_X2_goOn_14 (a0 : Int) (a1 : Int) (h0 : a1 = a0 - (1 : Int) ∨ a0 - (1 : Int) < -2147483648 ∨ 2147483648 ≤ a0 - (1 : Int)) (h1 : ¬ (a1 < 0)) (h2 : a1 < (90 : Int)) (r0 : -2147483648 ≤ a0 ∧ a0 < 2147483648) (r1 : -2147483648 ≤ a1 ∧ a1 < 2147483648) : 0 ≤ a1 ∧ a1 < ((90 : Nat) : Int) := by omega
theorem z_X2_goOn_15 (a0 : Int) (a1 : Int) (h0 : a1 = a0 - (1 : Int) ∨ a0 - (1 : Int) < -2147483648 ∨ 2147483648 ≤ a0 - (1 : Int)) (h1 : ¬ (a1 < 0)) (h2 : a1 < (90 : Int)) (r0 : -2147483648 ≤ a0 ∧ a0 < 2147483648) (r1 : -2147483648 ≤ a1 ∧ a1 < 2147483648) : 0 ≤ a1 ∧ a1 < ((90 : Nat) : Int) := by omega
theorem z_X2_goOn_16 (a0 : Int) (a1 : Int) (h0 : a1 = a0 - (1 : Int) ∨ a0 - (1 : Int) < -2147483648 ∨ 2147483648 ≤ a0 - (1 : Int)) (h1 : ¬ (a1 < 0)) (h2 : a1 < (90 : Int)) (r0 : -2147483648 ≤ a0 ∧ a0 < 2147483648) (r1 : -2147483648 ≤ a1 ∧ a1 < 2147483648) : 0 ≤ a1 ∧ a1 < ((90 : Nat) : Int) := by omega
theorem z_X2_goOn_17 (a0 : Int) (a1 : Int) (h0 : a1 = a0 - (1 : Int) ∨ a0 - (1 : Int) < -2147483648 ∨ 2147483648 ≤ a0 - (1 : Int)) (h1 : ¬ (a1 < 0)) (h2 : a1 < (90 : Int)) (r0 : -2147483648 ≤ a0 ∧ a0 < 2147483648) (r1 : -2147483648 ≤ a1 ∧ a1 < 2147483648) : 0 ≤ a1 ∧ a1 < ((90 : Nat) : Int) := by omega
theorem z_X2_goOn_18 (a0 : Int) (a1 : Int) (h0 : a1 = a0 - (1 : Int) ∨ a0 - (1 : Int) < -2147483648 ∨ 2147483648 ≤ a0 - (1 : Int)) (h1 : ¬ (a1 < 0)) (h2 : a1 < (90 : Int)) (r0 : -2147483648 ≤ a0 ∧ a0 < 2147483648) (r1 : -2147483648 ≤ a1 ∧ a1 < 2147483648) : 0 ≤ a1 ∧ a1 < ((90 : Nat) : Int) := by omega
theorem z_X2_goOn_19 (a0 : Int) (a1 : Int) (h0 : a1 = a0 - (1 : Int) ∨ a0 - (1 : Int) < -2147483648 ∨ 2147483648 ≤ a0 - (1 : Int)) (h1 : ¬ (a1 < 0)) (h2 : a1 < (90 : Int)) (r0 : -2147483648 ≤ a0 ∧ a0 < 2147483648) (r1 : -2147483648 ≤ a1 ∧ a1 < 2147483648) : 0 ≤ a1 ∧ a1 < ((90 : Nat) : Int) := by omega
abbrev rm_X2_goOn : Room := { frames := 4, cells := 0, slots := 0, locals := 90 }
set_option maxHeartbeats 4000000 in
set_option maxRecDepth 100000 in
theorem c_X2_goOn (l : Launch) (E : XE) (K : Nat → Nat) (F : Nat → Nat → Nat) (G : XG) (a : Nat) (p0 : Nat) (p1 : Nat) (ha : K a = 4) (hp0 : K p0 = 8) (hp1 : K p1 = 2) : Met l yX2_goOn (xw yX2_goOn cX2_goOn 6 none) rm_X2_goOn (va_Pc [.ref a, .ref p0, .ref p1] (XP E K F G)) (XQv E (fun (u : Unit) => True) (fun _ H => TW E K F G [] H)) 0 0 (xA E) := by
  refine x_enter (by decide) (Nat.le_of_ble_eq_true rfl) ?_
  intro p e s m args below meth c Q S hr hlk hnm hQ hP ls hl
  obtain ⟨hz, hK, hT⟩ := hP
  obtain ⟨hx, hb, -, -, -⟩ := id S
  obtain ⟨H, hT, hS, hgo⟩ : ∃ H : Heap, TW E K F G [] H ∧ va_S (xA E) s.heap H [] ∧ H = s.heap := ⟨_, hT, va_S.rf, rfl⟩
  rw [← hgo]
  have hl : lv_has ls 6 [(0, .ref a), (1, .ref p0), (2, .ref p1)] := hl
  refine lv_aload_n hx hb dX2_goOn_0 rfl (lv_at hl 0 rfl) ?_
  refine gX2_4 S hK hT ha kf_X2_24 dX2_goOn_1 (fun x1 hT => ?_)
  refine lv_iconst (v := 1) hx hb dX2_goOn_4 (by decide) ?_
  refine xi_isub hx hb (rfl : Int32.toInt x1 = x1.toInt) ((by decide) : Int32.toInt 1 = (1 : Int)) dX2_goOn_5 (fun x2 t3 => ?_)
  refine lv_istore_n (lv' := [(3, .int x2), (0, .ref a), (1, .ref p0), (2, .ref p1)]) hx hb dX2_goOn_6 rfl hl (by decide) rfl (fun ls hl => ?_)
  refine lv_iload_n hx hb dX2_goOn_7 rfl (lv_at hl 0 rfl) ?_
  refine xi_zlt (tgt := 17) hx hb (rfl : Int32.toInt x2 = x2.toInt) dX2_goOn_8 (by decide) (fun c4 => ?_) (fun c4 => ?_)
  · exact x_rv hx hb hr hlk hQ (Nat.le_of_ble_eq_true rfl) (Nat.le_of_ble_eq_true rfl) hS dX2_goOn_17 () trivial hT.nil
  · refine lv_iload_n hx hb dX2_goOn_11 rfl (lv_at hl 0 rfl) ?_
    refine lv_bipush (v := 90) hx hb dX2_goOn_12 (by decide) ?_
    refine xi_clt (tgt := 18) hx hb (rfl : Int32.toInt x2 = x2.toInt) ((by decide) : Int32.toInt 90 = (90 : Int)) dX2_goOn_14 (by decide) (fun c5 => ?_) (fun c5 => ?_)
    · refine lv_aload_n hx hb dX2_goOn_18 rfl (lv_at hl 1 rfl) ?_
      refine gX2_2 S hK hT ha kf_X2_18 dX2_goOn_19 (fun hk6 => ?_)
      refine lv_iload_n hx hb dX2_goOn_22 rfl (lv_at hl 0 rfl) ?_
      refine al_0 S hK hT hk6 ar_24 (by decide) (z_X2_goOn_1 x1.toInt x2.toInt t3 c4 c5 (xr x1) (xr x2)) dX2_goOn_23 (fun x7 o8 => ?_)
      refine lv_bipush (v := 12) hx hb dX2_goOn_24 (by decide) ?_
      refine xi_clt (tgt := 40) hx hb (rfl : Int32.toInt x7 = x7.toInt) ((by decide) : Int32.toInt 12 = (12 : Int)) dX2_goOn_26 (by decide) (fun c9 => ?_) (fun c9 => ?_)
      · refine lv_aload_n hx hb dX2_goOn_40 rfl (lv_at hl 3 rfl) ?_
        refine lv_aload_n hx hb dX2_goOn_41 rfl (lv_at hl 1 rfl) ?_
        refine gX2_2 S hK hT ha kf_X2_18 dX2_goOn_42 (fun hk10 => ?_)
        refine lv_iload_n hx hb dX2_goOn_45 rfl (lv_at hl 0 rfl) ?_
        refine al_0 S hK hT hk10 ar_24 (by decide) (z_X2_goOn_2 x1.toInt x2.toInt t3 c4 c5 (xr x1) (xr x2)) dX2_goOn_46 (fun x11 o12 => ?_)
        refine x_clp (x_runV (b := p1) (As := [.int x11]) (rest := []) S (c_X0_get l E K F G H p1 x11 hp1) mv_X0_get km_X2_42 rfl rfl ⟨Nat.le_of_ble_eq_true rfl, Nat.le_of_ble_eq_true rfl⟩ (rc_2 hK hT hp1) hK (fun _ => XPh.blind) (fun U hU hW => XPh.at hK hz hS hT hU hW) rfl hl.1 (Nat.le_of_ble_eq_true rfl) dX2_goOn_47 ⟨Nat.le_of_ble_eq_true rfl, Nat.le_of_ble_eq_true rfl⟩) hS ?_
        rintro _ _ locs (rfl | ⟨q14, rfl, hk15⟩) hS
        · refine lv_astoreN (lv' := [(4, .null), (3, .int x2), (0, .ref a), (1, .ref p0), (2, .ref p1)]) hx hb dX2_goOn_50 hl (by decide) rfl (fun ls hl => ?_)
          refine lv_aloadN hx hb dX2_goOn_52 (lv_at hl 0 rfl) ?_
          refine lv_ifnullN (tgt := 147) hx hb dX2_goOn_54 (by decide) ?_
          refine lv_aload_n hx hb dX2_goOn_147 rfl (lv_at hl 2 rfl) ?_
          refine gX2_2 S hK hT ha kf_X2_18 dX2_goOn_148 (fun hk16 => ?_)
          refine lv_iload_n hx hb dX2_goOn_151 rfl (lv_at hl 1 rfl) ?_
          refine lv_dup2_11 hx hb dX2_goOn_152 rfl rfl ?_
          refine al_0 S hK hT hk16 ar_24 (by decide) (z_X2_goOn_3 x1.toInt x2.toInt t3 c4 c5 (xr x1) (xr x2)) dX2_goOn_153 (fun x17 o18 => ?_)
          refine lv_iconst (v := 1) hx hb dX2_goOn_154 (by decide) ?_
          refine xi_iadd hx hb (rfl : Int32.toInt x17 = x17.toInt) ((by decide) : Int32.toInt 1 = (1 : Int)) dX2_goOn_155 (fun x19 t20 => ?_)
          refine as_0 S hK hT hS hk16 ar_24 aw_24 (by decide) (z_X2_goOn_4 x1.toInt x2.toInt t3 c4 c5 (xr x1) (xr x2)) dX2_goOn_156 (fun H locs hT hS => ?_)
          refine lv_aload_n hx hb dX2_goOn_157 rfl (lv_at hl 2 rfl) ?_
          refine gX2_3 S hK hT ha kf_X2_21 dX2_goOn_158 (fun hk21 => ?_)
          refine lv_iload_n hx hb dX2_goOn_161 rfl (lv_at hl 1 rfl) ?_
          refine lv_iconst (v := 0) hx hb dX2_goOn_162 (by decide) ?_
          refine as_0 S hK hT hS hk21 ar_24 aw_24 (by decide) (z_X2_goOn_5 x1.toInt x2.toInt t3 c4 c5 (xr x1) (xr x2)) dX2_goOn_163 (fun H locs hT hS => ?_)
          exact x_rv hx hb hr hlk hQ (Nat.le_of_ble_eq_true rfl) (Nat.le_of_ble_eq_true rfl) hS dX2_goOn_164 () trivial hT.nil
        · refine lv_astore (lv' := [(4, .ref q14), (3, .int x2), (0, .ref a), (1, .ref p0), (2, .ref p1)]) hx hb dX2_goOn_50 hl (by decide) rfl (fun ls hl => ?_)
          refine lv_aload hx hb dX2_goOn_52 (lv_at hl 0 rfl) ?_
          refine lv_ifnull hx hb dX2_goOn_54 ?_
          refine lv_aload hx hb dX2_goOn_57 (lv_at hl 0 rfl) ?_
          refine lv_aload_n hx hb dX2_goOn_59 rfl (lv_at hl 2 rfl) ?_
          refine gX2_0 S hK hT ha kf_X2_11 dX2_goOn_60 (fun hk22 => ?_)
          refine lv_iload_n hx hb dX2_goOn_63 rfl (lv_at hl 1 rfl) ?_
          refine al_0 S hK hT hk22 ar_24 (by decide) (z_X2_goOn_6 x1.toInt x2.toInt t3 c4 c5 (xr x1) (xr x2)) dX2_goOn_64 (fun x23 o24 => ?_)
          refine x_clp (x_runV (b := q14) (As := [.int x23]) (rest := []) S (c_X7_follows l E K F G H q14 x23 hk15) mv_X7_follows km_X2_48 rfl rfl ⟨Nat.le_of_ble_eq_true rfl, Nat.le_of_ble_eq_true rfl⟩ (rc_9 hK hT hk15) hK (fun _ => XPh.blind) (fun U hU hW => XPh.at hK hz hS hT hU hW) rfl hl.1 (Nat.le_of_ble_eq_true rfl) dX2_goOn_65 ⟨Nat.le_of_ble_eq_true rfl, Nat.le_of_ble_eq_true rfl⟩) hS ?_
          rintro _ _ locs ⟨x25, rfl, b26⟩ hS
          refine xi_zeq (tgt := 147) hx hb (rfl : Int32.toInt x25 = x25.toInt) dX2_goOn_68 (by decide) (fun c27 => ?_) (fun c27 => ?_)
          · refine lv_aload_n hx hb dX2_goOn_147 rfl (lv_at hl 2 rfl) ?_
            refine gX2_2 S hK hT ha kf_X2_18 dX2_goOn_148 (fun hk28 => ?_)
            refine lv_iload_n hx hb dX2_goOn_151 rfl (lv_at hl 1 rfl) ?_
            refine lv_dup2_11 hx hb dX2_goOn_152 rfl rfl ?_
            refine al_0 S hK hT hk28 ar_24 (by decide) (z_X2_goOn_7 x1.toInt x2.toInt t3 c4 c5 (xr x1) (xr x2)) dX2_goOn_153 (fun x29 o30 => ?_)
            refine lv_iconst (v := 1) hx hb dX2_goOn_154 (by decide) ?_
            refine xi_iadd hx hb (rfl : Int32.toInt x29 = x29.toInt) ((by decide) : Int32.toInt 1 = (1 : Int)) dX2_goOn_155 (fun x31 t32 => ?_)
            refine as_0 S hK hT hS hk28 ar_24 aw_24 (by decide) (z_X2_goOn_8 x1.toInt x2.toInt t3 c4 c5 (xr x1) (xr x2)) dX2_goOn_156 (fun H locs hT hS => ?_)
            refine lv_aload_n hx hb dX2_goOn_157 rfl (lv_at hl 2 rfl) ?_
            refine gX2_3 S hK hT ha kf_X2_21 dX2_goOn_158 (fun hk33 => ?_)
            refine lv_iload_n hx hb dX2_goOn_161 rfl (lv_at hl 1 rfl) ?_
            refine lv_iconst (v := 0) hx hb dX2_goOn_162 (by decide) ?_
            refine as_0 S hK hT hS hk33 ar_24 aw_24 (by decide) (z_X2_goOn_9 x1.toInt x2.toInt t3 c4 c5 (xr x1) (xr x2)) dX2_goOn_163 (fun H locs hT hS => ?_)
            exact x_rv hx hb hr hlk hQ (Nat.le_of_ble_eq_true rfl) (Nat.le_of_ble_eq_true rfl) hS dX2_goOn_164 () trivial hT.nil
          · refine lv_aload hx hb dX2_goOn_71 (lv_at hl 0 rfl) ?_
            refine gX7_7 S hK hT hk15 kf_X2_54 dX2_goOn_73 (fun x34 hT => ?_)
            refine lv_iconst (v := 2) hx hb dX2_goOn_76 (by decide) ?_
            refine xi_cne (tgt := 98) hx hb (rfl : Int32.toInt x34 = x34.toInt) ((by decide) : Int32.toInt 2 = (2 : Int)) dX2_goOn_77 (by decide) (fun c35 => ?_) (fun c35 => ?_)
            · refine lv_aload_n hx hb dX2_goOn_98 rfl (lv_at hl 3 rfl) ?_
              refine lv_aload hx hb dX2_goOn_99 (lv_at hl 0 rfl) ?_
              refine lv_aload_n hx hb dX2_goOn_101 rfl (lv_at hl 2 rfl) ?_
              refine gX2_3 S hK hT ha kf_X2_21 dX2_goOn_102 (fun hk36 => ?_)
              refine lv_iload_n hx hb dX2_goOn_105 rfl (lv_at hl 1 rfl) ?_
              refine al_0 S hK hT hk36 ar_24 (by decide) (z_X2_goOn_10 x1.toInt x2.toInt t3 c4 c5 (xr x1) (xr x2)) dX2_goOn_106 (fun x37 o38 => ?_)
              refine lv_aload_n hx hb dX2_goOn_107 rfl (lv_at hl 2 rfl) ?_
              refine gX2_1 S hK hT ha kf_X2_15 dX2_goOn_108 (fun hk39 => ?_)
              refine lv_iload_n hx hb dX2_goOn_111 rfl (lv_at hl 1 rfl) ?_
              refine al_0 S hK hT hk39 ar_24 (by decide) (z_X2_goOn_11 x1.toInt x2.toInt t3 c4 c5 (xr x1) (xr x2)) dX2_goOn_112 (fun x40 o41 => ?_)
              refine x_clp (x_runS (As := [.ref p0, .ref q14, .int x37, .int x40]) (rest := []) S (c_X2_nextWith l E K F G H p0 q14 x37 x40 hp0 hk15) ms_X2_nextWith km_X2_79 rfl rfl ⟨Nat.le_of_ble_eq_true rfl, Nat.le_of_ble_eq_true rfl⟩ hK (fun _ => XPh.blind) (fun U hU hW => XPh.at hK hz hS hT hU hW) rfl hl.1 (Nat.le_of_ble_eq_true rfl) dX2_goOn_113 ⟨Nat.le_of_ble_eq_true rfl, Nat.le_of_ble_eq_true rfl⟩) hS ?_
              rintro _ _ locs ⟨x42, rfl⟩ hS
              refine lv_istore (lv' := [(5, .int x42), (4, .ref q14), (3, .int x2), (0, .ref a), (1, .ref p0), (2, .ref p1)]) hx hb dX2_goOn_116 hl (by decide) rfl (fun ls hl => ?_)
              refine lv_iload hx hb dX2_goOn_118 (lv_at hl 0 rfl) ?_
              refine lv_iconst (v := (-1)) hx hb dX2_goOn_120 (by decide) ?_
              refine xi_ceq (tgt := 147) hx hb (rfl : Int32.toInt x42 = x42.toInt) ((by decide) : Int32.toInt (-1) = (-1 : Int)) dX2_goOn_121 (by decide) (fun c43 => ?_) (fun c43 => ?_)
              · refine lv_aload_n hx hb dX2_goOn_147 rfl (lv_at hl 3 rfl) ?_
                refine gX2_2 S hK hT ha kf_X2_18 dX2_goOn_148 (fun hk44 => ?_)
                refine lv_iload_n hx hb dX2_goOn_151 rfl (lv_at hl 2 rfl) ?_
                refine lv_dup2_11 hx hb dX2_goOn_152 rfl rfl ?_
                refine al_0 S hK hT hk44 ar_24 (by decide) (z_X2_goOn_12 x1.toInt x2.toInt t3 c4 c5 (xr x1) (xr x2)) dX2_goOn_153 (fun x45 o46 => ?_)
                refine lv_iconst (v := 1) hx hb dX2_goOn_154 (by decide) ?_
                refine xi_iadd hx hb (rfl : Int32.toInt x45 = x45.toInt) ((by decide) : Int32.toInt 1 = (1 : Int)) dX2_goOn_155 (fun x47 t48 => ?_)
                refine as_0 S hK hT hS hk44 ar_24 aw_24 (by decide) (z_X2_goOn_13 x1.toInt x2.toInt t3 c4 c5 (xr x1) (xr x2)) dX2_goOn_156 (fun H locs hT hS => ?_)
                refine lv_aload_n hx hb dX2_goOn_157 rfl (lv_at hl 3 rfl) ?_
                refine gX2_3 S hK hT ha kf_X2_21 dX2_goOn_158 (fun hk49 => ?_)
                refine lv_iload_n hx hb dX2_goOn_161 rfl (lv_at hl 2 rfl) ?_
                refine lv_iconst (v := 0) hx hb dX2_goOn_162 (by decide) ?_
                refine as_0 S hK hT hS hk49 ar_24 aw_24 (by decide) (z_X2_goOn_14 x1.toInt x2.toInt t3 c4 c5 (xr x1) (xr x2)) dX2_goOn_163 (fun H locs hT hS => ?_)
                exact x_rv hx hb hr hlk hQ (Nat.le_of_ble_eq_true rfl) (Nat.le_of_ble_eq_true rfl) hS dX2_goOn_164 () trivial hT.nil
              · refine lv_aload_n hx hb dX2_goOn_124 rfl (lv_at hl 3 rfl) ?_
                refine gX2_3 S hK hT ha kf_X2_21 dX2_goOn_125 (fun hk50 => ?_)
                refine lv_iload_n hx hb dX2_goOn_128 rfl (lv_at hl 2 rfl) ?_
                refine lv_iload hx hb dX2_goOn_129 (lv_at hl 0 rfl) ?_
                refine lv_iconst (v := 1) hx hb dX2_goOn_131 (by decide) ?_
                refine xi_iadd hx hb (rfl : Int32.toInt x42 = x42.toInt) ((by decide) : Int32.toInt 1 = (1 : Int)) dX2_goOn_132 (fun x51 t52 => ?_)
                refine as_0 S hK hT hS hk50 ar_24 aw_24 (by decide) (z_X2_goOn_15 x1.toInt x2.toInt t3 c4 c5 (xr x1) (xr x2)) dX2_goOn_133 (fun H locs hT hS => ?_)
                refine lv_aload_n hx hb dX2_goOn_134 rfl (lv_at hl 3 rfl) ?_
                refine lv_aload_n hx hb dX2_goOn_135 rfl (lv_at hl 4 rfl) ?_
                refine lv_aload hx hb dX2_goOn_136 (lv_at hl 1 rfl) ?_
                refine gX7_2 S hK hT hk15 kf_X2_61 dX2_goOn_138 (fun x53 hT => ?_)
                refine lv_iload hx hb dX2_goOn_141 (lv_at hl 0 rfl) ?_
                refine x_cv0 (x_runV (b := a) (As := [.ref p0, .int x53, .int x42]) (rest := []) S (c_X2_descend l E K F G a p0 x53 x42 ha hp0) mv_X2_descend km_X2_28 rfl rfl ⟨Nat.le_of_ble_eq_true rfl, Nat.le_of_ble_eq_true rfl⟩ (rc_4 hK hT ha) hK (fun _ => XP.blind) (fun U hU hW => XP.at hK hz hS hT hU hW) rfl hl.1 (Nat.le_of_ble_eq_true rfl) dX2_goOn_143 ⟨Nat.le_of_ble_eq_true rfl, Nat.le_of_ble_eq_true rfl⟩) hS ?_
                rintro _ H locs - hT hS
                exact x_rv hx hb hr hlk hQ (Nat.le_of_ble_eq_true rfl) (Nat.le_of_ble_eq_true rfl) hS dX2_goOn_146 () trivial hT.nil
            · refine lv_aload_n hx hb dX2_goOn_80 rfl (lv_at hl 3 rfl) ?_
              refine lv_aload hx hb dX2_goOn_81 (lv_at hl 0 rfl) ?_
              refine lv_aload_n hx hb dX2_goOn_83 rfl (lv_at hl 2 rfl) ?_
              refine gX2_1 S hK hT ha kf_X2_15 dX2_goOn_84 (fun hk54 => ?_)
              refine lv_iload_n hx hb dX2_goOn_87 rfl (lv_at hl 1 rfl) ?_
              refine al_0 S hK hT hk54 ar_24 (by decide) (z_X2_goOn_16 x1.toInt x2.toInt t3 c4 c5 (xr x1) (xr x2)) dX2_goOn_88 (fun x55 o56 => ?_)
              refine lv_sipush (v := (-1000)) hx hb dX2_goOn_89 (by decide) ?_
              refine x_cv0 (x_runS (As := [.ref p0, .ref q14, .int x55, .int (-1000)]) (rest := []) S (c_X2_replace l E K F G p0 q14 x55 (-1000) hp0 hk15) ms_X2_replace km_X2_57 rfl rfl ⟨Nat.le_of_ble_eq_true rfl, Nat.le_of_ble_eq_true rfl⟩ hK (fun _ => XP.blind) (fun U hU hW => XP.at hK hz hS hT hU hW) rfl hl.1 (Nat.le_of_ble_eq_true rfl) dX2_goOn_92 ⟨Nat.le_of_ble_eq_true rfl, Nat.le_of_ble_eq_true rfl⟩) hS ?_
              rintro _ H locs - hT hS
              refine lv_goto (tgt := 147) hx hb dX2_goOn_95 (by decide) ?_
              refine lv_aload_n hx hb dX2_goOn_147 rfl (lv_at hl 2 rfl) ?_
              refine gX2_2 S hK hT ha kf_X2_18 dX2_goOn_148 (fun hk57 => ?_)
              refine lv_iload_n hx hb dX2_goOn_151 rfl (lv_at hl 1 rfl) ?_
              refine lv_dup2_11 hx hb dX2_goOn_152 rfl rfl ?_
              refine al_0 S hK hT hk57 ar_24 (by decide) (z_X2_goOn_17 x1.toInt x2.toInt t3 c4 c5 (xr x1) (xr x2)) dX2_goOn_153 (fun x58 o59 => ?_)
              refine lv_iconst (v := 1) hx hb dX2_goOn_154 (by decide) ?_
              refine xi_iadd hx hb (rfl : Int32.toInt x58 = x58.toInt) ((by decide) : Int32.toInt 1 = (1 : Int)) dX2_goOn_155 (fun x60 t61 => ?_)
              refine as_0 S hK hT hS hk57 ar_24 aw_24 (by decide) (z_X2_goOn_18 x1.toInt x2.toInt t3 c4 c5 (xr x1) (xr x2)) dX2_goOn_156 (fun H locs hT hS => ?_)
              refine lv_aload_n hx hb dX2_goOn_157 rfl (lv_at hl 2 rfl) ?_
              refine gX2_3 S hK hT ha kf_X2_21 dX2_goOn_158 (fun hk62 => ?_)
              refine lv_iload_n hx hb dX2_goOn_161 rfl (lv_at hl 1 rfl) ?_
              refine lv_iconst (v := 0) hx hb dX2_goOn_162 (by decide) ?_
              refine as_0 S hK hT hS hk62 ar_24 aw_24 (by decide) (z_X2_goOn_19 x1.toInt x2.toInt t3 c4 c5 (xr x1) (xr x2)) dX2_goOn_163 (fun H locs hT hS => ?_)
              exact x_rv hx hb hr hlk hQ (Nat.le_of_ble_eq_true rfl) (Nat.le_of_ble_eq_true rfl) hS dX2_goOn_164 () trivial hT.nil
      · refine lv_aload_n hx hb dX2_goOn_29 rfl (lv_at hl 1 rfl) ?_
        refine lv_dup hx hb dX2_goOn_30 rfl ?_
        refine kX2_4 (v := x1) S hK hT ha (List.mem_of_getElem? (i := 0) rfl) kf_X2_24 dX2_goOn_31 ?_
        refine lv_iconst (v := 1) hx hb dX2_goOn_34 (by decide) ?_
        refine xi_isub hx hb (rfl : Int32.toInt x1 = x1.toInt) ((by decide) : Int32.toInt 1 = (1 : Int)) dX2_goOn_35 (fun x63 t64 => ?_)
        refine pX2_4 (kq := []) S hK hT hS ha kf_X2_24 dX2_goOn_36 (fun _ h => by cases h) (fun H locs hT hS => ?_)
        exact x_rv hx hb hr hlk hQ (Nat.le_of_ble_eq_true rfl) (Nat.le_of_ble_eq_true rfl) hS dX2_goOn_39 () trivial hT.nil
    · exact x_rv hx hb hr hlk hQ (Nat.le_of_ble_eq_true rfl) (Nat.le_of_ble_eq_true rfl) hS dX2_goOn_17 () trivial hT.nil

theorem z_X2_cutRow_1 (a0 : Int) (h0 : (0 : Int) ≤ a0) (r0 : -2147483648 ≤ a0 ∧ a0 < 2147483648) : ¬ (2147483648 - a0 < ((0 : Nat) : Int)) := by omega
theorem z_X2_cutRow_2 (a0 : Int) (a1 : Int) (a2 : Nat) (h0 : (0 : Int) ≤ a0) (h1 : 2147483648 - a0 < ((a2 + 1 : Nat) : Int)) (h2 : ¬ ((1260 : Int) ≤ a0)) (h3 : a1 = a0 + 1 ∨ a0 + 1 < -2147483648 ∨ 2147483648 ≤ a0 + 1) (r0 : -2147483648 ≤ a0 ∧ a0 < 2147483648) (r1 : -2147483648 ≤ a1 ∧ a1 < 2147483648) : (0 : Int) ≤ a1 := by omega
theorem z_X2_cutRow_3 (a0 : Int) (a1 : Int) (a2 : Nat) (h0 : (0 : Int) ≤ a0) (h1 : 2147483648 - a0 < ((a2 + 1 : Nat) : Int)) (h2 : ¬ ((1260 : Int) ≤ a0)) (h3 : a1 = a0 + 1 ∨ a0 + 1 < -2147483648 ∨ 2147483648 ≤ a0 + 1) (r0 : -2147483648 ≤ a0 ∧ a0 < 2147483648) (r1 : -2147483648 ≤ a1 ∧ a1 < 2147483648) : 2147483648 - a1 < ((a2 : Nat) : Int) := by omega
abbrev rm_X2_cutRow : Room := { frames := 5, cells := 0, slots := 0, locals := 115 }
set_option maxHeartbeats 4000000 in
set_option maxRecDepth 100000 in
theorem c_X2_cutRow (l : Launch) (E : XE) (K : Nat → Nat) (F : Nat → Nat → Nat) (G : XG) (a : Nat) (p0 : Nat) (p1 : Nat) (p2 : Int32) (p3 : Int32) (ha : K a = 4) (hp0 : K p0 = 8) (hp1 : K p1 = 2) : Met l yX2_cutRow (xw yX2_cutRow cX2_cutRow 6 none) rm_X2_cutRow (va_Pc [.ref a, .ref p0, .ref p1, .int p2, .int p3] (XP E K F G)) (XQv E (fun (u : Unit) => True) (fun _ H => TW E K F G [] H)) 0 0 (xA E) := by
  refine x_enter (by decide) (Nat.le_of_ble_eq_true rfl) ?_
  intro p e s m args below meth c Q S hr hlk hnm hQ hP ls hl
  obtain ⟨hz, hK, hT⟩ := hP
  obtain ⟨hx, hb, -, -, -⟩ := id S
  obtain ⟨H, hT, hS, hgo⟩ : ∃ H : Heap, TW E K F G [] H ∧ va_S (xA E) s.heap H [] ∧ H = s.heap := ⟨_, hT, va_S.rf, rfl⟩
  rw [← hgo]
  have hl : lv_has ls 6 [(0, .ref a), (1, .ref p0), (2, .ref p1), (3, .int p2), (4, .int p3)] := hl
  refine lv_aload_n hx hb dX2_cutRow_0 rfl (lv_at hl 0 rfl) ?_
  refine lv_iconst (v := 0) hx hb dX2_cutRow_1 (by decide) ?_
  refine pX2_4 (kq := []) S hK hT hS ha kf_X2_24 dX2_cutRow_2 (fun _ h => by cases h) (fun H locs hT hS => ?_)
  refine lv_aload_n hx hb dX2_cutRow_5 rfl (lv_at hl 0 rfl) ?_
  refine lv_aload_n hx hb dX2_cutRow_6 rfl (lv_at hl 1 rfl) ?_
  refine lv_iload_n hx hb dX2_cutRow_7 rfl (lv_at hl 3 rfl) ?_
  refine lv_iload hx hb dX2_cutRow_8 (lv_at hl 4 rfl) ?_
  refine x_cv0 (x_runV (b := a) (As := [.ref p0, .int p2, .int p3]) (rest := []) S (c_X2_descend l E K F G a p0 p2 p3 ha hp0) mv_X2_descend km_X2_28 rfl rfl ⟨Nat.le_of_ble_eq_true rfl, Nat.le_of_ble_eq_true rfl⟩ (rc_4 hK hT ha) hK (fun _ => XP.blind) (fun U hU hW => XP.at hK hz hS hT hU hW) rfl hl.1 (Nat.le_of_ble_eq_true rfl) dX2_cutRow_10 ⟨Nat.le_of_ble_eq_true rfl, Nat.le_of_ble_eq_true rfl⟩) hS ?_
  rintro _ H locs - hT hS
  refine lv_iconst (v := 0) hx hb dX2_cutRow_13 (by decide) ?_
  refine lv_istore (lv' := [(5, .int 0), (0, .ref a), (1, .ref p0), (2, .ref p1), (3, .int p2), (4, .int p3)]) hx hb dX2_cutRow_14 hl (by decide) rfl (fun ls hl => ?_)
  have L16 : ∀ (N2 : Nat) (x1 : Int32) (H : Heap) (locs : List Loc) (ls : Array Slot), (0 : Int) ≤ x1.toInt → 2147483648 - x1.toInt < ((N2 : Nat) : Int) → TW E K F G [] H → va_S (xA E) s.heap H locs → lv_has ls 6 [(0, .ref a), (1, .ref p0), (2, .ref p1), (5, .int x1)] → W p l e rm_X2_cutRow s m args below meth c H locs 0 0 Q (F0 m 16 ls []) := by
    intro N2
    induction N2 with
    | zero =>
      intro x1 H locs ls hf3 hm4
      exact absurd hm4 (z_X2_cutRow_1 x1.toInt hf3 (xr x1))
    | succ N2 ih5 =>
      intro x1 H locs ls hf3 hm4 hT hS hl
      refine lv_iload hx hb dX2_cutRow_16 (lv_at hl 3 rfl) ?_
      refine lv_sipush (v := 1260) hx hb dX2_cutRow_18 (by decide) ?_
      refine xi_cge (tgt := 43) hx hb (rfl : Int32.toInt x1 = x1.toInt) ((by decide) : Int32.toInt 1260 = (1260 : Int)) dX2_cutRow_21 (by decide) (fun c6 => ?_) (fun c6 => ?_)
      · exact x_rv hx hb hr hlk hQ (Nat.le_of_ble_eq_true rfl) (Nat.le_of_ble_eq_true rfl) hS dX2_cutRow_43 () trivial hT.nil
      · refine lv_aload_n hx hb dX2_cutRow_24 rfl (lv_at hl 0 rfl) ?_
        refine gX2_4 S hK hT ha kf_X2_24 dX2_cutRow_25 (fun x7 hT => ?_)
        refine xi_zle (tgt := 43) hx hb (rfl : Int32.toInt x7 = x7.toInt) dX2_cutRow_28 (by decide) (fun c8 => ?_) (fun c8 => ?_)
        · exact x_rv hx hb hr hlk hQ (Nat.le_of_ble_eq_true rfl) (Nat.le_of_ble_eq_true rfl) hS dX2_cutRow_43 () trivial hT.nil
        · refine lv_aload_n hx hb dX2_cutRow_31 rfl (lv_at hl 0 rfl) ?_
          refine lv_aload_n hx hb dX2_cutRow_32 rfl (lv_at hl 1 rfl) ?_
          refine lv_aload_n hx hb dX2_cutRow_33 rfl (lv_at hl 2 rfl) ?_
          refine x_cv0 (x_runV (b := a) (As := [.ref p0, .ref p1]) (rest := []) S (c_X2_goOn l E K F G a p0 p1 ha hp0 hp1) mv_X2_goOn km_X2_32 rfl rfl ⟨Nat.le_of_ble_eq_true rfl, Nat.le_of_ble_eq_true rfl⟩ (rc_4 hK hT ha) hK (fun _ => XP.blind) (fun U hU hW => XP.at hK hz hS hT hU hW) rfl hl.1 (Nat.le_of_ble_eq_true rfl) dX2_cutRow_34 ⟨Nat.le_of_ble_eq_true rfl, Nat.le_of_ble_eq_true rfl⟩) hS ?_
          rintro _ H locs - hT hS
          refine xi_iinc (n := 1) (lv' := fun z9 => [(5, .int z9), (0, .ref a), (1, .ref p0), (2, .ref p1)]) (k := 3) hx hb (rfl : Int32.toInt x1 = x1.toInt) (by decide) dX2_cutRow_37 hl rfl (by decide) (fun _ => rfl) (fun x9 ls t10 hl => ?_)
          have hl : lv_has ls 6 [(5, .int x9), (0, .ref a), (1, .ref p0), (2, .ref p1)] := hl
          refine lv_goto (tgt := 16) hx hb dX2_cutRow_40 (by decide) ?_
          exact ih5 x9 _ _ _ (z_X2_cutRow_2 x1.toInt x9.toInt N2 hf3 hm4 c6 t10 (xr x1) (xr x9)) (z_X2_cutRow_3 x1.toInt x9.toInt N2 hf3 hm4 c6 t10 (xr x1) (xr x9)) hT.nil hS (lv_sub hl [1, 2, 3, 0] rfl)
  exact L16 4294967297 0 _ _ _ (by decide) (by decide) hT.nil hS (lv_sub hl [1, 2, 3, 0] rfl)

theorem z_X2_moveRow_1 (a0 : Int) (h0 : (0 : Int) ≤ a0) (r0 : -2147483648 ≤ a0 ∧ a0 < 2147483648) : ¬ (2147483648 - a0 < ((0 : Nat) : Int)) := by omega
theorem z_X2_moveRow_2 (a0 : Int) (a1 : Int) (a2 : Nat) (h0 : (0 : Int) ≤ a0) (h1 : 2147483648 - a0 < ((a2 + 1 : Nat) : Int)) (h2 : ¬ ((12 : Int) ≤ a0)) (h3 : a1 = a0 + 1 ∨ a0 + 1 < -2147483648 ∨ 2147483648 ≤ a0 + 1) (r0 : -2147483648 ≤ a0 ∧ a0 < 2147483648) (r1 : -2147483648 ≤ a1 ∧ a1 < 2147483648) : (0 : Int) ≤ a1 := by omega
theorem z_X2_moveRow_3 (a0 : Int) (a1 : Int) (a2 : Nat) (h0 : (0 : Int) ≤ a0) (h1 : 2147483648 - a0 < ((a2 + 1 : Nat) : Int)) (h2 : ¬ ((12 : Int) ≤ a0)) (h3 : a1 = a0 + 1 ∨ a0 + 1 < -2147483648 ∨ 2147483648 ≤ a0 + 1) (r0 : -2147483648 ≤ a0 ∧ a0 < 2147483648) (r1 : -2147483648 ≤ a1 ∧ a1 < 2147483648) : 2147483648 - a1 < ((a2 : Nat) : Int) := by omega
theorem z_X2_moveRow_4 (a0 : Int) (a1 : Int) (a2 : Nat) (h0 : (0 : Int) ≤ a0) (h1 : 2147483648 - a0 < ((a2 + 1 : Nat) : Int)) (h2 : ¬ ((12 : Int) ≤ a0)) (h3 : a1 = a0 + 1 ∨ a0 + 1 < -2147483648 ∨ 2147483648 ≤ a0 + 1) (r0 : -2147483648 ≤ a0 ∧ a0 < 2147483648) (r1 : -2147483648 ≤ a1 ∧ a1 < 2147483648) : (0 : Int) ≤ a1 := by omega
theorem z_X2_moveRow_5 (a0 : Int) (a1 : Int) (a2 : Nat) (h0 : (0 : Int) ≤ a0) (h1 : 2147483648 - a0 < ((a2 + 1 : Nat) : Int)) (h2 : ¬ ((12 : Int) ≤ a0)) (h3 : a1 = a0 + 1 ∨ a0 + 1 < -2147483648 ∨ 2147483648 ≤ a0 + 1) (r0 : -2147483648 ≤ a0 ∧ a0 < 2147483648) (r1 : -2147483648 ≤ a1 ∧ a1 < 2147483648) : 2147483648 - a1 < ((a2 : Nat) : Int) := by omega
theorem z_X2_moveRow_6 (a0 : Int) (a1 : Int) (a2 : Nat) (h0 : (0 : Int) ≤ a0) (h1 : 2147483648 - a0 < ((a2 + 1 : Nat) : Int)) (h2 : ¬ ((12 : Int) ≤ a0)) (h3 : a1 = a0 + 1 ∨ a0 + 1 < -2147483648 ∨ 2147483648 ≤ a0 + 1) (r0 : -2147483648 ≤ a0 ∧ a0 < 2147483648) (r1 : -2147483648 ≤ a1 ∧ a1 < 2147483648) : (0 : Int) ≤ a1 := by omega
theorem z_X2_moveRow_7 (a0 : Int) (a1 : Int) (a2 : Nat) (h0 : (0 : Int) ≤ a0) (h1 : 2147483648 - a0 < ((a2 + 1 : Nat) : Int)) (h2 : ¬ ((12 : Int) ≤ a0)) (h3 : a1 = a0 + 1 ∨ a0 + 1 < -2147483648 ∨ 2147483648 ≤ a0 + 1) (r0 : -2147483648 ≤ a0 ∧ a0 < 2147483648) (r1 : -2147483648 ≤ a1 ∧ a1 < 2147483648) : 2147483648 - a1 < ((a2 : Nat) : Int) := by omega
abbrev rm_X2_moveRow : Room := { frames := 4, cells := 0, slots := 0, locals := 91 }
set_option maxHeartbeats 4000000 in
set_option maxRecDepth 100000 in
theorem c_X2_moveRow (l : Launch) (E : XE) (K : Nat → Nat) (F : Nat → Nat → Nat) (G : XG) (a : Nat) (p0 : Nat) (p1 : Nat) (p2 : Int32) (p3 : Int32) (p4 : Int32) (ha : K a = 4) (hp0 : K p0 = 8) (hp1 : K p1 = 2) : Met l yX2_moveRow (xw yX2_moveRow cX2_moveRow 8 none) rm_X2_moveRow (va_Pc [.ref a, .ref p0, .ref p1, .int p2, .int p3, .int p4] (XP E K F G)) (XQv E (fun (u : Unit) => True) (fun _ H => TW E K F G [] H)) 0 0 (xA E) := by
  refine x_enter (by decide) (Nat.le_of_ble_eq_true rfl) ?_
  intro p e s m args below meth c Q S hr hlk hnm hQ hP ls hl
  obtain ⟨hz, hK, hT⟩ := hP
  obtain ⟨hx, hb, -, -, -⟩ := id S
  obtain ⟨H, hT, hS, hgo⟩ : ∃ H : Heap, TW E K F G [] H ∧ va_S (xA E) s.heap H [] ∧ H = s.heap := ⟨_, hT, va_S.rf, rfl⟩
  rw [← hgo]
  have hl : lv_has ls 8 [(0, .ref a), (1, .ref p0), (2, .ref p1), (3, .int p2), (4, .int p3), (5, .int p4)] := hl
  refine lv_aload_n hx hb dX2_moveRow_0 rfl (lv_at hl 1 rfl) ?_
  refine lv_iload_n hx hb dX2_moveRow_1 rfl (lv_at hl 3 rfl) ?_
  refine lv_iload hx hb dX2_moveRow_2 (lv_at hl 4 rfl) ?_
  refine lv_iload hx hb dX2_moveRow_4 (lv_at hl 5 rfl) ?_
  refine x_cv0 (x_runV (b := p0) (As := [.int p2, .int p3, .int p4]) (rest := []) S (c_X6_move l E K F G p0 p2 p3 p4 hp0) mv_X6_move km_X2_36 rfl rfl ⟨Nat.le_of_ble_eq_true rfl, Nat.le_of_ble_eq_true rfl⟩ (rc_8 hK hT hp0) hK (fun _ => XP.blind) (fun U hU hW => XP.at hK hz hS hT hU hW) rfl hl.1 (Nat.le_of_ble_eq_true rfl) dX2_moveRow_6 ⟨Nat.le_of_ble_eq_true rfl, Nat.le_of_ble_eq_true rfl⟩) hS ?_
  rintro _ H locs - hT hS
  refine lv_iconst (v := 0) hx hb dX2_moveRow_9 (by decide) ?_
  refine lv_istore (lv' := [(6, .int 0), (0, .ref a), (1, .ref p0), (2, .ref p1), (3, .int p2), (4, .int p3), (5, .int p4)]) hx hb dX2_moveRow_10 hl (by decide) rfl (fun ls hl => ?_)
  have L12 : ∀ (N2 : Nat) (x1 : Int32) (H : Heap) (locs : List Loc) (ls : Array Slot), (0 : Int) ≤ x1.toInt → 2147483648 - x1.toInt < ((N2 : Nat) : Int) → TW E K F G [] H → va_S (xA E) s.heap H locs → lv_has ls 8 [(1, .ref p0), (2, .ref p1), (3, .int p2), (4, .int p3), (5, .int p4), (6, .int x1)] → W p l e rm_X2_moveRow s m args below meth c H locs 0 0 Q (F0 m 12 ls []) := by
    intro N2
    induction N2 with
    | zero =>
      intro x1 H locs ls hf3 hm4
      exact absurd hm4 (z_X2_moveRow_1 x1.toInt hf3 (xr x1))
    | succ N2 ih5 =>
      intro x1 H locs ls hf3 hm4 hT hS hl
      refine lv_iload hx hb dX2_moveRow_12 (lv_at hl 5 rfl) ?_
      refine lv_bipush (v := 12) hx hb dX2_moveRow_14 (by decide) ?_
      refine xi_cge (tgt := 72) hx hb (rfl : Int32.toInt x1 = x1.toInt) ((by decide) : Int32.toInt 12 = (12 : Int)) dX2_moveRow_16 (by decide) (fun c6 => ?_) (fun c6 => ?_)
      · exact x_rv hx hb hr hlk hQ (Nat.le_of_ble_eq_true rfl) (Nat.le_of_ble_eq_true rfl) hS dX2_moveRow_72 () trivial hT.nil
      · refine lv_aload_n hx hb dX2_moveRow_19 rfl (lv_at hl 1 rfl) ?_
        refine lv_iload hx hb dX2_moveRow_20 (lv_at hl 5 rfl) ?_
        refine x_clp (x_runV (b := p1) (As := [.int x1]) (rest := []) S (c_X0_get l E K F G H p1 x1 hp1) mv_X0_get km_X2_42 rfl rfl ⟨Nat.le_of_ble_eq_true rfl, Nat.le_of_ble_eq_true rfl⟩ (rc_2 hK hT hp1) hK (fun _ => XPh.blind) (fun U hU hW => XPh.at hK hz hS hT hU hW) rfl hl.1 (Nat.le_of_ble_eq_true rfl) dX2_moveRow_22 ⟨Nat.le_of_ble_eq_true rfl, Nat.le_of_ble_eq_true rfl⟩) hS ?_
        rintro _ _ locs (rfl | ⟨q8, rfl, hk9⟩) hS
        · refine lv_astoreN (lv' := [(7, .null), (1, .ref p0), (2, .ref p1), (3, .int p2), (4, .int p3), (5, .int p4), (6, .int x1)]) hx hb dX2_moveRow_25 hl (by decide) rfl (fun ls hl => ?_)
          refine lv_aloadN hx hb dX2_moveRow_27 (lv_at hl 0 rfl) ?_
          refine lv_ifnullN (tgt := 66) hx hb dX2_moveRow_29 (by decide) ?_
          refine xi_iinc (n := 1) (lv' := fun z9 => [(6, .int z9), (7, .null), (1, .ref p0), (2, .ref p1), (3, .int p2), (4, .int p3), (5, .int p4)]) (k := 6) hx hb (rfl : Int32.toInt x1 = x1.toInt) (by decide) dX2_moveRow_66 hl rfl (by decide) (fun _ => rfl) (fun x10 ls t11 hl => ?_)
          have hl : lv_has ls 8 [(6, .int x10), (7, .null), (1, .ref p0), (2, .ref p1), (3, .int p2), (4, .int p3), (5, .int p4)] := hl
          refine lv_goto (tgt := 12) hx hb dX2_moveRow_69 (by decide) ?_
          exact ih5 x10 _ _ _ (z_X2_moveRow_2 x1.toInt x10.toInt N2 hf3 hm4 c6 t11 (xr x1) (xr x10)) (z_X2_moveRow_3 x1.toInt x10.toInt N2 hf3 hm4 c6 t11 (xr x1) (xr x10)) hT.nil hS (lv_sub hl [2, 3, 4, 5, 6, 0] rfl)
        · refine lv_astore (lv' := [(7, .ref q8), (1, .ref p0), (2, .ref p1), (3, .int p2), (4, .int p3), (5, .int p4), (6, .int x1)]) hx hb dX2_moveRow_25 hl (by decide) rfl (fun ls hl => ?_)
          refine lv_aload hx hb dX2_moveRow_27 (lv_at hl 0 rfl) ?_
          refine lv_ifnull hx hb dX2_moveRow_29 ?_
          refine lv_aload hx hb dX2_moveRow_32 (lv_at hl 0 rfl) ?_
          refine lv_iload_n hx hb dX2_moveRow_34 rfl (lv_at hl 3 rfl) ?_
          refine x_clp (x_runV (b := q8) (As := [.int p2]) (rest := []) S (c_X7_follows l E K F G H q8 p2 hk9) mv_X7_follows km_X2_48 rfl rfl ⟨Nat.le_of_ble_eq_true rfl, Nat.le_of_ble_eq_true rfl⟩ (rc_9 hK hT hk9) hK (fun _ => XPh.blind) (fun U hU hW => XPh.at hK hz hS hT hU hW) rfl hl.1 (Nat.le_of_ble_eq_true rfl) dX2_moveRow_35 ⟨Nat.le_of_ble_eq_true rfl, Nat.le_of_ble_eq_true rfl⟩) hS ?_
          rintro _ _ locs ⟨x12, rfl, b13⟩ hS
          refine xi_zeq (tgt := 66) hx hb (rfl : Int32.toInt x12 = x12.toInt) dX2_moveRow_38 (by decide) (fun c14 => ?_) (fun c14 => ?_)
          · refine xi_iinc (n := 1) (lv' := fun z9 => [(6, .int z9), (7, .ref q8), (1, .ref p0), (2, .ref p1), (3, .int p2), (4, .int p3), (5, .int p4)]) (k := 6) hx hb (rfl : Int32.toInt x1 = x1.toInt) (by decide) dX2_moveRow_66 hl rfl (by decide) (fun _ => rfl) (fun x15 ls t16 hl => ?_)
            have hl : lv_has ls 8 [(6, .int x15), (7, .ref q8), (1, .ref p0), (2, .ref p1), (3, .int p2), (4, .int p3), (5, .int p4)] := hl
            refine lv_goto (tgt := 12) hx hb dX2_moveRow_69 (by decide) ?_
            exact ih5 x15 _ _ _ (z_X2_moveRow_4 x1.toInt x15.toInt N2 hf3 hm4 c6 t16 (xr x1) (xr x15)) (z_X2_moveRow_5 x1.toInt x15.toInt N2 hf3 hm4 c6 t16 (xr x1) (xr x15)) hT.nil hS (lv_sub hl [2, 3, 4, 5, 6, 0] rfl)
          · refine lv_aload_n hx hb dX2_moveRow_41 rfl (lv_at hl 1 rfl) ?_
            refine lv_aload hx hb dX2_moveRow_42 (lv_at hl 0 rfl) ?_
            refine lv_iload hx hb dX2_moveRow_44 (lv_at hl 4 rfl) ?_
            refine lv_aload hx hb dX2_moveRow_46 (lv_at hl 0 rfl) ?_
            refine gX7_7 S hK hT hk9 kf_X2_54 dX2_moveRow_48 (fun x17 hT => ?_)
            refine lv_iconst (v := 1) hx hb dX2_moveRow_51 (by decide) ?_
            have J63 : ∀ (x18 : Int32) (H : Heap) (locs : List Loc) (ls : Array Slot), TW E K F G [(q8, 7, x17)] H → va_S (xA E) s.heap H locs → lv_has ls 8 [(1, .ref p0), (2, .ref p1), (3, .int p2), (4, .int p3), (5, .int p4), (6, .int x1)] → W p l e rm_X2_moveRow s m args below meth c H locs 0 0 Q (F0 m 63 ls [.int x18, .int p3, .ref q8, .ref p0]) := by
              intro x18 H locs ls hT hS hl
              refine x_cv0 (x_runS (As := [.ref p0, .ref q8, .int p3, .int x18]) (rest := []) S (c_X2_replace l E K F G p0 q8 p3 x18 hp0 hk9) ms_X2_replace km_X2_57 rfl rfl ⟨Nat.le_of_ble_eq_true rfl, Nat.le_of_ble_eq_true rfl⟩ hK (fun _ => XP.blind) (fun U hU hW => XP.at hK hz hS hT hU hW) rfl hl.1 (Nat.le_of_ble_eq_true rfl) dX2_moveRow_63 ⟨Nat.le_of_ble_eq_true rfl, Nat.le_of_ble_eq_true rfl⟩) hS ?_
              rintro _ H locs - hT hS
              refine xi_iinc (n := 1) (lv' := fun z9 => [(6, .int z9), (1, .ref p0), (2, .ref p1), (3, .int p2), (4, .int p3), (5, .int p4)]) (k := 5) hx hb (rfl : Int32.toInt x1 = x1.toInt) (by decide) dX2_moveRow_66 hl rfl (by decide) (fun _ => rfl) (fun x19 ls t20 hl => ?_)
              have hl : lv_has ls 8 [(6, .int x19), (1, .ref p0), (2, .ref p1), (3, .int p2), (4, .int p3), (5, .int p4)] := hl
              refine lv_goto (tgt := 12) hx hb dX2_moveRow_69 (by decide) ?_
              exact ih5 x19 _ _ _ (z_X2_moveRow_6 x1.toInt x19.toInt N2 hf3 hm4 c6 t20 (xr x1) (xr x19)) (z_X2_moveRow_7 x1.toInt x19.toInt N2 hf3 hm4 c6 t20 (xr x1) (xr x19)) hT.nil hS (lv_sub hl [1, 2, 3, 4, 5, 0] rfl)
            refine xi_cne (tgt := 60) hx hb (rfl : Int32.toInt x17 = x17.toInt) ((by decide) : Int32.toInt 1 = (1 : Int)) dX2_moveRow_52 (by decide) (fun c21 => ?_) (fun c21 => ?_)
            · refine lv_sipush (v := (-1000)) hx hb dX2_moveRow_60 (by decide) ?_
              exact J63 (-1000) _ _ _ hT hS (lv_sub hl [1, 2, 3, 4, 5, 6] rfl)
            · refine lv_iload hx hb dX2_moveRow_55 (lv_at hl 5 rfl) ?_
              refine lv_goto (tgt := 63) hx hb dX2_moveRow_57 (by decide) ?_
              exact J63 p4 _ _ _ hT hS (lv_sub hl [1, 2, 3, 4, 5, 6] rfl)
  exact L12 4294967297 0 _ _ _ (by decide) (by decide) hT.nil hS (lv_sub hl [2, 3, 4, 5, 6, 0] rfl)
