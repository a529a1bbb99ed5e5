abbrev rm_X10_setOnPaper : Room := { frames := 3, cells := 0, slots := 0, locals := 81 }
set_option maxHeartbeats 4000000 in
set_option maxRecDepth 100000 in
theorem c_X10_setOnPaper (l : Launch) (E : XE) (K : Nat → Nat) (F : Nat → Nat → Nat) (G : XG) (a : Nat) (p0 : Int32) (p1 : Int32) (p2 : Int32) (p3 : Int32) (ha : K a = 12) : Met l yX10_setOnPaper (xw yX10_setOnPaper cX10_setOnPaper 5 (some .int)) rm_X10_setOnPaper (va_Pc [.ref a, .int p0, .int p1, .int p2, .int p3] (XP E K F G)) (XQ E (fun v (u : Unit) => ∃ r : Int32, v = .int r) (fun _ H => TW E K F G [] H)) 0 0 (xA E) := by
  refine x_enter (by decide) (Nat.le_of_ble_eq_true rfl) ?_
  intro p e s m args below meth c Q S hr hlk hnm hQ hP ls hl
  obtain ⟨hz, hK, hT⟩ := hP
  obtain ⟨hx, hb, -, -, -⟩ := id S
  obtain ⟨H, hT, hS, hgo⟩ : ∃ H : Heap, TW E K F G [] H ∧ va_S (xA E) s.heap H [] ∧ H = s.heap := ⟨_, hT, va_S.rf, rfl⟩
  rw [← hgo]
  have hl : lv_has ls 5 [(0, .ref a), (1, .int p0), (2, .int p1), (3, .int p2), (4, .int p3)] := hl
  refine lv_iload_n hx hb dX10_setOnPaper_0 rfl (lv_at hl 1 rfl) ?_
  refine x_clp (x_runS (As := [.int p0]) (rest := []) S (c_X10_isTable l E K F G H p0) ms_X10_isTable km_X10_179 rfl rfl ⟨Nat.le_of_ble_eq_true rfl, Nat.le_of_ble_eq_true rfl⟩ hK (fun _ => XPh.blind) (fun U hU hW => XPh.at hK hz hS hT hU hW) rfl hl.1 (Nat.le_of_ble_eq_true rfl) dX10_setOnPaper_1 ⟨Nat.le_of_ble_eq_true rfl, Nat.le_of_ble_eq_true rfl⟩) hS ?_
  rintro _ _ locs ⟨x1, rfl, b2, t3⟩ hS
  have t3 : (x1.toInt = 1 ∧ 0 ≤ p0.toInt ∧ p0.toInt < 3) ∨ (x1.toInt = 0 ∧ (p0.toInt < 0 ∨ 3 ≤ p0.toInt)) := t3
  refine xi_zeq (tgt := 29) hx hb (rfl : Int32.toInt x1 = x1.toInt) dX10_setOnPaper_4 (by decide) (fun c4 => ?_) (fun c4 => ?_)
  · refine lv_iconst (v := (-1)) hx hb dX10_setOnPaper_29 (by decide) ?_
    exact x_ri hx hb hr hlk hQ (Nat.le_of_ble_eq_true rfl) (Nat.le_of_ble_eq_true rfl) hS dX10_setOnPaper_30 () ⟨_, rfl⟩ hT.nil
  · refine lv_iload_n hx hb dX10_setOnPaper_7 rfl (lv_at hl 2 rfl) ?_
    refine x_clp (x_runS (As := [.int p1]) (rest := []) S (c_X10_isKey l E K F G H p1) ms_X10_isKey km_X10_182 rfl rfl ⟨Nat.le_of_ble_eq_true rfl, Nat.le_of_ble_eq_true rfl⟩ hK (fun _ => XPh.blind) (fun U hU hW => XPh.at hK hz hS hT hU hW) rfl hl.1 (Nat.le_of_ble_eq_true rfl) dX10_setOnPaper_8 ⟨Nat.le_of_ble_eq_true rfl, Nat.le_of_ble_eq_true rfl⟩) hS ?_
    rintro _ _ locs ⟨x5, rfl, b6, t7⟩ hS
    have t7 : (x5.toInt = 1 ∧ 0 ≤ p1.toInt ∧ p1.toInt < 30) ∨ (x5.toInt = 0 ∧ (p1.toInt < 0 ∨ 30 ≤ p1.toInt)) := t7
    refine xi_zeq (tgt := 29) hx hb (rfl : Int32.toInt x5 = x5.toInt) dX10_setOnPaper_11 (by decide) (fun c8 => ?_) (fun c8 => ?_)
    · refine lv_iconst (v := (-1)) hx hb dX10_setOnPaper_29 (by decide) ?_
      exact x_ri hx hb hr hlk hQ (Nat.le_of_ble_eq_true rfl) (Nat.le_of_ble_eq_true rfl) hS dX10_setOnPaper_30 () ⟨_, rfl⟩ hT.nil
    · refine lv_iload_n hx hb dX10_setOnPaper_14 rfl (lv_at hl 3 rfl) ?_
      refine x_clp (x_runS (As := [.int p2]) (rest := []) S (c_X10_isColumn l E K F G H p2) ms_X10_isColumn km_X10_255 rfl rfl ⟨Nat.le_of_ble_eq_true rfl, Nat.le_of_ble_eq_true rfl⟩ hK (fun _ => XPh.blind) (fun U hU hW => XPh.at hK hz hS hT hU hW) rfl hl.1 (Nat.le_of_ble_eq_true rfl) dX10_setOnPaper_15 ⟨Nat.le_of_ble_eq_true rfl, Nat.le_of_ble_eq_true rfl⟩) hS ?_
      rintro _ _ locs ⟨x9, rfl, b10, t11⟩ hS
      have t11 : (x9.toInt = 1 ∧ 0 ≤ p2.toInt ∧ p2.toInt < 3) ∨ (x9.toInt = 0 ∧ (p2.toInt < 0 ∨ 3 ≤ p2.toInt)) := t11
      refine xi_zeq (tgt := 29) hx hb (rfl : Int32.toInt x9 = x9.toInt) dX10_setOnPaper_18 (by decide) (fun c12 => ?_) (fun c12 => ?_)
      · refine lv_iconst (v := (-1)) hx hb dX10_setOnPaper_29 (by decide) ?_
        exact x_ri hx hb hr hlk hQ (Nat.le_of_ble_eq_true rfl) (Nat.le_of_ble_eq_true rfl) hS dX10_setOnPaper_30 () ⟨_, rfl⟩ hT.nil
      · refine lv_iload hx hb dX10_setOnPaper_21 (lv_at hl 4 rfl) ?_
        refine x_clp (x_runS (As := [.int p3]) (rest := []) S (c_X10_isValue l E K F G H p3) ms_X10_isValue km_X10_185 rfl rfl ⟨Nat.le_of_ble_eq_true rfl, Nat.le_of_ble_eq_true rfl⟩ hK (fun _ => XPh.blind) (fun U hU hW => XPh.at hK hz hS hT hU hW) rfl hl.1 (Nat.le_of_ble_eq_true rfl) dX10_setOnPaper_23 ⟨Nat.le_of_ble_eq_true rfl, Nat.le_of_ble_eq_true rfl⟩) hS ?_
        rintro _ _ locs ⟨x13, rfl, b14⟩ hS
        refine xi_zne (tgt := 31) hx hb (rfl : Int32.toInt x13 = x13.toInt) dX10_setOnPaper_26 (by decide) (fun c15 => ?_) (fun c15 => ?_)
        · refine lv_aload_n hx hb dX10_setOnPaper_31 rfl (lv_at hl 0 rfl) ?_
          refine gX10_3 S hK hT ha kf_X10_37 dX10_setOnPaper_32 (fun hk16 => ?_)
          refine lv_iload_n hx hb dX10_setOnPaper_35 rfl (lv_at hl 1 rfl) ?_
          refine lv_iload_n hx hb dX10_setOnPaper_36 rfl (lv_at hl 2 rfl) ?_
          refine x_clp (x_runV (b := (F a 3)) (As := [.int p0, .int p1]) (rest := []) S (c_X6_has l E K F G H (F a 3) p0 p1 hk16) mv_X6_has km_X10_191 rfl rfl ⟨Nat.le_of_ble_eq_true rfl, Nat.le_of_ble_eq_true rfl⟩ (rc_8 hK hT hk16) hK (fun _ => XPh.blind) (fun U hU hW => XPh.at hK hz hS hT hU hW) rfl hl.1 (Nat.le_of_ble_eq_true rfl) dX10_setOnPaper_37 ⟨Nat.le_of_ble_eq_true rfl, Nat.le_of_ble_eq_true rfl⟩) hS ?_
          rintro _ _ locs ⟨x17, rfl, b18, t19⟩ hS
          have t19 : x17.toInt = 0 ∨ (x17.toInt = 1 ∧ 0 ≤ p0.toInt ∧ p0.toInt < 3 ∧ 0 ≤ p1.toInt ∧ p1.toInt < 30) := t19
          refine xi_zne (tgt := 46) hx hb (rfl : Int32.toInt x17 = x17.toInt) dX10_setOnPaper_40 (by decide) (fun c20 => ?_) (fun c20 => ?_)
          · refine lv_aload_n hx hb dX10_setOnPaper_46 rfl (lv_at hl 0 rfl) ?_
            refine gX10_3 S hK hT ha kf_X10_37 dX10_setOnPaper_47 (fun hk21 => ?_)
            refine lv_iload_n hx hb dX10_setOnPaper_50 rfl (lv_at hl 1 rfl) ?_
            refine lv_iload_n hx hb dX10_setOnPaper_51 rfl (lv_at hl 2 rfl) ?_
            refine lv_iload_n hx hb dX10_setOnPaper_52 rfl (lv_at hl 3 rfl) ?_
            refine x_clp (x_runV (b := (F a 3)) (As := [.int p0, .int p1, .int p2]) (rest := []) S (c_X6_cell l E K F G H (F a 3) p0 p1 p2 hk21) mv_X6_cell km_X10_265 rfl rfl ⟨Nat.le_of_ble_eq_true rfl, Nat.le_of_ble_eq_true rfl⟩ (rc_8 hK hT hk21) hK (fun _ => XPh.blind) (fun U hU hW => XPh.at hK hz hS hT hU hW) rfl hl.1 (Nat.le_of_ble_eq_true rfl) dX10_setOnPaper_53 ⟨Nat.le_of_ble_eq_true rfl, Nat.le_of_ble_eq_true rfl⟩) hS ?_
            rintro _ _ locs ⟨x22, rfl⟩ hS
            refine lv_iload hx hb dX10_setOnPaper_56 (lv_at hl 4 rfl) ?_
            refine xi_cne (tgt := 64) hx hb (rfl : Int32.toInt x22 = x22.toInt) (rfl : Int32.toInt p3 = p3.toInt) dX10_setOnPaper_58 (by decide) (fun c23 => ?_) (fun c23 => ?_)
            · refine lv_aload_n hx hb dX10_setOnPaper_64 rfl (lv_at hl 0 rfl) ?_
              refine gX10_5 S hK hT ha kf_X10_44 dX10_setOnPaper_65 (fun hk24 => ?_)
              refine lv_aload_n hx hb dX10_setOnPaper_68 rfl (lv_at hl 0 rfl) ?_
              refine gX10_3 S hK hT ha kf_X10_37 dX10_setOnPaper_69 (fun hk25 => ?_)
              refine x_cv0 (x_runV (b := (F a 5)) (As := [.ref (F a 3)]) (rest := []) S (c_X6_copy l E K F G (F a 5) (F a 3) hk24 hk25) mv_X6_copy km_X10_195 rfl rfl ⟨Nat.le_of_ble_eq_true rfl, Nat.le_of_ble_eq_true rfl⟩ (rc_8 hK hT hk24) hK (fun _ => XP.blind) (fun U hU hW => XP.at hK hz hS hT hU hW) rfl hl.1 (Nat.le_of_ble_eq_true rfl) dX10_setOnPaper_72 ⟨Nat.le_of_ble_eq_true rfl, Nat.le_of_ble_eq_true rfl⟩) hS ?_
              rintro _ H locs - hT hS
              refine lv_aload_n hx hb dX10_setOnPaper_75 rfl (lv_at hl 0 rfl) ?_
              refine gX10_5 S hK hT ha kf_X10_44 dX10_setOnPaper_76 (fun hk26 => ?_)
              refine lv_iload_n hx hb dX10_setOnPaper_79 rfl (lv_at hl 1 rfl) ?_
              refine lv_iload_n hx hb dX10_setOnPaper_80 rfl (lv_at hl 2 rfl) ?_
              refine lv_iload_n hx hb dX10_setOnPaper_81 rfl (lv_at hl 3 rfl) ?_
              refine lv_iload hx hb dX10_setOnPaper_82 (lv_at hl 4 rfl) ?_
              refine x_cv0 (x_runV (b := (F a 5)) (As := [.int p0, .int p1, .int p2, .int p3]) (rest := []) S (c_X6_change l E K F G (F a 5) p0 p1 p2 p3 hk26) mv_X6_change km_X10_203 rfl rfl ⟨Nat.le_of_ble_eq_true rfl, Nat.le_of_ble_eq_true rfl⟩ (rc_8 hK hT hk26) hK (fun _ => XP.blind) (fun U hU hW => XP.at hK hz hS hT hU hW) rfl hl.1 (Nat.le_of_ble_eq_true rfl) dX10_setOnPaper_84 ⟨Nat.le_of_ble_eq_true rfl, Nat.le_of_ble_eq_true rfl⟩) hS ?_
              rintro _ H locs - hT hS
              refine lv_iconst (v := 0) hx hb dX10_setOnPaper_87 (by decide) ?_
              exact x_ri hx hb hr hlk hQ (Nat.le_of_ble_eq_true rfl) (Nat.le_of_ble_eq_true rfl) hS dX10_setOnPaper_88 () ⟨_, rfl⟩ hT.nil
            · refine lv_bipush (v := (-4)) hx hb dX10_setOnPaper_61 (by decide) ?_
              exact x_ri hx hb hr hlk hQ (Nat.le_of_ble_eq_true rfl) (Nat.le_of_ble_eq_true rfl) hS dX10_setOnPaper_63 () ⟨_, rfl⟩ hT.nil
          · refine lv_bipush (v := (-2)) hx hb dX10_setOnPaper_43 (by decide) ?_
            exact x_ri hx hb hr hlk hQ (Nat.le_of_ble_eq_true rfl) (Nat.le_of_ble_eq_true rfl) hS dX10_setOnPaper_45 () ⟨_, rfl⟩ hT.nil
        · refine lv_iconst (v := (-1)) hx hb dX10_setOnPaper_29 (by decide) ?_
          exact x_ri hx hb hr hlk hQ (Nat.le_of_ble_eq_true rfl) (Nat.le_of_ble_eq_true rfl) hS dX10_setOnPaper_30 () ⟨_, rfl⟩ hT.nil

abbrev rm_X10_refuseAct : Room := { frames := 0, cells := 0, slots := 0, locals := 0 }
set_option maxHeartbeats 4000000 in
set_option maxRecDepth 100000 in
theorem c_X10_refuseAct (l : Launch) (E : XE) (K : Nat → Nat) (F : Nat → Nat → Nat) (G : XG) (a : Nat) (p0 : Int32) (ha : K a = 12) : Met l yX10_refuseAct (xw yX10_refuseAct cX10_refuseAct 2 (some .int)) rm_X10_refuseAct (va_Pc [.ref a, .int p0] (XP E K F G)) (XQ E (fun v (u : Unit) => ∃ r : Int32, v = .int r) (fun _ H => TW E K F G [] H)) 0 0 (xA E) := by
  refine x_enter (by decide) (Nat.le_of_ble_eq_true rfl) ?_
  intro p e s m args below meth c Q S hr hlk hnm hQ hP ls hl
  obtain ⟨hz, hK, hT⟩ := hP
  obtain ⟨hx, hb, -, -, -⟩ := id S
  obtain ⟨H, hT, hS, hgo⟩ : ∃ H : Heap, TW E K F G [] H ∧ va_S (xA E) s.heap H [] ∧ H = s.heap := ⟨_, hT, va_S.rf, rfl⟩
  rw [← hgo]
  have hl : lv_has ls 2 [(0, .ref a), (1, .int p0)] := hl
  refine lv_aload_n hx hb dX10_refuseAct_0 rfl (lv_at hl 0 rfl) ?_
  refine gX10_18 S hK hT ha kf_X10_123 dX10_refuseAct_1 (fun x1 hT => ?_)
  refine xi_zeq (tgt := 17) hx hb (rfl : Int32.toInt x1 = x1.toInt) dX10_refuseAct_4 (by decide) (fun c2 => ?_) (fun c2 => ?_)
  · refine lv_iload_n hx hb dX10_refuseAct_17 rfl (lv_at hl 1 rfl) ?_
    exact x_ri hx hb hr hlk hQ (Nat.le_of_ble_eq_true rfl) (Nat.le_of_ble_eq_true rfl) hS dX10_refuseAct_18 () ⟨_, rfl⟩ hT.nil
  · refine lv_aload_n hx hb dX10_refuseAct_7 rfl (lv_at hl 0 rfl) ?_
    refine gX10_15 S hK hT ha kf_X10_95 dX10_refuseAct_8 (fun hk3 => ?_)
    refine lv_iconst (v := 5) hx hb dX10_refuseAct_11 (by decide) ?_
    refine lv_dup2_11 hx hb dX10_refuseAct_12 rfl rfl ?_
    refine al_0 S hK hT hk3 ar_26 (by decide) (by decide) dX10_refuseAct_13 (fun x4 o5 => ?_)
    refine lv_iconst (v := 1) hx hb dX10_refuseAct_14 (by decide) ?_
    refine xi_iadd hx hb (rfl : Int32.toInt x4 = x4.toInt) ((by decide) : Int32.toInt 1 = (1 : Int)) dX10_refuseAct_15 (fun x6 t7 => ?_)
    refine as_0 S hK hT hS hk3 ar_26 aw_26 (by decide) (by decide) dX10_refuseAct_16 (fun H locs hT hS => ?_)
    refine lv_iload_n hx hb dX10_refuseAct_17 rfl (lv_at hl 1 rfl) ?_
    exact x_ri hx hb hr hlk hQ (Nat.le_of_ble_eq_true rfl) (Nat.le_of_ble_eq_true rfl) hS dX10_refuseAct_18 () ⟨_, rfl⟩ hT.nil

theorem z_X10_askAtOnce_1 (a0 : Int) (h0 : (0 : Int) ≤ a0) (r0 : -2147483648 ≤ a0 ∧ a0 < 2147483648) : ¬ (2147483648 - a0 < ((0 : Nat) : Int)) := by omega
theorem z_X10_askAtOnce_2 (a0 : Int) (a1 : Int) (a2 : Int) (a3 : Nat) (h0 : (0 : Int) ≤ a0) (h1 : 2147483648 - a0 < ((a3 + 1 : Nat) : Int)) (h2 : ¬ (a2 ≤ a0)) (h3 : a1 = a0 + 1 ∨ a0 + 1 < -2147483648 ∨ 2147483648 ≤ a0 + 1) (r0 : -2147483648 ≤ a0 ∧ a0 < 2147483648) (r1 : -2147483648 ≤ a1 ∧ a1 < 2147483648) (r2 : -2147483648 ≤ a2 ∧ a2 < 2147483648) : (0 : Int) ≤ a1 := by omega
theorem z_X10_askAtOnce_3 (a0 : Int) (a1 : Int) (a2 : Int) (a3 : Nat) (h0 : (0 : Int) ≤ a0) (h1 : 2147483648 - a0 < ((a3 + 1 : Nat) : Int)) (h2 : ¬ (a2 ≤ a0)) (h3 : a1 = a0 + 1 ∨ a0 + 1 < -2147483648 ∨ 2147483648 ≤ a0 + 1) (r0 : -2147483648 ≤ a0 ∧ a0 < 2147483648) (r1 : -2147483648 ≤ a1 ∧ a1 < 2147483648) (r2 : -2147483648 ≤ a2 ∧ a2 < 2147483648) : 2147483648 - a1 < ((a3 : Nat) : Int) := by omega
abbrev rm_X10_askAtOnce : Room := { frames := 8, cells := 7, slots := 700, locals := 194 }
set_option maxHeartbeats 4000000 in
set_option maxRecDepth 100000 in
theorem c_X10_askAtOnce (l : Launch) (E : XE) (K : Nat → Nat) (F : Nat → Nat → Nat) (G : XG) (a : Nat) (ha : K a = 12) : Met l yX10_askAtOnce (xw yX10_askAtOnce cX10_askAtOnce 2 (some .boolean)) rm_X10_askAtOnce (va_Pc [.ref a] (XP E K F G)) (XQ E (fun v (u : Unit) => ∃ r : Int32, v = .int r ∧ (r = 0 ∨ r = 1)) (fun _ H => TW E K F G [] H)) 7 700 (xA E) := by
  refine x_enter (by decide) (Nat.le_of_ble_eq_true rfl) ?_
  intro p e s m args below meth c Q S hr hlk hnm hQ hP ls hl
  obtain ⟨hz, hK, hT⟩ := hP
  obtain ⟨hx, hb, -, -, -⟩ := id S
  obtain ⟨H, hT, hS, hgo⟩ : ∃ H : Heap, TW E K F G [] H ∧ va_S (xA E) s.heap H [] ∧ H = s.heap := ⟨_, hT, va_S.rf, rfl⟩
  rw [← hgo]
  have hl : lv_has ls 2 [(0, .ref a)] := hl
  refine lv_iconst (v := 0) hx hb dX10_askAtOnce_0 (by decide) ?_
  refine lv_istore_n (lv' := [(1, .int 0), (0, .ref a)]) hx hb dX10_askAtOnce_1 rfl hl (by decide) rfl (fun ls hl => ?_)
  have L2 : ∀ (N2 : Nat) (x1 : Int32) (H : Heap) (locs : List Loc) (ls : Array Slot), (0 : Int) ≤ x1.toInt → 2147483648 - x1.toInt < ((N2 : Nat) : Int) → TW E K F G [] H → va_S (xA E) s.heap H locs → lv_has ls 2 [(0, .ref a), (1, .int x1)] → W p l e rm_X10_askAtOnce s m args below meth c H locs 0 0 Q (F0 m 2 ls []) := by
    intro N2
    induction N2 with
    | zero =>
      intro x1 H locs ls hf3 hm4
      exact absurd hm4 (z_X10_askAtOnce_1 x1.toInt hf3 (xr x1))
    | succ N2 ih5 =>
      intro x1 H locs ls hf3 hm4 hT hS hl
      refine lv_iload_n hx hb dX10_askAtOnce_2 rfl (lv_at hl 1 rfl) ?_
      refine lv_aload_n hx hb dX10_askAtOnce_3 rfl (lv_at hl 0 rfl) ?_
      refine gX10_9 S hK hT ha kf_X10_61 dX10_askAtOnce_4 (fun hk6 => ?_)
      refine x_clp (x_runV (b := (F a 9)) (As := []) (rest := [.int x1]) S (c_X4_size l E K F G H (F a 9) hk6) mv_X4_size km_X10_232 rfl rfl ⟨Nat.le_of_ble_eq_true rfl, Nat.le_of_ble_eq_true rfl⟩ (rc_6 hK hT hk6) hK (fun _ => XPh.blind) (fun U hU hW => XPh.at hK hz hS hT hU hW) rfl hl.1 (Nat.le_of_ble_eq_true rfl) dX10_askAtOnce_7 ⟨Nat.le_of_ble_eq_true rfl, Nat.le_of_ble_eq_true rfl⟩) hS ?_
      rintro _ _ locs ⟨x7, rfl⟩ hS
      refine xi_cge (tgt := 65) hx hb (rfl : Int32.toInt x1 = x1.toInt) (rfl : Int32.toInt x7 = x7.toInt) dX10_askAtOnce_10 (by decide) (fun c8 => ?_) (fun c8 => ?_)
      · refine lv_iconst (v := 1) hx hb dX10_askAtOnce_65 (by decide) ?_
        exact x_rz hx hb hr (xnz (Or.inr rfl)) hlk hQ (Nat.le_of_ble_eq_true rfl) (Nat.le_of_ble_eq_true rfl) hS dX10_askAtOnce_66 () ⟨_, rfl, (Or.inr rfl)⟩ hT.nil
      · refine lv_aload_n hx hb dX10_askAtOnce_13 rfl (lv_at hl 0 rfl) ?_
        refine gX10_9 S hK hT ha kf_X10_61 dX10_askAtOnce_14 (fun hk9 => ?_)
        refine lv_iload_n hx hb dX10_askAtOnce_17 rfl (lv_at hl 1 rfl) ?_
        refine x_clp (x_runV (b := (F a 9)) (As := [.int x1]) (rest := []) S (c_X4_isLate l E K F G H (F a 9) x1 hk9) mv_X4_isLate km_X10_404 rfl rfl ⟨Nat.le_of_ble_eq_true rfl, Nat.le_of_ble_eq_true rfl⟩ (rc_6 hK hT hk9) hK (fun _ => XPh.blind) (fun U hU hW => XPh.at hK hz hS hT hU hW) rfl hl.1 (Nat.le_of_ble_eq_true rfl) dX10_askAtOnce_18 ⟨Nat.le_of_ble_eq_true rfl, Nat.le_of_ble_eq_true rfl⟩) hS ?_
        rintro _ _ locs ⟨x10, rfl, b11⟩ hS
        have J59 : ∀ (H : Heap) (locs : List Loc) (ls : Array Slot), TW E K F G [] H → va_S (xA E) s.heap H locs → lv_has ls 2 [(0, .ref a), (1, .int x1)] → W p l e rm_X10_askAtOnce s m args below meth c H locs 0 0 Q (F0 m 59 ls []) := by
          intro H locs ls hT hS hl
          refine xi_iinc (n := 1) (lv' := fun z9 => [(1, .int z9), (0, .ref a)]) (k := 1) hx hb (rfl : Int32.toInt x1 = x1.toInt) (by decide) dX10_askAtOnce_59 hl rfl (by decide) (fun _ => rfl) (fun x12 ls t13 hl => ?_)
          have hl : lv_has ls 2 [(1, .int x12), (0, .ref a)] := hl
          refine lv_goto (tgt := 2) hx hb dX10_askAtOnce_62 (by decide) ?_
          exact ih5 x12 _ _ _ (z_X10_askAtOnce_2 x1.toInt x12.toInt x7.toInt N2 hf3 hm4 c8 t13 (xr x1) (xr x12) (xr x7)) (z_X10_askAtOnce_3 x1.toInt x12.toInt x7.toInt N2 hf3 hm4 c8 t13 (xr x1) (xr x12) (xr x7)) hT.nil hS (lv_sub hl [1, 0] rfl)
        refine xi_zeq (tgt := 27) hx hb (rfl : Int32.toInt x10 = x10.toInt) dX10_askAtOnce_21 (by decide) (fun c14 => ?_) (fun c14 => ?_)
        · refine lv_aload_n hx hb dX10_askAtOnce_27 rfl (lv_at hl 0 rfl) ?_
          refine gX10_16 S hK hT ha kf_X10_99 dX10_askAtOnce_28 (fun hk15 => ?_)
          refine lv_iconst (v := 0) hx hb dX10_askAtOnce_31 (by decide) ?_
          refine lv_dup2_11 hx hb dX10_askAtOnce_32 rfl rfl ?_
          refine al_0 S hK hT hk15 ar_27 (by decide) (by decide) dX10_askAtOnce_33 (fun x16 o17 => ?_)
          refine lv_iconst (v := 1) hx hb dX10_askAtOnce_34 (by decide) ?_
          refine xi_iadd hx hb (rfl : Int32.toInt x16 = x16.toInt) ((by decide) : Int32.toInt 1 = (1 : Int)) dX10_askAtOnce_35 (fun x18 t19 => ?_)
          refine as_0 S hK hT hS hk15 ar_27 aw_27 (by decide) (by decide) dX10_askAtOnce_36 (fun H locs hT hS => ?_)
          refine lv_aload_n hx hb dX10_askAtOnce_37 rfl (lv_at hl 0 rfl) ?_
          refine gX10_9 S hK hT ha kf_X10_61 dX10_askAtOnce_38 (fun hk20 => ?_)
          refine lv_iload_n hx hb dX10_askAtOnce_41 rfl (lv_at hl 1 rfl) ?_
          refine x_clp (x_runV (b := (F a 9)) (As := [.int x1]) (rest := []) S (c_X4_fails l E K F G H (F a 9) x1 hk20) mv_X4_fails km_X10_309 rfl rfl ⟨Nat.le_of_ble_eq_true rfl, Nat.le_of_ble_eq_true rfl⟩ (rc_6 hK hT hk20) hK (fun _ => XPh.blind) (fun U hU hW => XPh.at hK hz hS hT hU hW) rfl hl.1 (Nat.le_of_ble_eq_true rfl) dX10_askAtOnce_42 ⟨Nat.le_of_ble_eq_true rfl, Nat.le_of_ble_eq_true rfl⟩) hS ?_
          rintro _ _ locs ⟨x21, rfl, b22⟩ hS
          refine xi_zeq (tgt := 59) hx hb (rfl : Int32.toInt x21 = x21.toInt) dX10_askAtOnce_45 (by decide) (fun c23 => ?_) (fun c23 => ?_)
          · exact J59 _ _ _ hT.nil hS (lv_sub hl [0, 1] rfl)
          · refine lv_aload_n hx hb dX10_askAtOnce_48 rfl (lv_at hl 0 rfl) ?_
            refine lv_aload_n hx hb dX10_askAtOnce_49 rfl (lv_at hl 0 rfl) ?_
            refine gX10_9 S hK hT ha kf_X10_61 dX10_askAtOnce_50 (fun hk24 => ?_)
            refine lv_iload_n hx hb dX10_askAtOnce_53 rfl (lv_at hl 1 rfl) ?_
            refine x_cv (x_runV (b := a) (As := [.ref (F a 9), .int x1]) (rest := []) S (c_X10_tellVerdict l E K F G a (F a 9) x1 ha hk24) mv_X10_tellVerdict km_X10_247 rfl rfl ⟨Nat.le_of_ble_eq_true rfl, Nat.le_of_ble_eq_true rfl⟩ (rc_12 hK hT ha) hK (fun _ => XP.blind) (fun U hU hW => XP.at hK hz hS hT hU hW) rfl hl.1 (Nat.le_of_ble_eq_true rfl) dX10_askAtOnce_54 ⟨Nat.le_of_ble_eq_true rfl, Nat.le_of_ble_eq_true rfl⟩) hS ?_
            rintro _ H locs - hT hS
            refine lv_iconst (v := 0) hx hb dX10_askAtOnce_57 (by decide) ?_
            exact x_rz hx hb hr (xnz (Or.inl rfl)) hlk hQ (Nat.le_of_ble_eq_true rfl) (Nat.le_of_ble_eq_true rfl) hS dX10_askAtOnce_58 () ⟨_, rfl, (Or.inl rfl)⟩ hT.nil
        · refine lv_goto (tgt := 59) hx hb dX10_askAtOnce_24 (by decide) ?_
          exact J59 _ _ _ hT.nil hS (lv_sub hl [0, 1] rfl)
  exact L2 4294967297 0 _ _ _ (by decide) (by decide) hT.nil hS (lv_sub hl [1, 0] rfl)

theorem z_X10_askToCommit_1 (a0 : Int) (h0 : (0 : Int) ≤ a0) (r0 : -2147483648 ≤ a0 ∧ a0 < 2147483648) : ¬ (2147483648 - a0 < ((0 : Nat) : Int)) := by omega
theorem z_X10_askToCommit_2 (a0 : Int) (a1 : Int) (a2 : Int) (a3 : Nat) (h0 : (0 : Int) ≤ a1) (h1 : 2147483648 - a1 < ((a3 + 1 : Nat) : Int)) (h2 : ¬ (a2 ≤ a1)) (h3 : a0 = a1 + 1 ∨ a1 + 1 < -2147483648 ∨ 2147483648 ≤ a1 + 1) (r0 : -2147483648 ≤ a0 ∧ a0 < 2147483648) (r1 : -2147483648 ≤ a1 ∧ a1 < 2147483648) (r2 : -2147483648 ≤ a2 ∧ a2 < 2147483648) : (0 : Int) ≤ a0 := by omega
theorem z_X10_askToCommit_3 (a0 : Int) (a1 : Int) (a2 : Int) (a3 : Nat) (h0 : (0 : Int) ≤ a1) (h1 : 2147483648 - a1 < ((a3 + 1 : Nat) : Int)) (h2 : ¬ (a2 ≤ a1)) (h3 : a0 = a1 + 1 ∨ a1 + 1 < -2147483648 ∨ 2147483648 ≤ a1 + 1) (r0 : -2147483648 ≤ a0 ∧ a0 < 2147483648) (r1 : -2147483648 ≤ a1 ∧ a1 < 2147483648) (r2 : -2147483648 ≤ a2 ∧ a2 < 2147483648) : 2147483648 - a0 < ((a3 : Nat) : Int) := by omega
abbrev rm_X10_askToCommit : Room := { frames := 8, cells := 7, slots := 700, locals := 194 }
set_option maxHeartbeats 4000000 in
set_option maxRecDepth 100000 in
theorem c_X10_askToCommit (l : Launch) (E : XE) (K : Nat → Nat) (F : Nat → Nat → Nat) (G : XG) (a : Nat) (p0 : Nat) (ha : K a = 12) (hp0 : K p0 = 6) : Met l yX10_askToCommit (xw yX10_askToCommit cX10_askToCommit 3 (some .boolean)) rm_X10_askToCommit (va_Pc [.ref a, .ref p0] (XP E K F G)) (XQ E (fun v (u : Unit) => ∃ r : Int32, v = .int r ∧ (r = 0 ∨ r = 1)) (fun _ H => TW E K F G [] H)) 7 700 (xA E) := by
  refine x_enter (by decide) (Nat.le_of_ble_eq_true rfl) ?_
  intro p e s m args below meth c Q S hr hlk hnm hQ hP ls hl
  obtain ⟨hz, hK, hT⟩ := hP
  obtain ⟨hx, hb, -, -, -⟩ := id S
  obtain ⟨H, hT, hS, hgo⟩ : ∃ H : Heap, TW E K F G [] H ∧ va_S (xA E) s.heap H [] ∧ H = s.heap := ⟨_, hT, va_S.rf, rfl⟩
  rw [← hgo]
  have hl : lv_has ls 3 [(0, .ref a), (1, .ref p0)] := hl
  refine lv_aload_n hx hb dX10_askToCommit_0 rfl (lv_at hl 0 rfl) ?_
  refine gX10_10 S hK hT ha kf_X10_64 dX10_askToCommit_1 (fun hk1 => ?_)
  refine x_cv0 (x_runV (b := (F a 10)) (As := []) (rest := []) S (c_X4_clear l E K F G (F a 10) hk1) mv_X4_clear km_X10_386 rfl rfl ⟨Nat.le_of_ble_eq_true rfl, Nat.le_of_ble_eq_true rfl⟩ (rc_6 hK hT hk1) hK (fun _ => XP.blind) (fun U hU hW => XP.at hK hz hS hT hU hW) rfl hl.1 (Nat.le_of_ble_eq_true rfl) dX10_askToCommit_4 ⟨Nat.le_of_ble_eq_true rfl, Nat.le_of_ble_eq_true rfl⟩) hS ?_
  rintro _ H locs - hT hS
  refine lv_iconst (v := 0) hx hb dX10_askToCommit_7 (by decide) ?_
  refine lv_istore_n (lv' := [(2, .int 0), (0, .ref a), (1, .ref p0)]) hx hb dX10_askToCommit_8 rfl hl (by decide) rfl (fun ls hl => ?_)
  have L9 : ∀ (N3 : Nat) (x2 : Int32) (H : Heap) (locs : List Loc) (ls : Array Slot), (0 : Int) ≤ x2.toInt → 2147483648 - x2.toInt < ((N3 : Nat) : Int) → TW E K F G [] H → va_S (xA E) s.heap H locs → lv_has ls 3 [(0, .ref a), (1, .ref p0), (2, .int x2)] → W p l e rm_X10_askToCommit s m args below meth c H locs 0 0 Q (F0 m 9 ls []) := by
    intro N3
    induction N3 with
    | zero =>
      intro x2 H locs ls hf4 hm5
      exact absurd hm5 (z_X10_askToCommit_1 x2.toInt hf4 (xr x2))
    | succ N3 ih6 =>
      intro x2 H locs ls hf4 hm5 hT hS hl
      refine lv_iload_n hx hb dX10_askToCommit_9 rfl (lv_at hl 2 rfl) ?_
      refine lv_aload_n hx hb dX10_askToCommit_10 rfl (lv_at hl 1 rfl) ?_
      refine x_clp (x_runV (b := p0) (As := []) (rest := [.int x2]) S (c_X4_size l E K F G H p0 hp0) mv_X4_size km_X10_232 rfl rfl ⟨Nat.le_of_ble_eq_true rfl, Nat.le_of_ble_eq_true rfl⟩ (rc_6 hK hT hp0) hK (fun _ => XPh.blind) (fun U hU hW => XPh.at hK hz hS hT hU hW) rfl hl.1 (Nat.le_of_ble_eq_true rfl) dX10_askToCommit_11 ⟨Nat.le_of_ble_eq_true rfl, Nat.le_of_ble_eq_true rfl⟩) hS ?_
      rintro _ _ locs ⟨x7, rfl⟩ hS
      refine xi_cge (tgt := 79) hx hb (rfl : Int32.toInt x2 = x2.toInt) (rfl : Int32.toInt x7 = x7.toInt) dX10_askToCommit_14 (by decide) (fun c8 => ?_) (fun c8 => ?_)
      · refine lv_aload_n hx hb dX10_askToCommit_79 rfl (lv_at hl 0 rfl) ?_
        refine gX10_16 S hK hT ha kf_X10_99 dX10_askToCommit_80 (fun hk9 => ?_)
        refine lv_iconst (v := 1) hx hb dX10_askToCommit_83 (by decide) ?_
        refine lv_dup2_11 hx hb dX10_askToCommit_84 rfl rfl ?_
        refine al_0 S hK hT hk9 ar_27 (by decide) (by decide) dX10_askToCommit_85 (fun x10 o11 => ?_)
        refine lv_iconst (v := 1) hx hb dX10_askToCommit_86 (by decide) ?_
        refine xi_iadd hx hb (rfl : Int32.toInt x10 = x10.toInt) ((by decide) : Int32.toInt 1 = (1 : Int)) dX10_askToCommit_87 (fun x12 t13 => ?_)
        refine as_0 S hK hT hS hk9 ar_27 aw_27 (by decide) (by decide) dX10_askToCommit_88 (fun H locs hT hS => ?_)
        refine lv_iconst (v := 1) hx hb dX10_askToCommit_89 (by decide) ?_
        exact x_rz hx hb hr (xnz (Or.inr rfl)) hlk hQ (Nat.le_of_ble_eq_true rfl) (Nat.le_of_ble_eq_true rfl) hS dX10_askToCommit_90 () ⟨_, rfl, (Or.inr rfl)⟩ hT.nil
      · refine lv_aload_n hx hb dX10_askToCommit_17 rfl (lv_at hl 1 rfl) ?_
        refine lv_iload_n hx hb dX10_askToCommit_18 rfl (lv_at hl 2 rfl) ?_
        refine x_clp (x_runV (b := p0) (As := [.int x2]) (rest := []) S (c_X4_isLate l E K F G H p0 x2 hp0) mv_X4_isLate km_X10_404 rfl rfl ⟨Nat.le_of_ble_eq_true rfl, Nat.le_of_ble_eq_true rfl⟩ (rc_6 hK hT hp0) hK (fun _ => XPh.blind) (fun U hU hW => XPh.at hK hz hS hT hU hW) rfl hl.1 (Nat.le_of_ble_eq_true rfl) dX10_askToCommit_19 ⟨Nat.le_of_ble_eq_true rfl, Nat.le_of_ble_eq_true rfl⟩) hS ?_
        rintro _ _ locs ⟨x14, rfl, b15⟩ hS
        have J73 : ∀ (H : Heap) (locs : List Loc) (ls : Array Slot), TW E K F G [] H → va_S (xA E) s.heap H locs → lv_has ls 3 [(0, .ref a), (1, .ref p0), (2, .int x2)] → W p l e rm_X10_askToCommit s m args below meth c H locs 0 0 Q (F0 m 73 ls []) := by
          intro H locs ls hT hS hl
          refine xi_iinc (n := 1) (lv' := fun z9 => [(2, .int z9), (0, .ref a), (1, .ref p0)]) (k := 2) hx hb (rfl : Int32.toInt x2 = x2.toInt) (by decide) dX10_askToCommit_73 hl rfl (by decide) (fun _ => rfl) (fun x16 ls t17 hl => ?_)
          have hl : lv_has ls 3 [(2, .int x16), (0, .ref a), (1, .ref p0)] := hl
          refine lv_goto (tgt := 9) hx hb dX10_askToCommit_76 (by decide) ?_
          exact ih6 x16 _ _ _ (z_X10_askToCommit_2 x16.toInt x2.toInt x7.toInt N3 hf4 hm5 c8 t17 (xr x16) (xr x2) (xr x7)) (z_X10_askToCommit_3 x16.toInt x2.toInt x7.toInt N3 hf4 hm5 c8 t17 (xr x16) (xr x2) (xr x7)) hT.nil hS (lv_sub hl [1, 2, 0] rfl)
        refine xi_zne (tgt := 28) hx hb (rfl : Int32.toInt x14 = x14.toInt) dX10_askToCommit_22 (by decide) (fun c18 => ?_) (fun c18 => ?_)
        · refine lv_aload_n hx hb dX10_askToCommit_28 rfl (lv_at hl 0 rfl) ?_
          refine gX10_16 S hK hT ha kf_X10_99 dX10_askToCommit_29 (fun hk19 => ?_)
          refine lv_iconst (v := 0) hx hb dX10_askToCommit_32 (by decide) ?_
          refine lv_dup2_11 hx hb dX10_askToCommit_33 rfl rfl ?_
          refine al_0 S hK hT hk19 ar_27 (by decide) (by decide) dX10_askToCommit_34 (fun x20 o21 => ?_)
          refine lv_iconst (v := 1) hx hb dX10_askToCommit_35 (by decide) ?_
          refine xi_iadd hx hb (rfl : Int32.toInt x20 = x20.toInt) ((by decide) : Int32.toInt 1 = (1 : Int)) dX10_askToCommit_36 (fun x22 t23 => ?_)
          refine as_0 S hK hT hS hk19 ar_27 aw_27 (by decide) (by decide) dX10_askToCommit_37 (fun H locs hT hS => ?_)
          refine lv_aload_n hx hb dX10_askToCommit_38 rfl (lv_at hl 0 rfl) ?_
          refine gX10_10 S hK hT ha kf_X10_64 dX10_askToCommit_39 (fun hk24 => ?_)
          refine lv_aload_n hx hb dX10_askToCommit_42 rfl (lv_at hl 1 rfl) ?_
          refine lv_iload_n hx hb dX10_askToCommit_43 rfl (lv_at hl 2 rfl) ?_
          refine x_cv0 (x_runV (b := (F a 10)) (As := [.ref p0, .int x2]) (rest := []) S (c_X4_take l E K F G (F a 10) p0 x2 hk24 hp0) mv_X4_take km_X10_407 rfl rfl ⟨Nat.le_of_ble_eq_true rfl, Nat.le_of_ble_eq_true rfl⟩ (rc_6 hK hT hk24) hK (fun _ => XP.blind) (fun U hU hW => XP.at hK hz hS hT hU hW) rfl hl.1 (Nat.le_of_ble_eq_true rfl) dX10_askToCommit_44 ⟨Nat.le_of_ble_eq_true rfl, Nat.le_of_ble_eq_true rfl⟩) hS ?_
          rintro _ H locs - hT hS
          refine lv_aload_n hx hb dX10_askToCommit_47 rfl (lv_at hl 1 rfl) ?_
          refine lv_iload_n hx hb dX10_askToCommit_48 rfl (lv_at hl 2 rfl) ?_
          refine x_clp (x_runV (b := p0) (As := [.int x2]) (rest := []) S (c_X4_fails l E K F G H p0 x2 hp0) mv_X4_fails km_X10_309 rfl rfl ⟨Nat.le_of_ble_eq_true rfl, Nat.le_of_ble_eq_true rfl⟩ (rc_6 hK hT hp0) hK (fun _ => XPh.blind) (fun U hU hW => XPh.at hK hz hS hT hU hW) rfl hl.1 (Nat.le_of_ble_eq_true rfl) dX10_askToCommit_49 ⟨Nat.le_of_ble_eq_true rfl, Nat.le_of_ble_eq_true rfl⟩) hS ?_
          rintro _ _ locs ⟨x25, rfl, b26⟩ hS
          refine xi_zeq (tgt := 73) hx hb (rfl : Int32.toInt x25 = x25.toInt) dX10_askToCommit_52 (by decide) (fun c27 => ?_) (fun c27 => ?_)
          · exact J73 _ _ _ hT.nil hS (lv_sub hl [0, 1, 2] rfl)
          · refine lv_aload_n hx hb dX10_askToCommit_55 rfl (lv_at hl 0 rfl) ?_
            refine lv_aload_n hx hb dX10_askToCommit_56 rfl (lv_at hl 1 rfl) ?_
            refine lv_iload_n hx hb dX10_askToCommit_57 rfl (lv_at hl 2 rfl) ?_
            refine x_cv (x_runV (b := a) (As := [.ref p0, .int x2]) (rest := []) S (c_X10_tellVerdict l E K F G a p0 x2 ha hp0) mv_X10_tellVerdict km_X10_247 rfl rfl ⟨Nat.le_of_ble_eq_true rfl, Nat.le_of_ble_eq_true rfl⟩ (rc_12 hK hT ha) hK (fun _ => XP.blind) (fun U hU hW => XP.at hK hz hS hT hU hW) rfl hl.1 (Nat.le_of_ble_eq_true rfl) dX10_askToCommit_58 ⟨Nat.le_of_ble_eq_true rfl, Nat.le_of_ble_eq_true rfl⟩) hS ?_
            rintro _ H locs - hT hS
            refine lv_aload_n hx hb dX10_askToCommit_61 rfl (lv_at hl 0 rfl) ?_
            refine gX10_16 S hK hT ha kf_X10_99 dX10_askToCommit_62 (fun hk28 => ?_)
            refine lv_iconst (v := 2) hx hb dX10_askToCommit_65 (by decide) ?_
            refine lv_dup2_11 hx hb dX10_askToCommit_66 rfl rfl ?_
            refine al_0 S hK hT hk28 ar_27 (by decide) (by decide) dX10_askToCommit_67 (fun x29 o30 => ?_)
            refine lv_iconst (v := 1) hx hb dX10_askToCommit_68 (by decide) ?_
            refine xi_iadd hx hb (rfl : Int32.toInt x29 = x29.toInt) ((by decide) : Int32.toInt 1 = (1 : Int)) dX10_askToCommit_69 (fun x31 t32 => ?_)
            refine as_0 S hK hT hS hk28 ar_27 aw_27 (by decide) (by decide) dX10_askToCommit_70 (fun H locs hT hS => ?_)
            refine lv_iconst (v := 0) hx hb dX10_askToCommit_71 (by decide) ?_
            exact x_rz hx hb hr (xnz (Or.inl rfl)) hlk hQ (Nat.le_of_ble_eq_true rfl) (Nat.le_of_ble_eq_true rfl) hS dX10_askToCommit_72 () ⟨_, rfl, (Or.inl rfl)⟩ hT.nil
        · refine lv_goto (tgt := 73) hx hb dX10_askToCommit_25 (by decide) ?_
          exact J73 _ _ _ hT.nil hS (lv_sub hl [0, 1, 2] rfl)
  exact L9 4294967297 0 _ _ _ (by decide) (by decide) hT.nil hS (lv_sub hl [1, 2, 0] rfl)

theorem z_X10_tally_1 (a0 : Int) (h0 : (0 : Int) ≤ a0) (r0 : -2147483648 ≤ a0 ∧ a0 < 2147483648) : ¬ (2147483648 - a0 < ((0 : Nat) : Int)) := by omega
theorem z_X10_tally_2 (a0 : Int) (a1 : Int) (a2 : Int) (a3 : Nat) (h0 : (0 : Int) ≤ a0) (h1 : 2147483648 - a0 < ((a3 + 1 : Nat) : Int)) (h2 : ¬ (a2 ≤ a0)) (h3 : a1 = a0 + 1 ∨ a0 + 1 < -2147483648 ∨ 2147483648 ≤ a0 + 1) (r0 : -2147483648 ≤ a0 ∧ a0 < 2147483648) (r1 : -2147483648 ≤ a1 ∧ a1 < 2147483648) (r2 : -2147483648 ≤ a2 ∧ a2 < 2147483648) : (0 : Int) ≤ a1 := by omega
theorem z_X10_tally_3 (a0 : Int) (a1 : Int) (a2 : Int) (a3 : Nat) (h0 : (0 : Int) ≤ a0) (h1 : 2147483648 - a0 < ((a3 + 1 : Nat) : Int)) (h2 : ¬ (a2 ≤ a0)) (h3 : a1 = a0 + 1 ∨ a0 + 1 < -2147483648 ∨ 2147483648 ≤ a0 + 1) (r0 : -2147483648 ≤ a0 ∧ a0 < 2147483648) (r1 : -2147483648 ≤ a1 ∧ a1 < 2147483648) (r2 : -2147483648 ≤ a2 ∧ a2 < 2147483648) : 2147483648 - a1 < ((a3 : Nat) : Int) := by omega
theorem z_X10_tally_4 (a0 : Int) (a1 : Int) (a2 : Int) (a3 : Nat) (h0 : (0 : Int) ≤ a0) (h1 : 2147483648 - a0 < ((a3 + 1 : Nat) : Int)) (h2 : ¬ (a2 ≤ a0)) (h3 : a1 = a0 + 1 ∨ a0 + 1 < -2147483648 ∨ 2147483648 ≤ a0 + 1) (r0 : -2147483648 ≤ a0 ∧ a0 < 2147483648) (r1 : -2147483648 ≤ a1 ∧ a1 < 2147483648) (r2 : -2147483648 ≤ a2 ∧ a2 < 2147483648) : (0 : Int) ≤ a1 := by omega
theorem z_X10_tally_5 (a0 : Int) (a1 : Int) (a2 : Int) (a3 : Nat) (h0 : (0 : Int) ≤ a0) (h1 : 2147483648 - a0 < ((a3 + 1 : Nat) : Int)) (h2 : ¬ (a2 ≤ a0)) (h3 : a1 = a0 + 1 ∨ a0 + 1 < -2147483648 ∨ 2147483648 ≤ a0 + 1) (r0 : -2147483648 ≤ a0 ∧ a0 < 2147483648) (r1 : -2147483648 ≤ a1 ∧ a1 < 2147483648) (r2 : -2147483648 ≤ a2 ∧ a2 < 2147483648) : 2147483648 - a1 < ((a3 : Nat) : Int) := by omega
theorem z_X10_tally_6 (a0 : Int) (h0 : 0 ≤ a0 ∧ a0 < 6) (r0 : -2147483648 ≤ a0 ∧ a0 < 2147483648) : 0 ≤ a0 ∧ a0 < ((6 : Nat) : Int) := by omega
theorem z_X10_tally_7 (a0 : Int) (h0 : 0 ≤ a0 ∧ a0 < 6) (r0 : -2147483648 ≤ a0 ∧ a0 < 2147483648) : 0 ≤ a0 ∧ a0 < ((6 : Nat) : Int) := by omega
theorem z_X10_tally_8 (a0 : Int) (a1 : Int) (a2 : Int) (a3 : Nat) (h0 : (0 : Int) ≤ a0) (h1 : 2147483648 - a0 < ((a3 + 1 : Nat) : Int)) (h2 : ¬ (a2 ≤ a0)) (h3 : a1 = a0 + 1 ∨ a0 + 1 < -2147483648 ∨ 2147483648 ≤ a0 + 1) (r0 : -2147483648 ≤ a0 ∧ a0 < 2147483648) (r1 : -2147483648 ≤ a1 ∧ a1 < 2147483648) (r2 : -2147483648 ≤ a2 ∧ a2 < 2147483648) : (0 : Int) ≤ a1 := by omega
theorem z_X10_tally_9 (a0 : Int) (a1 : Int) (a2 : Int) (a3 : Nat) (h0 : (0 : Int) ≤ a0) (h1 : 2147483648 - a0 < ((a3 + 1 : Nat) : Int)) (h2 : ¬ (a2 ≤ a0)) (h3 : a1 = a0 + 1 ∨ a0 + 1 < -2147483648 ∨ 2147483648 ≤ a0 + 1) (r0 : -2147483648 ≤ a0 ∧ a0 < 2147483648) (r1 : -2147483648 ≤ a1 ∧ a1 < 2147483648) (r2 : -2147483648 ≤ a2 ∧ a2 < 2147483648) : 2147483648 - a1 < ((a3 : Nat) : Int) := by omega
theorem z_X10_tally_10 (a0 : Int) (h0 : 0 ≤ a0 ∧ a0 < 6) (r0 : -2147483648 ≤ a0 ∧ a0 < 2147483648) : 0 ≤ a0 ∧ a0 < ((6 : Nat) : Int) := by omega
theorem z_X10_tally_11 (a0 : Int) (h0 : 0 ≤ a0 ∧ a0 < 6) (r0 : -2147483648 ≤ a0 ∧ a0 < 2147483648) : 0 ≤ a0 ∧ a0 < ((6 : Nat) : Int) := by omega
theorem z_X10_tally_12 (a0 : Int) (a1 : Int) (a2 : Int) (a3 : Nat) (h0 : (0 : Int) ≤ a0) (h1 : 2147483648 - a0 < ((a3 + 1 : Nat) : Int)) (h2 : ¬ (a2 ≤ a0)) (h3 : a1 = a0 + 1 ∨ a0 + 1 < -2147483648 ∨ 2147483648 ≤ a0 + 1) (r0 : -2147483648 ≤ a0 ∧ a0 < 2147483648) (r1 : -2147483648 ≤ a1 ∧ a1 < 2147483648) (r2 : -2147483648 ≤ a2 ∧ a2 < 2147483648) : (0 : Int) ≤ a1 := by omega
theorem z_X10_tally_13 (a0 : Int) (a1 : Int) (a2 : Int) (a3 : Nat) (h0 : (0 : Int) ≤ a0) (h1 : 2147483648 - a0 < ((a3 + 1 : Nat) : Int)) (h2 : ¬ (a2 ≤ a0)) (h3 : a1 = a0 + 1 ∨ a0 + 1 < -2147483648 ∨ 2147483648 ≤ a0 + 1) (r0 : -2147483648 ≤ a0 ∧ a0 < 2147483648) (r1 : -2147483648 ≤ a1 ∧ a1 < 2147483648) (r2 : -2147483648 ≤ a2 ∧ a2 < 2147483648) : 2147483648 - a1 < ((a3 : Nat) : Int) := by omega
theorem z_X10_tally_14 (a0 : Int) (a1 : Int) (a2 : Int) (a3 : Nat) (h0 : (0 : Int) ≤ a0) (h1 : 2147483648 - a0 < ((a3 + 1 : Nat) : Int)) (h2 : ¬ (a2 ≤ a0)) (h3 : a1 = a0 + 1 ∨ a0 + 1 < -2147483648 ∨ 2147483648 ≤ a0 + 1) (r0 : -2147483648 ≤ a0 ∧ a0 < 2147483648) (r1 : -2147483648 ≤ a1 ∧ a1 < 2147483648) (r2 : -2147483648 ≤ a2 ∧ a2 < 2147483648) : (0 : Int) ≤ a1 := by omega
theorem z_X10_tally_15 (a0 : Int) (a1 : Int) (a2 : Int) (a3 : Nat) (h0 : (0 : Int) ≤ a0) (h1 : 2147483648 - a0 < ((a3 + 1 : Nat) : Int)) (h2 : ¬ (a2 ≤ a0)) (h3 : a1 = a0 + 1 ∨ a0 + 1 < -2147483648 ∨ 2147483648 ≤ a0 + 1) (r0 : -2147483648 ≤ a0 ∧ a0 < 2147483648) (r1 : -2147483648 ≤ a1 ∧ a1 < 2147483648) (r2 : -2147483648 ≤ a2 ∧ a2 < 2147483648) : 2147483648 - a1 < ((a3 : Nat) : Int) := by omega
abbrev rm_X10_tally : Room := { frames := 3, cells := 0, slots := 0, locals := 72 }
set_option maxHeartbeats 4000000 in
set_option maxRecDepth 100000 in
theorem c_X10_tally (l : Launch) (E : XE) (K : Nat → Nat) (F : Nat → Nat → Nat) (G : XG) (a : Nat) (p0 : Int32) (ha : K a = 12) (b0 : p0 = 0 ∨ p0 = 1) : Met l yX10_tally (xw yX10_tally cX10_tally 5 none) rm_X10_tally (va_Pc [.ref a, .int p0] (XP E K F G)) (XQv E (fun (u : Unit) => True) (fun _ H => TW E K F G [] H)) 0 0 (xA E) := by
  refine x_enter (by decide) (Nat.le_of_ble_eq_true rfl) ?_
  intro p e s m args below meth c Q S hr hlk hnm hQ hP ls hl
  obtain ⟨hz, hK, hT⟩ := hP
  obtain ⟨hx, hb, -, -, -⟩ := id S
  obtain ⟨H, hT, hS, hgo⟩ : ∃ H : Heap, TW E K F G [] H ∧ va_S (xA E) s.heap H [] ∧ H = s.heap := ⟨_, hT, va_S.rf, rfl⟩
  rw [← hgo]
  have hl : lv_has ls 5 [(0, .ref a), (1, .int p0)] := hl
  refine lv_iconst (v := 0) hx hb dX10_tally_0 (by decide) ?_
  refine lv_istore_n (lv' := [(2, .int 0), (0, .ref a), (1, .int p0)]) hx hb dX10_tally_1 rfl hl (by decide) rfl (fun ls hl => ?_)
  have L2 : ∀ (N2 : Nat) (x1 : Int32) (H : Heap) (locs : List Loc) (ls : Array Slot), (0 : Int) ≤ x1.toInt → 2147483648 - x1.toInt < ((N2 : Nat) : Int) → TW E K F G [] H → va_S (xA E) s.heap H locs → lv_has ls 5 [(0, .ref a), (1, .int p0), (2, .int x1)] → W p l e rm_X10_tally s m args below meth c H locs 0 0 Q (F0 m 2 ls []) := by
    intro N2
    induction N2 with
    | zero =>
      intro x1 H locs ls hf3 hm4
      exact absurd hm4 (z_X10_tally_1 x1.toInt hf3 (xr x1))
    | succ N2 ih5 =>
      intro x1 H locs ls hf3 hm4 hT hS hl
      refine lv_iload_n hx hb dX10_tally_2 rfl (lv_at hl 2 rfl) ?_
      refine lv_aload_n hx hb dX10_tally_3 rfl (lv_at hl 0 rfl) ?_
      refine gX10_9 S hK hT ha kf_X10_61 dX10_tally_4 (fun hk6 => ?_)
      refine x_clp (x_runV (b := (F a 9)) (As := []) (rest := [.int x1]) S (c_X4_size l E K F G H (F a 9) hk6) mv_X4_size km_X10_232 rfl rfl ⟨Nat.le_of_ble_eq_true rfl, Nat.le_of_ble_eq_true rfl⟩ (rc_6 hK hT hk6) hK (fun _ => XPh.blind) (fun U hU hW => XPh.at hK hz hS hT hU hW) rfl hl.1 (Nat.le_of_ble_eq_true rfl) dX10_tally_7 ⟨Nat.le_of_ble_eq_true rfl, Nat.le_of_ble_eq_true rfl⟩) hS ?_
      rintro _ _ locs ⟨x7, rfl⟩ hS
      refine xi_cge (tgt := 132) hx hb (rfl : Int32.toInt x1 = x1.toInt) (rfl : Int32.toInt x7 = x7.toInt) dX10_tally_10 (by decide) (fun c8 => ?_) (fun c8 => ?_)
      · exact x_rv hx hb hr hlk hQ (Nat.le_of_ble_eq_true rfl) (Nat.le_of_ble_eq_true rfl) hS dX10_tally_132 () trivial hT.nil
      · refine lv_aload_n hx hb dX10_tally_13 rfl (lv_at hl 0 rfl) ?_
        refine gX10_2 S hK hT ha kf_X10_30 dX10_tally_14 (fun hk9 => ?_)
        refine lv_aload_n hx hb dX10_tally_17 rfl (lv_at hl 0 rfl) ?_
        refine gX10_9 S hK hT ha kf_X10_61 dX10_tally_18 (fun hk10 => ?_)
        refine lv_iload_n hx hb dX10_tally_21 rfl (lv_at hl 2 rfl) ?_
        refine x_clp (x_runV (b := (F a 9)) (As := [.int x1]) (rest := [.ref (F a 2)]) S (c_X4_number l E K F G H (F a 9) x1 hk10) mv_X4_number km_X10_301 rfl rfl ⟨Nat.le_of_ble_eq_true rfl, Nat.le_of_ble_eq_true rfl⟩ (rc_6 hK hT hk10) hK (fun _ => XPh.blind) (fun U hU hW => XPh.at hK hz hS hT hU hW) rfl hl.1 (Nat.le_of_ble_eq_true rfl) dX10_tally_22 ⟨Nat.le_of_ble_eq_true rfl, Nat.le_of_ble_eq_true rfl⟩) hS ?_
        rintro _ _ locs ⟨x11, rfl⟩ hS
        refine x_clp (x_runV (b := (F a 2)) (As := [.int x11]) (rest := []) S (c_X0_get l E K F G H (F a 2) x11 hk9) mv_X0_get km_X10_159 rfl rfl ⟨Nat.le_of_ble_eq_true rfl, Nat.le_of_ble_eq_true rfl⟩ (rc_2 hK hT hk9) hK (fun _ => XPh.blind) (fun U hU hW => XPh.at hK hz hS hT hU hW) rfl hl.1 (Nat.le_of_ble_eq_true rfl) dX10_tally_25 ⟨Nat.le_of_ble_eq_true rfl, Nat.le_of_ble_eq_true rfl⟩) hS ?_
        rintro _ _ locs (rfl | ⟨q13, rfl, hk14⟩) hS
        · refine lv_astore_nN (lv' := [(3, .null), (0, .ref a), (1, .int p0), (2, .int x1)]) hx hb dX10_tally_28 rfl hl (by decide) rfl (fun ls hl => ?_)
          refine lv_aload_nN hx hb dX10_tally_29 rfl (lv_at hl 0 rfl) ?_
          refine lv_ifnullN (tgt := 126) hx hb dX10_tally_30 (by decide) ?_
          refine xi_iinc (n := 1) (lv' := fun z9 => [(2, .int z9), (3, .null), (0, .ref a), (1, .int p0)]) (k := 3) hx hb (rfl : Int32.toInt x1 = x1.toInt) (by decide) dX10_tally_126 hl rfl (by decide) (fun _ => rfl) (fun x15 ls t16 hl => ?_)
          have hl : lv_has ls 5 [(2, .int x15), (3, .null), (0, .ref a), (1, .int p0)] := hl
          refine lv_goto (tgt := 2) hx hb dX10_tally_129 (by decide) ?_
          exact ih5 x15 _ _ _ (z_X10_tally_2 x1.toInt x15.toInt x7.toInt N2 hf3 hm4 c8 t16 (xr x1) (xr x15) (xr x7)) (z_X10_tally_3 x1.toInt x15.toInt x7.toInt N2 hf3 hm4 c8 t16 (xr x1) (xr x15) (xr x7)) hT.nil hS (lv_sub hl [2, 3, 0] rfl)
        · refine lv_astore_n (lv' := [(3, .ref q13), (0, .ref a), (1, .int p0), (2, .int x1)]) hx hb dX10_tally_28 rfl hl (by decide) rfl (fun ls hl => ?_)
          refine lv_aload_n hx hb dX10_tally_29 rfl (lv_at hl 0 rfl) ?_
          refine lv_ifnull hx hb dX10_tally_30 ?_
          refine lv_aload_n hx hb dX10_tally_33 rfl (lv_at hl 0 rfl) ?_
          refine gX7_9 S hK hT hk14 kf_X10_170 dX10_tally_34 (fun x17 hT => ?_)
          refine xi_zne (tgt := 43) hx hb (rfl : Int32.toInt x17 = x17.toInt) dX10_tally_37 (by decide) (fun c18 => ?_) (fun c18 => ?_)
          · refine lv_aload_n hx hb dX10_tally_43 rfl (lv_at hl 0 rfl) ?_
            refine lv_aload_n hx hb dX10_tally_44 rfl (lv_at hl 1 rfl) ?_
            refine gX10_4 S hK hT ha kf_X10_41 dX10_tally_45 (fun hk19 => ?_)
            refine lv_aload_n hx hb dX10_tally_48 rfl (lv_at hl 1 rfl) ?_
            refine gX10_9 S hK hT ha kf_X10_61 dX10_tally_49 (fun hk20 => ?_)
            refine lv_iload_n hx hb dX10_tally_52 rfl (lv_at hl 3 rfl) ?_
            refine x_clp (x_runV (b := (F a 9)) (As := [.int x1]) (rest := [.ref (F a 4), .ref q13]) S (c_X4_subject l E K F G H (F a 9) x1 hk20) mv_X4_subject km_X10_147 rfl rfl ⟨Nat.le_of_ble_eq_true rfl, Nat.le_of_ble_eq_true rfl⟩ (rc_6 hK hT hk20) hK (fun _ => XPh.blind) (fun U hU hW => XPh.at hK hz hS hT hU hW) rfl hl.1 (Nat.le_of_ble_eq_true rfl) dX10_tally_53 ⟨Nat.le_of_ble_eq_true rfl, Nat.le_of_ble_eq_true rfl⟩) hS ?_
            rintro _ _ locs ⟨x21, rfl⟩ hS
            refine x_clp (x_runV (b := q13) (As := [.ref (F a 4), .int x21]) (rest := []) S (c_X7_state l E K F G H q13 (F a 4) x21 hk14 hk19) mv_X7_state km_X10_328 rfl rfl ⟨Nat.le_of_ble_eq_true rfl, Nat.le_of_ble_eq_true rfl⟩ (rc_9 hK hT hk14) hK (fun _ => XPh.blind) (fun U hU hW => XPh.at hK hz hS hT hU hW) rfl hl.1 (Nat.le_of_ble_eq_true rfl) dX10_tally_56 ⟨Nat.le_of_ble_eq_true rfl, Nat.le_of_ble_eq_true rfl⟩) hS ?_
            rintro _ _ locs ⟨x22, rfl⟩ hS
            refine lv_istore (lv' := [(4, .int x22), (3, .ref q13), (0, .ref a), (1, .int p0), (2, .int x1)]) hx hb dX10_tally_59 hl (by decide) rfl (fun ls hl => ?_)
            refine lv_aload_n hx hb dX10_tally_61 rfl (lv_at hl 2 rfl) ?_
            refine gX10_9 S hK hT ha kf_X10_61 dX10_tally_62 (fun hk23 => ?_)
            refine lv_iload_n hx hb dX10_tally_65 rfl (lv_at hl 4 rfl) ?_
            refine x_clp (x_runV (b := (F a 9)) (As := [.int x1]) (rest := []) S (c_X4_before l E K F G H (F a 9) x1 hk23) mv_X4_before km_X10_303 rfl rfl ⟨Nat.le_of_ble_eq_true rfl, Nat.le_of_ble_eq_true rfl⟩ (rc_6 hK hT hk23) hK (fun _ => XPh.blind) (fun U hU hW => XPh.at hK hz hS hT hU hW) rfl hl.1 (Nat.le_of_ble_eq_true rfl) dX10_tally_66 ⟨Nat.le_of_ble_eq_true rfl, Nat.le_of_ble_eq_true rfl⟩) hS ?_
            rintro _ _ locs ⟨x24, rfl⟩ hS
            refine lv_iload hx hb dX10_tally_69 (lv_at hl 0 rfl) ?_
            refine xi_cne (tgt := 95) hx hb (rfl : Int32.toInt x24 = x24.toInt) (rfl : Int32.toInt x22 = x22.toInt) dX10_tally_71 (by decide) (fun c25 => ?_) (fun c25 => ?_)
            · refine lv_aload_n hx hb dX10_tally_95 rfl (lv_at hl 2 rfl) ?_
              refine gX10_9 S hK hT ha kf_X10_61 dX10_tally_96 (fun hk26 => ?_)
              refine lv_iload_n hx hb dX10_tally_99 rfl (lv_at hl 4 rfl) ?_
              refine x_clp (x_runV (b := (F a 9)) (As := [.int x1]) (rest := []) S (c_X4_after l E K F G H (F a 9) x1 hk26) mv_X4_after km_X10_306 rfl rfl ⟨Nat.le_of_ble_eq_true rfl, Nat.le_of_ble_eq_true rfl⟩ (rc_6 hK hT hk26) hK (fun _ => XPh.blind) (fun U hU hW => XPh.at hK hz hS hT hU hW) rfl hl.1 (Nat.le_of_ble_eq_true rfl) dX10_tally_100 ⟨Nat.le_of_ble_eq_true rfl, Nat.le_of_ble_eq_true rfl⟩) hS ?_
              rintro _ _ locs ⟨x27, rfl⟩ hS
              refine lv_iload hx hb dX10_tally_103 (lv_at hl 0 rfl) ?_
              refine xi_cne (tgt := 126) hx hb (rfl : Int32.toInt x27 = x27.toInt) (rfl : Int32.toInt x22 = x22.toInt) dX10_tally_105 (by decide) (fun c28 => ?_) (fun c28 => ?_)
              · refine xi_iinc (n := 1) (lv' := fun z9 => [(2, .int z9), (4, .int x22), (3, .ref q13), (0, .ref a), (1, .int p0)]) (k := 4) hx hb (rfl : Int32.toInt x1 = x1.toInt) (by decide) dX10_tally_126 hl rfl (by decide) (fun _ => rfl) (fun x29 ls t30 hl => ?_)
                have hl : lv_has ls 5 [(2, .int x29), (4, .int x22), (3, .ref q13), (0, .ref a), (1, .int p0)] := hl
                refine lv_goto (tgt := 2) hx hb dX10_tally_129 (by decide) ?_
                exact ih5 x29 _ _ _ (z_X10_tally_4 x1.toInt x29.toInt x7.toInt N2 hf3 hm4 c8 t30 (xr x1) (xr x29) (xr x7)) (z_X10_tally_5 x1.toInt x29.toInt x7.toInt N2 hf3 hm4 c8 t30 (xr x1) (xr x29) (xr x7)) hT.nil hS (lv_sub hl [3, 4, 0] rfl)
              · refine lv_aload_n hx hb dX10_tally_108 rfl (lv_at hl 2 rfl) ?_
                refine gX10_15 S hK hT ha kf_X10_95 dX10_tally_109 (fun hk31 => ?_)
                refine lv_iload_n hx hb dX10_tally_112 rfl (lv_at hl 3 rfl) ?_
                have J121 : ∀ (x32 : Int32) (H : Heap) (locs : List Loc) (ls : Array Slot), 0 ≤ x32.toInt ∧ x32.toInt < 6 → TW E K F G [(q13, 9, x17)] H → va_S (xA E) s.heap H locs → lv_has ls 5 [(0, .ref a), (1, .int p0), (2, .int x1)] → W p l e rm_X10_tally s m args below meth c H locs 0 0 Q (F0 m 121 ls [.int x32, .ref (F a 15)]) := by
                  intro x32 H locs ls hf33 hT hS hl
                  refine lv_dup2_11 hx hb dX10_tally_121 rfl rfl ?_
                  refine al_0 S hK hT hk31 ar_26 (by decide) (z_X10_tally_6 x32.toInt hf33 (xr x32)) dX10_tally_122 (fun x34 o35 => ?_)
                  refine lv_iconst (v := 1) hx hb dX10_tally_123 (by decide) ?_
                  refine xi_iadd hx hb (rfl : Int32.toInt x34 = x34.toInt) ((by decide) : Int32.toInt 1 = (1 : Int)) dX10_tally_124 (fun x36 t37 => ?_)
                  refine as_0 S hK hT hS hk31 ar_26 aw_26 (by decide) (z_X10_tally_7 x32.toInt hf33 (xr x32)) dX10_tally_125 (fun H locs hT hS => ?_)
                  refine xi_iinc (n := 1) (lv' := fun z9 => [(2, .int z9), (0, .ref a), (1, .int p0)]) (k := 2) hx hb (rfl : Int32.toInt x1 = x1.toInt) (by decide) dX10_tally_126 hl rfl (by decide) (fun _ => rfl) (fun x38 ls t39 hl => ?_)
                  have hl : lv_has ls 5 [(2, .int x38), (0, .ref a), (1, .int p0)] := hl
                  refine lv_goto (tgt := 2) hx hb dX10_tally_129 (by decide) ?_
                  exact ih5 x38 _ _ _ (z_X10_tally_8 x1.toInt x38.toInt x7.toInt N2 hf3 hm4 c8 t39 (xr x1) (xr x38) (xr x7)) (z_X10_tally_9 x1.toInt x38.toInt x7.toInt N2 hf3 hm4 c8 t39 (xr x1) (xr x38) (xr x7)) hT.nil hS (lv_sub hl [1, 2, 0] rfl)
                refine xi_zeq (tgt := 120) hx hb (rfl : Int32.toInt p0 = p0.toInt) dX10_tally_113 (by decide) (fun c40 => ?_) (fun c40 => ?_)
                · refine lv_iconst (v := 1) hx hb dX10_tally_120 (by decide) ?_
                  exact J121 1 _ _ _ (by decide) hT hS (lv_sub hl [2, 3, 4] rfl)
                · refine lv_iconst (v := 2) hx hb dX10_tally_116 (by decide) ?_
                  refine lv_goto (tgt := 121) hx hb dX10_tally_117 (by decide) ?_
                  exact J121 2 _ _ _ (by decide) hT hS (lv_sub hl [2, 3, 4] rfl)
            · refine lv_aload_n hx hb dX10_tally_74 rfl (lv_at hl 2 rfl) ?_
              refine gX10_15 S hK hT ha kf_X10_95 dX10_tally_75 (fun hk41 => ?_)
              refine lv_iload_n hx hb dX10_tally_78 rfl (lv_at hl 3 rfl) ?_
              have J87 : ∀ (x42 : Int32) (H : Heap) (locs : List Loc) (ls : Array Slot), 0 ≤ x42.toInt ∧ x42.toInt < 6 → TW E K F G [(q13, 9, x17)] H → va_S (xA E) s.heap H locs → lv_has ls 5 [(0, .ref a), (1, .int p0), (2, .int x1)] → W p l e rm_X10_tally s m args below meth c H locs 0 0 Q (F0 m 87 ls [.int x42, .ref (F a 15)]) := by
                intro x42 H locs ls hf43 hT hS hl
                refine lv_dup2_11 hx hb dX10_tally_87 rfl rfl ?_
                refine al_0 S hK hT hk41 ar_26 (by decide) (z_X10_tally_10 x42.toInt hf43 (xr x42)) dX10_tally_88 (fun x44 o45 => ?_)
                refine lv_iconst (v := 1) hx hb dX10_tally_89 (by decide) ?_
                refine xi_iadd hx hb (rfl : Int32.toInt x44 = x44.toInt) ((by decide) : Int32.toInt 1 = (1 : Int)) dX10_tally_90 (fun x46 t47 => ?_)
                refine as_0 S hK hT hS hk41 ar_26 aw_26 (by decide) (z_X10_tally_11 x42.toInt hf43 (xr x42)) dX10_tally_91 (fun H locs hT hS => ?_)
                refine lv_goto (tgt := 126) hx hb dX10_tally_92 (by decide) ?_
                refine xi_iinc (n := 1) (lv' := fun z9 => [(2, .int z9), (0, .ref a), (1, .int p0)]) (k := 2) hx hb (rfl : Int32.toInt x1 = x1.toInt) (by decide) dX10_tally_126 hl rfl (by decide) (fun _ => rfl) (fun x48 ls t49 hl => ?_)
                have hl : lv_has ls 5 [(2, .int x48), (0, .ref a), (1, .int p0)] := hl
                refine lv_goto (tgt := 2) hx hb dX10_tally_129 (by decide) ?_
                exact ih5 x48 _ _ _ (z_X10_tally_12 x1.toInt x48.toInt x7.toInt N2 hf3 hm4 c8 t49 (xr x1) (xr x48) (xr x7)) (z_X10_tally_13 x1.toInt x48.toInt x7.toInt N2 hf3 hm4 c8 t49 (xr x1) (xr x48) (xr x7)) hT.nil hS (lv_sub hl [1, 2, 0] rfl)
              refine xi_zeq (tgt := 86) hx hb (rfl : Int32.toInt p0 = p0.toInt) dX10_tally_79 (by decide) (fun c50 => ?_) (fun c50 => ?_)
              · refine lv_iconst (v := 0) hx hb dX10_tally_86 (by decide) ?_
                exact J87 0 _ _ _ (by decide) hT hS (lv_sub hl [2, 3, 4] rfl)
              · refine lv_iconst (v := 3) hx hb dX10_tally_82 (by decide) ?_
                refine lv_goto (tgt := 87) hx hb dX10_tally_83 (by decide) ?_
                exact J87 3 _ _ _ (by decide) hT hS (lv_sub hl [2, 3, 4] rfl)
          · refine lv_goto (tgt := 126) hx hb dX10_tally_40 (by decide) ?_
            refine xi_iinc (n := 1) (lv' := fun z9 => [(2, .int z9), (3, .ref q13), (0, .ref a), (1, .int p0)]) (k := 3) hx hb (rfl : Int32.toInt x1 = x1.toInt) (by decide) dX10_tally_126 hl rfl (by decide) (fun _ => rfl) (fun x51 ls t52 hl => ?_)
            have hl : lv_has ls 5 [(2, .int x51), (3, .ref q13), (0, .ref a), (1, .int p0)] := hl
            refine lv_goto (tgt := 2) hx hb dX10_tally_129 (by decide) ?_
            exact ih5 x51 _ _ _ (z_X10_tally_14 x1.toInt x51.toInt x7.toInt N2 hf3 hm4 c8 t52 (xr x1) (xr x51) (xr x7)) (z_X10_tally_15 x1.toInt x51.toInt x7.toInt N2 hf3 hm4 c8 t52 (xr x1) (xr x51) (xr x7)) hT.nil hS (lv_sub hl [2, 3, 0] rfl)
  exact L2 4294967297 0 _ _ _ (by decide) (by decide) hT.nil hS (lv_sub hl [1, 2, 0] rfl)

abbrev rm_X10_actAsOnPaper : Room := { frames := 9, cells := 14, slots := 1400, locals := 216 }
set_option maxHeartbeats 4000000 in
set_option maxRecDepth 100000 in
theorem c_X10_actAsOnPaper (l : Launch) (E : XE) (K : Nat → Nat) (F : Nat → Nat → Nat) (G : XG) (a : Nat) (ha : K a = 12) : Met l yX10_actAsOnPaper (xw yX10_actAsOnPaper cX10_actAsOnPaper 1 (some .int)) rm_X10_actAsOnPaper (va_Pc [.ref a] (XP E K F G)) (XQ E (fun v (u : Unit) => ∃ r : Int32, v = .int r) (fun _ H => TW E K F G [] H)) 14 1400 (xA E) := by
  refine x_enter (by decide) (Nat.le_of_ble_eq_true rfl) ?_
  intro p e s m args below meth c Q S hr hlk hnm hQ hP ls hl
  obtain ⟨hz, hK, hT⟩ := hP
  obtain ⟨hx, hb, -, -, -⟩ := id S
  obtain ⟨H, hT, hS, hgo⟩ : ∃ H : Heap, TW E K F G [] H ∧ va_S (xA E) s.heap H [] ∧ H = s.heap := ⟨_, hT, va_S.rf, rfl⟩
  rw [← hgo]
  have hl : lv_has ls 1 [(0, .ref a)] := hl
  refine lv_aload_n hx hb dX10_actAsOnPaper_0 rfl (lv_at hl 0 rfl) ?_
  refine lv_aload_n hx hb dX10_actAsOnPaper_1 rfl (lv_at hl 0 rfl) ?_
  refine gX10_9 S hK hT ha kf_X10_61 dX10_actAsOnPaper_2 (fun hk1 => ?_)
  refine lv_aload_n hx hb dX10_actAsOnPaper_5 rfl (lv_at hl 0 rfl) ?_
  refine gX10_3 S hK hT ha kf_X10_37 dX10_actAsOnPaper_6 (fun hk2 => ?_)
  refine lv_aload_n hx hb dX10_actAsOnPaper_9 rfl (lv_at hl 0 rfl) ?_
  refine gX10_5 S hK hT ha kf_X10_44 dX10_actAsOnPaper_10 (fun hk3 => ?_)
  refine lv_iconst (v := 0) hx hb dX10_actAsOnPaper_13 (by decide) ?_
  refine x_cv0 (x_runV (b := a) (As := [.ref (F a 9), .ref (F a 3), .ref (F a 5), .int 0]) (rest := []) S (c_X10_gather l E K F G a (F a 9) (F a 3) (F a 5) 0 ha hk1 hk2 hk3) mv_X10_gather km_X10_240 rfl rfl ⟨Nat.le_of_ble_eq_true rfl, Nat.le_of_ble_eq_true rfl⟩ (rc_12 hK hT ha) hK (fun _ => XP.blind) (fun U hU hW => XP.at hK hz hS hT hU hW) rfl hl.1 (Nat.le_of_ble_eq_true rfl) dX10_actAsOnPaper_14 ⟨Nat.le_of_ble_eq_true rfl, Nat.le_of_ble_eq_true rfl⟩) hS ?_
  rintro _ H locs - hT hS
  refine lv_aload_n hx hb dX10_actAsOnPaper_17 rfl (lv_at hl 0 rfl) ?_
  refine x_cl (x_runV (b := a) (As := []) (rest := []) S (c_X10_askAtOnce l E K F G a ha) mv_X10_askAtOnce km_X10_401 rfl rfl ⟨Nat.le_of_ble_eq_true rfl, Nat.le_of_ble_eq_true rfl⟩ (rc_12 hK hT ha) hK (fun _ => XP.blind) (fun U hU hW => XP.at hK hz hS hT hU hW) rfl hl.1 (Nat.le_of_ble_eq_true rfl) dX10_actAsOnPaper_18 ⟨Nat.le_of_ble_eq_true rfl, Nat.le_of_ble_eq_true rfl⟩) hS ?_
  rintro _ _ H locs ⟨x4, rfl, b5⟩ hT hS
  refine xi_zne (tgt := 31) hx hb (rfl : Int32.toInt x4 = x4.toInt) dX10_actAsOnPaper_21 (by decide) (fun c6 => ?_) (fun c6 => ?_)
  · refine lv_aload_n hx hb dX10_actAsOnPaper_31 rfl (lv_at hl 0 rfl) ?_
    refine gX10_18 S hK hT ha kf_X10_123 dX10_actAsOnPaper_32 (fun x7 hT => ?_)
    refine xi_zne (tgt := 71) hx hb (rfl : Int32.toInt x7 = x7.toInt) dX10_actAsOnPaper_35 (by decide) (fun c8 => ?_) (fun c8 => ?_)
    · refine lv_aload_n hx hb dX10_actAsOnPaper_71 rfl (lv_at hl 0 rfl) ?_
      refine lv_iconst (v := 0) hx hb dX10_actAsOnPaper_72 (by decide) ?_
      refine x_cv0 (x_runV (b := a) (As := [.int 0]) (rest := []) S (c_X10_tally l E K F G a 0 ha (Or.inl rfl)) mv_X10_tally km_X10_251 rfl rfl ⟨Nat.le_of_ble_eq_true rfl, Nat.le_of_ble_eq_true rfl⟩ (rc_12 hK hT ha) hK (fun _ => XP.blind) (fun U hU hW => XP.at hK hz hS hT hU hW) rfl hl.1 (Nat.le_of_ble_eq_true rfl) dX10_actAsOnPaper_73 ⟨Nat.le_of_ble_eq_true rfl, Nat.le_of_ble_eq_true rfl⟩) hS ?_
      rintro _ H locs - hT hS
      refine lv_aload_n hx hb dX10_actAsOnPaper_76 rfl (lv_at hl 0 rfl) ?_
      refine gX10_15 S hK hT ha kf_X10_95 dX10_actAsOnPaper_77 (fun hk9 => ?_)
      refine lv_iconst (v := 4) hx hb dX10_actAsOnPaper_80 (by decide) ?_
      refine lv_dup2_11 hx hb dX10_actAsOnPaper_81 rfl rfl ?_
      refine al_0 S hK hT hk9 ar_26 (by decide) (by decide) dX10_actAsOnPaper_82 (fun x10 o11 => ?_)
      refine lv_iconst (v := 1) hx hb dX10_actAsOnPaper_83 (by decide) ?_
      refine xi_iadd hx hb (rfl : Int32.toInt x10 = x10.toInt) ((by decide) : Int32.toInt 1 = (1 : Int)) dX10_actAsOnPaper_84 (fun x12 t13 => ?_)
      refine as_0 S hK hT hS hk9 ar_26 aw_26 (by decide) (by decide) dX10_actAsOnPaper_85 (fun H locs hT hS => ?_)
      refine lv_aload_n hx hb dX10_actAsOnPaper_86 rfl (lv_at hl 0 rfl) ?_
      refine gX10_3 S hK hT ha kf_X10_37 dX10_actAsOnPaper_87 (fun hk14 => ?_)
      refine lv_aload_n hx hb dX10_actAsOnPaper_90 rfl (lv_at hl 0 rfl) ?_
      refine gX10_5 S hK hT ha kf_X10_44 dX10_actAsOnPaper_91 (fun hk15 => ?_)
      refine x_cv0 (x_runV (b := (F a 3)) (As := [.ref (F a 5)]) (rest := []) S (c_X6_copy l E K F G (F a 3) (F a 5) hk14 hk15) mv_X6_copy km_X10_195 rfl rfl ⟨Nat.le_of_ble_eq_true rfl, Nat.le_of_ble_eq_true rfl⟩ (rc_8 hK hT hk14) hK (fun _ => XP.blind) (fun U hU hW => XP.at hK hz hS hT hU hW) rfl hl.1 (Nat.le_of_ble_eq_true rfl) dX10_actAsOnPaper_94 ⟨Nat.le_of_ble_eq_true rfl, Nat.le_of_ble_eq_true rfl⟩) hS ?_
      rintro _ H locs - hT hS
      refine lv_aload_n hx hb dX10_actAsOnPaper_97 rfl (lv_at hl 0 rfl) ?_
      refine lv_aload_n hx hb dX10_actAsOnPaper_98 rfl (lv_at hl 0 rfl) ?_
      refine gX10_8 S hK hT ha kf_X10_57 dX10_actAsOnPaper_99 (fun hk16 => ?_)
      refine lv_aload_n hx hb dX10_actAsOnPaper_102 rfl (lv_at hl 0 rfl) ?_
      refine gX10_4 S hK hT ha kf_X10_41 dX10_actAsOnPaper_103 (fun hk17 => ?_)
      refine lv_aload_n hx hb dX10_actAsOnPaper_106 rfl (lv_at hl 0 rfl) ?_
      refine gX10_3 S hK hT ha kf_X10_37 dX10_actAsOnPaper_107 (fun hk18 => ?_)
      refine lv_iconst (v := 1) hx hb dX10_actAsOnPaper_110 (by decide) ?_
      refine x_cv0 (x_runV (b := a) (As := [.ref (F a 8), .ref (F a 4), .ref (F a 3), .int 1]) (rest := []) S (c_X10_gather l E K F G a (F a 8) (F a 4) (F a 3) 1 ha hk16 hk17 hk18) mv_X10_gather km_X10_240 rfl rfl ⟨Nat.le_of_ble_eq_true rfl, Nat.le_of_ble_eq_true rfl⟩ (rc_12 hK hT ha) hK (fun _ => XP.blind) (fun U hU hW => XP.at hK hz hS hT hU hW) rfl hl.1 (Nat.le_of_ble_eq_true rfl) dX10_actAsOnPaper_111 ⟨Nat.le_of_ble_eq_true rfl, Nat.le_of_ble_eq_true rfl⟩) hS ?_
      rintro _ H locs - hT hS
      refine lv_aload_n hx hb dX10_actAsOnPaper_114 rfl (lv_at hl 0 rfl) ?_
      refine gX10_9 S hK hT ha kf_X10_61 dX10_actAsOnPaper_115 (fun hk19 => ?_)
      refine x_clp (x_runV (b := (F a 9)) (As := []) (rest := []) S (c_X4_size l E K F G H (F a 9) hk19) mv_X4_size km_X10_232 rfl rfl ⟨Nat.le_of_ble_eq_true rfl, Nat.le_of_ble_eq_true rfl⟩ (rc_6 hK hT hk19) hK (fun _ => XPh.blind) (fun U hU hW => XPh.at hK hz hS hT hU hW) rfl hl.1 (Nat.le_of_ble_eq_true rfl) dX10_actAsOnPaper_118 ⟨Nat.le_of_ble_eq_true rfl, Nat.le_of_ble_eq_true rfl⟩) hS ?_
      rintro _ _ locs ⟨x20, rfl⟩ hS
      exact x_ri hx hb hr hlk hQ (Nat.le_of_ble_eq_true rfl) (Nat.le_of_ble_eq_true rfl) hS dX10_actAsOnPaper_121 () ⟨_, rfl⟩ hT.nil
    · refine lv_aload_n hx hb dX10_actAsOnPaper_38 rfl (lv_at hl 0 rfl) ?_
      refine lv_aload_n hx hb dX10_actAsOnPaper_39 rfl (lv_at hl 0 rfl) ?_
      refine gX10_9 S hK hT ha kf_X10_61 dX10_actAsOnPaper_40 (fun hk21 => ?_)
      refine x_cl (x_runV (b := a) (As := [.ref (F a 9)]) (rest := []) S (c_X10_askToCommit l E K F G a (F a 9) ha hk21) mv_X10_askToCommit km_X10_225 rfl rfl ⟨Nat.le_of_ble_eq_true rfl, Nat.le_of_ble_eq_true rfl⟩ (rc_12 hK hT ha) hK (fun _ => XP.blind) (fun U hU hW => XP.at hK hz hS hT hU hW) rfl hl.1 (Nat.le_of_ble_eq_true rfl) dX10_actAsOnPaper_43 ⟨Nat.le_of_ble_eq_true rfl, Nat.le_of_ble_eq_true rfl⟩) hS ?_
      rintro _ _ H locs ⟨x22, rfl, b23⟩ hT hS
      refine xi_zne (tgt := 52) hx hb (rfl : Int32.toInt x22 = x22.toInt) dX10_actAsOnPaper_46 (by decide) (fun c24 => ?_) (fun c24 => ?_)
      · refine lv_aload_n hx hb dX10_actAsOnPaper_52 rfl (lv_at hl 0 rfl) ?_
        refine gX10_3 S hK hT ha kf_X10_37 dX10_actAsOnPaper_53 (fun hk25 => ?_)
        refine lv_aload_n hx hb dX10_actAsOnPaper_56 rfl (lv_at hl 0 rfl) ?_
        refine gX10_5 S hK hT ha kf_X10_44 dX10_actAsOnPaper_57 (fun hk26 => ?_)
        refine x_cv0 (x_runV (b := (F a 3)) (As := [.ref (F a 5)]) (rest := []) S (c_X6_copy l E K F G (F a 3) (F a 5) hk25 hk26) mv_X6_copy km_X10_195 rfl rfl ⟨Nat.le_of_ble_eq_true rfl, Nat.le_of_ble_eq_true rfl⟩ (rc_8 hK hT hk25) hK (fun _ => XP.blind) (fun U hU hW => XP.at hK hz hS hT hU hW) rfl hl.1 (Nat.le_of_ble_eq_true rfl) dX10_actAsOnPaper_60 ⟨Nat.le_of_ble_eq_true rfl, Nat.le_of_ble_eq_true rfl⟩) hS ?_
        rintro _ H locs - hT hS
        refine lv_aload_n hx hb dX10_actAsOnPaper_63 rfl (lv_at hl 0 rfl) ?_
        refine gX10_9 S hK hT ha kf_X10_61 dX10_actAsOnPaper_64 (fun hk27 => ?_)
        refine x_clp (x_runV (b := (F a 9)) (As := []) (rest := []) S (c_X4_size l E K F G H (F a 9) hk27) mv_X4_size km_X10_232 rfl rfl ⟨Nat.le_of_ble_eq_true rfl, Nat.le_of_ble_eq_true rfl⟩ (rc_6 hK hT hk27) hK (fun _ => XPh.blind) (fun U hU hW => XPh.at hK hz hS hT hU hW) rfl hl.1 (Nat.le_of_ble_eq_true rfl) dX10_actAsOnPaper_67 ⟨Nat.le_of_ble_eq_true rfl, Nat.le_of_ble_eq_true rfl⟩) hS ?_
        rintro _ _ locs ⟨x28, rfl⟩ hS
        exact x_ri hx hb hr hlk hQ (Nat.le_of_ble_eq_true rfl) (Nat.le_of_ble_eq_true rfl) hS dX10_actAsOnPaper_70 () ⟨_, rfl⟩ hT.nil
      · refine lv_bipush (v := (-5)) hx hb dX10_actAsOnPaper_49 (by decide) ?_
        exact x_ri hx hb hr hlk hQ (Nat.le_of_ble_eq_true rfl) (Nat.le_of_ble_eq_true rfl) hS dX10_actAsOnPaper_51 () ⟨_, rfl⟩ hT.nil
  · refine lv_aload_n hx hb dX10_actAsOnPaper_24 rfl (lv_at hl 0 rfl) ?_
    refine lv_bipush (v := (-5)) hx hb dX10_actAsOnPaper_25 (by decide) ?_
    refine x_cl0 (x_runV (b := a) (As := [.int (-5)]) (rest := []) S (c_X10_refuseAct l E K F G a (-5) ha) mv_X10_refuseAct km_X10_188 rfl rfl ⟨Nat.le_of_ble_eq_true rfl, Nat.le_of_ble_eq_true rfl⟩ (rc_12 hK hT ha) hK (fun _ => XP.blind) (fun U hU hW => XP.at hK hz hS hT hU hW) rfl hl.1 (Nat.le_of_ble_eq_true rfl) dX10_actAsOnPaper_27 ⟨Nat.le_of_ble_eq_true rfl, Nat.le_of_ble_eq_true rfl⟩) hS ?_
    rintro _ _ H locs ⟨x29, rfl⟩ hT hS
    exact x_ri hx hb hr hlk hQ (Nat.le_of_ble_eq_true rfl) (Nat.le_of_ble_eq_true rfl) hS dX10_actAsOnPaper_30 () ⟨_, rfl⟩ hT.nil

theorem z_X10_changedSince_1 (a0 : Int) (h0 : (0 : Int) ≤ a0) (r0 : -2147483648 ≤ a0 ∧ a0 < 2147483648) : ¬ (2147483648 - a0 < ((0 : Nat) : Int)) := by omega
theorem z_X10_changedSince_2 (a0 : Int) (a1 : Int) (a2 : Int) (a3 : Nat) (h0 : (0 : Int) ≤ a1) (h1 : 2147483648 - a1 < ((a3 + 1 : Nat) : Int)) (h2 : ¬ (a2 ≤ a1)) (h3 : a0 = a1 + 1 ∨ a1 + 1 < -2147483648 ∨ 2147483648 ≤ a1 + 1) (r0 : -2147483648 ≤ a0 ∧ a0 < 2147483648) (r1 : -2147483648 ≤ a1 ∧ a1 < 2147483648) (r2 : -2147483648 ≤ a2 ∧ a2 < 2147483648) : (0 : Int) ≤ a0 := by omega
theorem z_X10_changedSince_3 (a0 : Int) (a1 : Int) (a2 : Int) (a3 : Nat) (h0 : (0 : Int) ≤ a1) (h1 : 2147483648 - a1 < ((a3 + 1 : Nat) : Int)) (h2 : ¬ (a2 ≤ a1)) (h3 : a0 = a1 + 1 ∨ a1 + 1 < -2147483648 ∨ 2147483648 ≤ a1 + 1) (r0 : -2147483648 ≤ a0 ∧ a0 < 2147483648) (r1 : -2147483648 ≤ a1 ∧ a1 < 2147483648) (r2 : -2147483648 ≤ a2 ∧ a2 < 2147483648) : 2147483648 - a0 < ((a3 : Nat) : Int) := by omega
theorem z_X10_changedSince_4 (a0 : Int) (a1 : Int) (a2 : Int) (a3 : Nat) (h0 : (0 : Int) ≤ a0) (h1 : 2147483648 - a0 < ((a3 + 1 : Nat) : Int)) (h2 : ¬ (a2 ≤ a0)) (h3 : a1 = a0 + 1 ∨ a0 + 1 < -2147483648 ∨ 2147483648 ≤ a0 + 1) (r0 : -2147483648 ≤ a0 ∧ a0 < 2147483648) (r1 : -2147483648 ≤ a1 ∧ a1 < 2147483648) (r2 : -2147483648 ≤ a2 ∧ a2 < 2147483648) : (0 : Int) ≤ a1 := by omega
theorem z_X10_changedSince_5 (a0 : Int) (a1 : Int) (a2 : Int) (a3 : Nat) (h0 : (0 : Int) ≤ a0) (h1 : 2147483648 - a0 < ((a3 + 1 : Nat) : Int)) (h2 : ¬ (a2 ≤ a0)) (h3 : a1 = a0 + 1 ∨ a0 + 1 < -2147483648 ∨ 2147483648 ≤ a0 + 1) (r0 : -2147483648 ≤ a0 ∧ a0 < 2147483648) (r1 : -2147483648 ≤ a1 ∧ a1 < 2147483648) (r2 : -2147483648 ≤ a2 ∧ a2 < 2147483648) : 2147483648 - a1 < ((a3 : Nat) : Int) := by omega
theorem z_X10_changedSince_6 (a0 : Int) (a1 : Int) (a2 : Int) (a3 : Nat) (h0 : (0 : Int) ≤ a0) (h1 : 2147483648 - a0 < ((a3 + 1 : Nat) : Int)) (h2 : ¬ (a2 ≤ a0)) (h3 : a1 = a0 + 1 ∨ a0 + 1 < -2147483648 ∨ 2147483648 ≤ a0 + 1) (r0 : -2147483648 ≤ a0 ∧ a0 < 2147483648) (r1 : -2147483648 ≤ a1 ∧ a1 < 2147483648) (r2 : -2147483648 ≤ a2 ∧ a2 < 2147483648) : (0 : Int) ≤ a1 := by omega
theorem z_X10_changedSince_7 (a0 : Int) (a1 : Int) (a2 : Int) (a3 : Nat) (h0 : (0 : Int) ≤ a0) (h1 : 2147483648 - a0 < ((a3 + 1 : Nat) : Int)) (h2 : ¬ (a2 ≤ a0)) (h3 : a1 = a0 + 1 ∨ a0 + 1 < -2147483648 ∨ 2147483648 ≤ a0 + 1) (r0 : -2147483648 ≤ a0 ∧ a0 < 2147483648) (r1 : -2147483648 ≤ a1 ∧ a1 < 2147483648) (r2 : -2147483648 ≤ a2 ∧ a2 < 2147483648) : 2147483648 - a1 < ((a3 : Nat) : Int) := by omega
abbrev rm_X10_changedSince : Room := { frames := 3, cells := 0, slots := 0, locals := 72 }
set_option maxHeartbeats 4000000 in
set_option maxRecDepth 100000 in
theorem c_X10_changedSince (l : Launch) (E : XE) (K : Nat → Nat) (F : Nat → Nat → Nat) (G : XG) (h0 : Heap) (a : Nat) (p0 : Nat) (ha : K a = 12) (hp0 : K p0 = 8) : Met l yX10_changedSince (xw yX10_changedSince cX10_changedSince 5 (some .int)) rm_X10_changedSince (va_Pc [.ref a, .ref p0] (XPh E K F G h0)) (XQ E (fun v (u : Unit) => ∃ r : Int32, v = .int r) (fun _ H => H = h0)) 0 0 (xA E) := by
  refine x_enter (by decide) (Nat.le_of_ble_eq_true rfl) ?_
  intro p e s m args below meth c Q S hr hlk hnm hQ hP ls hl
  obtain ⟨⟨hz, hK, hT⟩, hh⟩ := hP
  obtain ⟨hx, hb, -, -, -⟩ := id S
  have hS : va_S (xA E) s.heap s.heap [] := va_S.rf
  have hl : lv_has ls 5 [(0, .ref a), (1, .ref p0)] := hl
  refine lv_iconst (v := 0) hx hb dX10_changedSince_0 (by decide) ?_
  refine lv_istore_n (lv' := [(2, .int 0), (0, .ref a), (1, .ref p0)]) hx hb dX10_changedSince_1 rfl hl (by decide) rfl (fun ls hl => ?_)
  refine lv_iconst (v := 0) hx hb dX10_changedSince_2 (by decide) ?_
  refine lv_istore_n (lv' := [(3, .int 0), (2, .int 0), (0, .ref a), (1, .ref p0)]) hx hb dX10_changedSince_3 rfl hl (by decide) rfl (fun ls hl => ?_)
  have L4 : ∀ (N3 : Nat) (x1 : Int32) (x2 : Int32) (locs : List Loc) (ls : Array Slot), (0 : Int) ≤ x2.toInt → 2147483648 - x2.toInt < ((N3 : Nat) : Int) → TW E K F G [] s.heap → va_S (xA E) s.heap s.heap locs → lv_has ls 5 [(0, .ref a), (1, .ref p0), (2, .int x1), (3, .int x2)] → W p l e rm_X10_changedSince s m args below meth c s.heap locs 0 0 Q (F0 m 4 ls []) := by
    intro N3
    induction N3 with
    | zero =>
      intro x1 x2 locs ls hf4 hm5
      exact absurd hm5 (z_X10_changedSince_1 x2.toInt hf4 (xr x2))
    | succ N3 ih6 =>
      intro x1 x2 locs ls hf4 hm5 hT hS hl
      refine lv_iload_n hx hb dX10_changedSince_4 rfl (lv_at hl 3 rfl) ?_
      refine lv_aload_n hx hb dX10_changedSince_5 rfl (lv_at hl 0 rfl) ?_
      refine gX10_8 S hK hT ha kf_X10_57 dX10_changedSince_6 (fun hk7 => ?_)
      refine x_clp (x_runV (b := (F a 8)) (As := []) (rest := [.int x2]) S (c_X4_size l E K F G s.heap (F a 8) hk7) mv_X4_size km_X10_232 rfl rfl ⟨Nat.le_of_ble_eq_true rfl, Nat.le_of_ble_eq_true rfl⟩ (rc_6 hK hT hk7) hK (fun _ => XPh.blind) (fun U hU hW => XPh.at hK hz hS hT hU hW) rfl hl.1 (Nat.le_of_ble_eq_true rfl) dX10_changedSince_9 ⟨Nat.le_of_ble_eq_true rfl, Nat.le_of_ble_eq_true rfl⟩) hS ?_
      rintro _ _ locs ⟨x8, rfl⟩ hS
      refine xi_cge (tgt := 71) hx hb (rfl : Int32.toInt x2 = x2.toInt) (rfl : Int32.toInt x8 = x8.toInt) dX10_changedSince_12 (by decide) (fun c9 => ?_) (fun c9 => ?_)
      · refine lv_iload_n hx hb dX10_changedSince_71 rfl (lv_at hl 2 rfl) ?_
        exact x_ri hx hb hr hlk hQ (Nat.le_of_ble_eq_true rfl) (Nat.le_of_ble_eq_true rfl) hS dX10_changedSince_72 () ⟨_, rfl⟩ hh
      · refine lv_aload_n hx hb dX10_changedSince_15 rfl (lv_at hl 0 rfl) ?_
        refine gX10_2 S hK hT ha kf_X10_30 dX10_changedSince_16 (fun hk10 => ?_)
        refine lv_aload_n hx hb dX10_changedSince_19 rfl (lv_at hl 0 rfl) ?_
        refine gX10_8 S hK hT ha kf_X10_57 dX10_changedSince_20 (fun hk11 => ?_)
        refine lv_iload_n hx hb dX10_changedSince_23 rfl (lv_at hl 3 rfl) ?_
        refine x_clp (x_runV (b := (F a 8)) (As := [.int x2]) (rest := [.ref (F a 2)]) S (c_X4_number l E K F G s.heap (F a 8) x2 hk11) mv_X4_number km_X10_301 rfl rfl ⟨Nat.le_of_ble_eq_true rfl, Nat.le_of_ble_eq_true rfl⟩ (rc_6 hK hT hk11) hK (fun _ => XPh.blind) (fun U hU hW => XPh.at hK hz hS hT hU hW) rfl hl.1 (Nat.le_of_ble_eq_true rfl) dX10_changedSince_24 ⟨Nat.le_of_ble_eq_true rfl, Nat.le_of_ble_eq_true rfl⟩) hS ?_
        rintro _ _ locs ⟨x12, rfl⟩ hS
        refine x_clp (x_runV (b := (F a 2)) (As := [.int x12]) (rest := []) S (c_X0_get l E K F G s.heap (F a 2) x12 hk10) mv_X0_get km_X10_159 rfl rfl ⟨Nat.le_of_ble_eq_true rfl, Nat.le_of_ble_eq_true rfl⟩ (rc_2 hK hT hk10) hK (fun _ => XPh.blind) (fun U hU hW => XPh.at hK hz hS hT hU hW) rfl hl.1 (Nat.le_of_ble_eq_true rfl) dX10_changedSince_27 ⟨Nat.le_of_ble_eq_true rfl, Nat.le_of_ble_eq_true rfl⟩) hS ?_
        rintro _ _ locs (rfl | ⟨q14, rfl, hk15⟩) hS
        · refine lv_astoreN (lv' := [(4, .null), (0, .ref a), (1, .ref p0), (2, .int x1), (3, .int x2)]) hx hb dX10_changedSince_30 hl (by decide) rfl (fun ls hl => ?_)
          refine lv_aloadN hx hb dX10_changedSince_32 (lv_at hl 0 rfl) ?_
          refine lv_ifnullN (tgt := 65) hx hb dX10_changedSince_34 (by decide) ?_
          refine xi_iinc (n := 1) (lv' := fun z9 => [(3, .int z9), (4, .null), (0, .ref a), (1, .ref p0), (2, .int x1)]) (k := 4) hx hb (rfl : Int32.toInt x2 = x2.toInt) (by decide) dX10_changedSince_65 hl rfl (by decide) (fun _ => rfl) (fun x16 ls t17 hl => ?_)
          have hl : lv_has ls 5 [(3, .int x16), (4, .null), (0, .ref a), (1, .ref p0), (2, .int x1)] := hl
          refine lv_goto (tgt := 4) hx hb dX10_changedSince_68 (by decide) ?_
          exact ih6 x1 x16 _ _ (z_X10_changedSince_2 x16.toInt x2.toInt x8.toInt N3 hf4 hm5 c9 t17 (xr x16) (xr x2) (xr x8)) (z_X10_changedSince_3 x16.toInt x2.toInt x8.toInt N3 hf4 hm5 c9 t17 (xr x16) (xr x2) (xr x8)) hT.nil hS (lv_sub hl [2, 3, 4, 0] rfl)
        · refine lv_astore (lv' := [(4, .ref q14), (0, .ref a), (1, .ref p0), (2, .int x1), (3, .int x2)]) hx hb dX10_changedSince_30 hl (by decide) rfl (fun ls hl => ?_)
          refine lv_aload hx hb dX10_changedSince_32 (lv_at hl 0 rfl) ?_
          refine lv_ifnull hx hb dX10_changedSince_34 ?_
          refine lv_aload hx hb dX10_changedSince_37 (lv_at hl 0 rfl) ?_
          refine lv_aload_n hx hb dX10_changedSince_39 rfl (lv_at hl 2 rfl) ?_
          refine lv_aload_n hx hb dX10_changedSince_40 rfl (lv_at hl 1 rfl) ?_
          refine gX10_8 S hK hT ha kf_X10_57 dX10_changedSince_41 (fun hk18 => ?_)
          refine lv_iload_n hx hb dX10_changedSince_44 rfl (lv_at hl 4 rfl) ?_
          refine x_clp (x_runV (b := (F a 8)) (As := [.int x2]) (rest := [.ref p0, .ref q14]) S (c_X4_subject l E K F G s.heap (F a 8) x2 hk18) mv_X4_subject km_X10_147 rfl rfl ⟨Nat.le_of_ble_eq_true rfl, Nat.le_of_ble_eq_true rfl⟩ (rc_6 hK hT hk18) hK (fun _ => XPh.blind) (fun U hU hW => XPh.at hK hz hS hT hU hW) rfl hl.1 (Nat.le_of_ble_eq_true rfl) dX10_changedSince_45 ⟨Nat.le_of_ble_eq_true rfl, Nat.le_of_ble_eq_true rfl⟩) hS ?_
          rintro _ _ locs ⟨x19, rfl⟩ hS
          refine x_clp (x_runV (b := q14) (As := [.ref p0, .int x19]) (rest := []) S (c_X7_state l E K F G s.heap q14 p0 x19 hk15 hp0) mv_X7_state km_X10_328 rfl rfl ⟨Nat.le_of_ble_eq_true rfl, Nat.le_of_ble_eq_true rfl⟩ (rc_9 hK hT hk15) hK (fun _ => XPh.blind) (fun U hU hW => XPh.at hK hz hS hT hU hW) rfl hl.1 (Nat.le_of_ble_eq_true rfl) dX10_changedSince_48 ⟨Nat.le_of_ble_eq_true rfl, Nat.le_of_ble_eq_true rfl⟩) hS ?_
          rintro _ _ locs ⟨x20, rfl⟩ hS
          refine lv_aload_n hx hb dX10_changedSince_51 rfl (lv_at hl 1 rfl) ?_
          refine gX10_8 S hK hT ha kf_X10_57 dX10_changedSince_52 (fun hk21 => ?_)
          refine lv_iload_n hx hb dX10_changedSince_55 rfl (lv_at hl 4 rfl) ?_
          refine x_clp (x_runV (b := (F a 8)) (As := [.int x2]) (rest := [.int x20]) S (c_X4_after l E K F G s.heap (F a 8) x2 hk21) mv_X4_after km_X10_306 rfl rfl ⟨Nat.le_of_ble_eq_true rfl, Nat.le_of_ble_eq_true rfl⟩ (rc_6 hK hT hk21) hK (fun _ => XPh.blind) (fun U hU hW => XPh.at hK hz hS hT hU hW) rfl hl.1 (Nat.le_of_ble_eq_true rfl) dX10_changedSince_56 ⟨Nat.le_of_ble_eq_true rfl, Nat.le_of_ble_eq_true rfl⟩) hS ?_
          rintro _ _ locs ⟨x22, rfl⟩ hS
          refine xi_ceq (tgt := 65) hx hb (rfl : Int32.toInt x20 = x20.toInt) (rfl : Int32.toInt x22 = x22.toInt) dX10_changedSince_59 (by decide) (fun c23 => ?_) (fun c23 => ?_)
          · refine xi_iinc (n := 1) (lv' := fun z9 => [(3, .int z9), (4, .ref q14), (0, .ref a), (1, .ref p0), (2, .int x1)]) (k := 4) hx hb (rfl : Int32.toInt x2 = x2.toInt) (by decide) dX10_changedSince_65 hl rfl (by decide) (fun _ => rfl) (fun x24 ls t25 hl => ?_)
            have hl : lv_has ls 5 [(3, .int x24), (4, .ref q14), (0, .ref a), (1, .ref p0), (2, .int x1)] := hl
            refine lv_goto (tgt := 4) hx hb dX10_changedSince_68 (by decide) ?_
            exact ih6 x1 x24 _ _ (z_X10_changedSince_4 x2.toInt x24.toInt x8.toInt N3 hf4 hm5 c9 t25 (xr x2) (xr x24) (xr x8)) (z_X10_changedSince_5 x2.toInt x24.toInt x8.toInt N3 hf4 hm5 c9 t25 (xr x2) (xr x24) (xr x8)) hT.nil hS (lv_sub hl [2, 3, 4, 0] rfl)
          · refine xi_iinc (n := 1) (lv' := fun z9 => [(2, .int z9), (4, .ref q14), (0, .ref a), (1, .ref p0), (3, .int x2)]) (k := 3) hx hb (rfl : Int32.toInt x1 = x1.toInt) (by decide) dX10_changedSince_62 hl rfl (by decide) (fun _ => rfl) (fun x26 ls t27 hl => ?_)
            have hl : lv_has ls 5 [(2, .int x26), (4, .ref q14), (0, .ref a), (1, .ref p0), (3, .int x2)] := hl
            refine xi_iinc (n := 1) (lv' := fun z9 => [(3, .int z9), (2, .int x26), (4, .ref q14), (0, .ref a), (1, .ref p0)]) (k := 4) hx hb (rfl : Int32.toInt x2 = x2.toInt) (by decide) dX10_changedSince_65 hl rfl (by decide) (fun _ => rfl) (fun x28 ls t29 hl => ?_)
            have hl : lv_has ls 5 [(3, .int x28), (2, .int x26), (4, .ref q14), (0, .ref a), (1, .ref p0)] := hl
            refine lv_goto (tgt := 4) hx hb dX10_changedSince_68 (by decide) ?_
            exact ih6 x26 x28 _ _ (z_X10_changedSince_6 x2.toInt x28.toInt x8.toInt N3 hf4 hm5 c9 t29 (xr x2) (xr x28) (xr x8)) (z_X10_changedSince_7 x2.toInt x28.toInt x8.toInt N3 hf4 hm5 c9 t29 (xr x2) (xr x28) (xr x8)) hT.nil hS (lv_sub hl [3, 4, 1, 0] rfl)
  exact L4 4294967297 0 0 _ _ (by decide) (by decide) hT.nil hS (lv_sub hl [2, 3, 1, 0] rfl)

theorem z_X10_settledSince_1 (a0 : Int) (h0 : (0 : Int) ≤ a0) (r0 : -2147483648 ≤ a0 ∧ a0 < 2147483648) : ¬ (2147483648 - a0 < ((0 : Nat) : Int)) := by omega
theorem z_X10_settledSince_2 (a0 : Int) (a1 : Int) (a2 : Int) (a3 : Nat) (h0 : (0 : Int) ≤ a2) (h1 : 2147483648 - a2 < ((a3 + 1 : Nat) : Int)) (h2 : ¬ (a0 ≤ a2)) (h3 : a1 = a2 + 1 ∨ a2 + 1 < -2147483648 ∨ 2147483648 ≤ a2 + 1) (r0 : -2147483648 ≤ a0 ∧ a0 < 2147483648) (r1 : -2147483648 ≤ a1 ∧ a1 < 2147483648) (r2 : -2147483648 ≤ a2 ∧ a2 < 2147483648) : (0 : Int) ≤ a1 := by omega
theorem z_X10_settledSince_3 (a0 : Int) (a1 : Int) (a2 : Int) (a3 : Nat) (h0 : (0 : Int) ≤ a2) (h1 : 2147483648 - a2 < ((a3 + 1 : Nat) : Int)) (h2 : ¬ (a0 ≤ a2)) (h3 : a1 = a2 + 1 ∨ a2 + 1 < -2147483648 ∨ 2147483648 ≤ a2 + 1) (r0 : -2147483648 ≤ a0 ∧ a0 < 2147483648) (r1 : -2147483648 ≤ a1 ∧ a1 < 2147483648) (r2 : -2147483648 ≤ a2 ∧ a2 < 2147483648) : 2147483648 - a1 < ((a3 : Nat) : Int) := by omega
theorem z_X10_settledSince_4 (a0 : Int) (a1 : Int) (a2 : Int) (a3 : Nat) (h0 : (0 : Int) ≤ a2) (h1 : 2147483648 - a2 < ((a3 + 1 : Nat) : Int)) (h2 : ¬ (a0 ≤ a2)) (h3 : a1 = a2 + 1 ∨ a2 + 1 < -2147483648 ∨ 2147483648 ≤ a2 + 1) (r0 : -2147483648 ≤ a0 ∧ a0 < 2147483648) (r1 : -2147483648 ≤ a1 ∧ a1 < 2147483648) (r2 : -2147483648 ≤ a2 ∧ a2 < 2147483648) : (0 : Int) ≤ a1 := by omega
theorem z_X10_settledSince_5 (a0 : Int) (a1 : Int) (a2 : Int) (a3 : Nat) (h0 : (0 : Int) ≤ a2) (h1 : 2147483648 - a2 < ((a3 + 1 : Nat) : Int)) (h2 : ¬ (a0 ≤ a2)) (h3 : a1 = a2 + 1 ∨ a2 + 1 < -2147483648 ∨ 2147483648 ≤ a2 + 1) (r0 : -2147483648 ≤ a0 ∧ a0 < 2147483648) (r1 : -2147483648 ≤ a1 ∧ a1 < 2147483648) (r2 : -2147483648 ≤ a2 ∧ a2 < 2147483648) : 2147483648 - a1 < ((a3 : Nat) : Int) := by omega
theorem z_X10_settledSince_6 (a0 : Int) (a1 : Int) (a2 : Int) (a3 : Nat) (h0 : (0 : Int) ≤ a2) (h1 : 2147483648 - a2 < ((a3 + 1 : Nat) : Int)) (h2 : ¬ (a0 ≤ a2)) (h3 : a1 = a2 + 1 ∨ a2 + 1 < -2147483648 ∨ 2147483648 ≤ a2 + 1) (r0 : -2147483648 ≤ a0 ∧ a0 < 2147483648) (r1 : -2147483648 ≤ a1 ∧ a1 < 2147483648) (r2 : -2147483648 ≤ a2 ∧ a2 < 2147483648) : (0 : Int) ≤ a1 := by omega
theorem z_X10_settledSince_7 (a0 : Int) (a1 : Int) (a2 : Int) (a3 : Nat) (h0 : (0 : Int) ≤ a2) (h1 : 2147483648 - a2 < ((a3 + 1 : Nat) : Int)) (h2 : ¬ (a0 ≤ a2)) (h3 : a1 = a2 + 1 ∨ a2 + 1 < -2147483648 ∨ 2147483648 ≤ a2 + 1) (r0 : -2147483648 ≤ a0 ∧ a0 < 2147483648) (r1 : -2147483648 ≤ a1 ∧ a1 < 2147483648) (r2 : -2147483648 ≤ a2 ∧ a2 < 2147483648) : 2147483648 - a1 < ((a3 : Nat) : Int) := by omega
abbrev rm_X10_settledSince : Room := { frames := 6, cells := 0, slots := 0, locals := 149 }
set_option maxHeartbeats 4000000 in
set_option maxRecDepth 100000 in
theorem c_X10_settledSince (l : Launch) (E : XE) (K : Nat → Nat) (F : Nat → Nat → Nat) (G : XG) (a : Nat) (p0 : Nat) (ha : K a = 12) (hp0 : K p0 = 8) : Met l yX10_settledSince (xw yX10_settledSince cX10_settledSince 5 (some .int)) rm_X10_settledSince (va_Pc [.ref a, .ref p0] (XP E K F G)) (XQ E (fun v (u : Unit) => ∃ r : Int32, v = .int r) (fun _ H => TW E K F G [] H)) 0 0 (xA E) := by
  refine x_enter (by decide) (Nat.le_of_ble_eq_true rfl) ?_
  intro p e s m args below meth c Q S hr hlk hnm hQ hP ls hl
  obtain ⟨hz, hK, hT⟩ := hP
  obtain ⟨hx, hb, -, -, -⟩ := id S
  obtain ⟨H, hT, hS, hgo⟩ : ∃ H : Heap, TW E K F G [] H ∧ va_S (xA E) s.heap H [] ∧ H = s.heap := ⟨_, hT, va_S.rf, rfl⟩
  rw [← hgo]
  have hl : lv_has ls 5 [(0, .ref a), (1, .ref p0)] := hl
  refine lv_aload_n hx hb dX10_settledSince_0 rfl (lv_at hl 0 rfl) ?_
  refine lv_aload_n hx hb dX10_settledSince_1 rfl (lv_at hl 0 rfl) ?_
  refine gX10_9 S hK hT ha kf_X10_61 dX10_settledSince_2 (fun hk1 => ?_)
  refine lv_aload_n hx hb dX10_settledSince_5 rfl (lv_at hl 0 rfl) ?_
  refine gX10_4 S hK hT ha kf_X10_41 dX10_settledSince_6 (fun hk2 => ?_)
  refine lv_aload_n hx hb dX10_settledSince_9 rfl (lv_at hl 1 rfl) ?_
  refine lv_iconst (v := 1) hx hb dX10_settledSince_10 (by decide) ?_
  refine x_cv0 (x_runV (b := a) (As := [.ref (F a 9), .ref (F a 4), .ref p0, .int 1]) (rest := []) S (c_X10_gather l E K F G a (F a 9) (F a 4) p0 1 ha hk1 hk2 hp0) mv_X10_gather km_X10_240 rfl rfl ⟨Nat.le_of_ble_eq_true rfl, Nat.le_of_ble_eq_true rfl⟩ (rc_12 hK hT ha) hK (fun _ => XP.blind) (fun U hU hW => XP.at hK hz hS hT hU hW) rfl hl.1 (Nat.le_of_ble_eq_true rfl) dX10_settledSince_11 ⟨Nat.le_of_ble_eq_true rfl, Nat.le_of_ble_eq_true rfl⟩) hS ?_
  rintro _ H locs - hT hS
  refine lv_iconst (v := 0) hx hb dX10_settledSince_14 (by decide) ?_
  refine lv_istore_n (lv' := [(2, .int 0), (0, .ref a), (1, .ref p0)]) hx hb dX10_settledSince_15 rfl hl (by decide) rfl (fun ls hl => ?_)
  refine lv_iconst (v := 0) hx hb dX10_settledSince_16 (by decide) ?_
  refine lv_istore_n (lv' := [(3, .int 0), (2, .int 0), (0, .ref a), (1, .ref p0)]) hx hb dX10_settledSince_17 rfl hl (by decide) rfl (fun ls hl => ?_)
  have L18 : ∀ (N5 : Nat) (x3 : Int32) (x4 : Int32) (H : Heap) (locs : List Loc) (ls : Array Slot), (0 : Int) ≤ x4.toInt → 2147483648 - x4.toInt < ((N5 : Nat) : Int) → TW E K F G [] H → va_S (xA E) s.heap H locs → lv_has ls 5 [(0, .ref a), (2, .int x3), (3, .int x4)] → W p l e rm_X10_settledSince s m args below meth c H locs 0 0 Q (F0 m 18 ls []) := by
    intro N5
    induction N5 with
    | zero =>
      intro x3 x4 H locs ls hf6 hm7
      exact absurd hm7 (z_X10_settledSince_1 x4.toInt hf6 (xr x4))
    | succ N5 ih8 =>
      intro x3 x4 H locs ls hf6 hm7 hT hS hl
      refine lv_iload_n hx hb dX10_settledSince_18 rfl (lv_at hl 2 rfl) ?_
      refine lv_aload_n hx hb dX10_settledSince_19 rfl (lv_at hl 0 rfl) ?_
      refine gX10_9 S hK hT ha kf_X10_61 dX10_settledSince_20 (fun hk9 => ?_)
      refine x_clp (x_runV (b := (F a 9)) (As := []) (rest := [.int x4]) S (c_X4_size l E K F G H (F a 9) hk9) mv_X4_size km_X10_232 rfl rfl ⟨Nat.le_of_ble_eq_true rfl, Nat.le_of_ble_eq_true rfl⟩ (rc_6 hK hT hk9) hK (fun _ => XPh.blind) (fun U hU hW => XPh.at hK hz hS hT hU hW) rfl hl.1 (Nat.le_of_ble_eq_true rfl) dX10_settledSince_23 ⟨Nat.le_of_ble_eq_true rfl, Nat.le_of_ble_eq_true rfl⟩) hS ?_
      rintro _ _ locs ⟨x10, rfl⟩ hS
      refine xi_cge (tgt := 88) hx hb (rfl : Int32.toInt x4 = x4.toInt) (rfl : Int32.toInt x10 = x10.toInt) dX10_settledSince_26 (by decide) (fun c11 => ?_) (fun c11 => ?_)
      · refine lv_iload_n hx hb dX10_settledSince_88 rfl (lv_at hl 1 rfl) ?_
        exact x_ri hx hb hr hlk hQ (Nat.le_of_ble_eq_true rfl) (Nat.le_of_ble_eq_true rfl) hS dX10_settledSince_89 () ⟨_, rfl⟩ hT.nil
      · refine lv_aload_n hx hb dX10_settledSince_29 rfl (lv_at hl 0 rfl) ?_
        refine gX10_2 S hK hT ha kf_X10_30 dX10_settledSince_30 (fun hk12 => ?_)
        refine lv_aload_n hx hb dX10_settledSince_33 rfl (lv_at hl 0 rfl) ?_
        refine gX10_9 S hK hT ha kf_X10_61 dX10_settledSince_34 (fun hk13 => ?_)
        refine lv_iload_n hx hb dX10_settledSince_37 rfl (lv_at hl 2 rfl) ?_
        refine x_clp (x_runV (b := (F a 9)) (As := [.int x4]) (rest := [.ref (F a 2)]) S (c_X4_number l E K F G H (F a 9) x4 hk13) mv_X4_number km_X10_301 rfl rfl ⟨Nat.le_of_ble_eq_true rfl, Nat.le_of_ble_eq_true rfl⟩ (rc_6 hK hT hk13) hK (fun _ => XPh.blind) (fun U hU hW => XPh.at hK hz hS hT hU hW) rfl hl.1 (Nat.le_of_ble_eq_true rfl) dX10_settledSince_38 ⟨Nat.le_of_ble_eq_true rfl, Nat.le_of_ble_eq_true rfl⟩) hS ?_
        rintro _ _ locs ⟨x14, rfl⟩ hS
        refine x_clp (x_runV (b := (F a 2)) (As := [.int x14]) (rest := []) S (c_X0_get l E K F G H (F a 2) x14 hk12) mv_X0_get km_X10_159 rfl rfl ⟨Nat.le_of_ble_eq_true rfl, Nat.le_of_ble_eq_true rfl⟩ (rc_2 hK hT hk12) hK (fun _ => XPh.blind) (fun U hU hW => XPh.at hK hz hS hT hU hW) rfl hl.1 (Nat.le_of_ble_eq_true rfl) dX10_settledSince_41 ⟨Nat.le_of_ble_eq_true rfl, Nat.le_of_ble_eq_true rfl⟩) hS ?_
        rintro _ _ locs (rfl | ⟨q16, rfl, hk17⟩) hS
        · refine lv_astoreN (lv' := [(4, .null), (0, .ref a), (2, .int x3), (3, .int x4)]) hx hb dX10_settledSince_44 hl (by decide) rfl (fun ls hl => ?_)
          refine lv_aloadN hx hb dX10_settledSince_46 (lv_at hl 0 rfl) ?_
          refine lv_ifnullN (tgt := 82) hx hb dX10_settledSince_48 (by decide) ?_
          refine xi_iinc (n := 1) (lv' := fun z9 => [(3, .int z9), (4, .null), (0, .ref a), (2, .int x3)]) (k := 3) hx hb (rfl : Int32.toInt x4 = x4.toInt) (by decide) dX10_settledSince_82 hl rfl (by decide) (fun _ => rfl) (fun x18 ls t19 hl => ?_)
          have hl : lv_has ls 5 [(3, .int x18), (4, .null), (0, .ref a), (2, .int x3)] := hl
          refine lv_goto (tgt := 18) hx hb dX10_settledSince_85 (by decide) ?_
          exact ih8 x3 x18 _ _ _ (z_X10_settledSince_2 x10.toInt x18.toInt x4.toInt N5 hf6 hm7 c11 t19 (xr x10) (xr x18) (xr x4)) (z_X10_settledSince_3 x10.toInt x18.toInt x4.toInt N5 hf6 hm7 c11 t19 (xr x10) (xr x18) (xr x4)) hT.nil hS (lv_sub hl [2, 3, 0] rfl)
        · refine lv_astore (lv' := [(4, .ref q16), (0, .ref a), (2, .int x3), (3, .int x4)]) hx hb dX10_settledSince_44 hl (by decide) rfl (fun ls hl => ?_)
          refine lv_aload hx hb dX10_settledSince_46 (lv_at hl 0 rfl) ?_
          refine lv_ifnull hx hb dX10_settledSince_48 ?_
          refine lv_aload hx hb dX10_settledSince_51 (lv_at hl 0 rfl) ?_
          refine lv_aload_n hx hb dX10_settledSince_53 rfl (lv_at hl 1 rfl) ?_
          refine gX10_3 S hK hT ha kf_X10_37 dX10_settledSince_54 (fun hk20 => ?_)
          refine lv_aload_n hx hb dX10_settledSince_57 rfl (lv_at hl 1 rfl) ?_
          refine gX10_9 S hK hT ha kf_X10_61 dX10_settledSince_58 (fun hk21 => ?_)
          refine lv_iload_n hx hb dX10_settledSince_61 rfl (lv_at hl 3 rfl) ?_
          refine x_clp (x_runV (b := (F a 9)) (As := [.int x4]) (rest := [.ref (F a 3), .ref q16]) S (c_X4_subject l E K F G H (F a 9) x4 hk21) mv_X4_subject km_X10_147 rfl rfl ⟨Nat.le_of_ble_eq_true rfl, Nat.le_of_ble_eq_true rfl⟩ (rc_6 hK hT hk21) hK (fun _ => XPh.blind) (fun U hU hW => XPh.at hK hz hS hT hU hW) rfl hl.1 (Nat.le_of_ble_eq_true rfl) dX10_settledSince_62 ⟨Nat.le_of_ble_eq_true rfl, Nat.le_of_ble_eq_true rfl⟩) hS ?_
          rintro _ _ locs ⟨x22, rfl⟩ hS
          refine x_clp (x_runV (b := q16) (As := [.ref (F a 3), .int x22]) (rest := []) S (c_X7_state l E K F G H q16 (F a 3) x22 hk17 hk20) mv_X7_state km_X10_328 rfl rfl ⟨Nat.le_of_ble_eq_true rfl, Nat.le_of_ble_eq_true rfl⟩ (rc_9 hK hT hk17) hK (fun _ => XPh.blind) (fun U hU hW => XPh.at hK hz hS hT hU hW) rfl hl.1 (Nat.le_of_ble_eq_true rfl) dX10_settledSince_65 ⟨Nat.le_of_ble_eq_true rfl, Nat.le_of_ble_eq_true rfl⟩) hS ?_
          rintro _ _ locs ⟨x23, rfl⟩ hS
          refine lv_aload_n hx hb dX10_settledSince_68 rfl (lv_at hl 1 rfl) ?_
          refine gX10_9 S hK hT ha kf_X10_61 dX10_settledSince_69 (fun hk24 => ?_)
          refine lv_iload_n hx hb dX10_settledSince_72 rfl (lv_at hl 3 rfl) ?_
          refine x_clp (x_runV (b := (F a 9)) (As := [.int x4]) (rest := [.int x23]) S (c_X4_before l E K F G H (F a 9) x4 hk24) mv_X4_before km_X10_303 rfl rfl ⟨Nat.le_of_ble_eq_true rfl, Nat.le_of_ble_eq_true rfl⟩ (rc_6 hK hT hk24) hK (fun _ => XPh.blind) (fun U hU hW => XPh.at hK hz hS hT hU hW) rfl hl.1 (Nat.le_of_ble_eq_true rfl) dX10_settledSince_73 ⟨Nat.le_of_ble_eq_true rfl, Nat.le_of_ble_eq_true rfl⟩) hS ?_
          rintro _ _ locs ⟨x25, rfl⟩ hS
          refine xi_cne (tgt := 82) hx hb (rfl : Int32.toInt x23 = x23.toInt) (rfl : Int32.toInt x25 = x25.toInt) dX10_settledSince_76 (by decide) (fun c26 => ?_) (fun c26 => ?_)
          · refine xi_iinc (n := 1) (lv' := fun z9 => [(3, .int z9), (4, .ref q16), (0, .ref a), (2, .int x3)]) (k := 3) hx hb (rfl : Int32.toInt x4 = x4.toInt) (by decide) dX10_settledSince_82 hl rfl (by decide) (fun _ => rfl) (fun x27 ls t28 hl => ?_)
            have hl : lv_has ls 5 [(3, .int x27), (4, .ref q16), (0, .ref a), (2, .int x3)] := hl
            refine lv_goto (tgt := 18) hx hb dX10_settledSince_85 (by decide) ?_
            exact ih8 x3 x27 _ _ _ (z_X10_settledSince_4 x10.toInt x27.toInt x4.toInt N5 hf6 hm7 c11 t28 (xr x10) (xr x27) (xr x4)) (z_X10_settledSince_5 x10.toInt x27.toInt x4.toInt N5 hf6 hm7 c11 t28 (xr x10) (xr x27) (xr x4)) hT.nil hS (lv_sub hl [2, 3, 0] rfl)
          · refine xi_iinc (n := 1) (lv' := fun z9 => [(2, .int z9), (4, .ref q16), (0, .ref a), (3, .int x4)]) (k := 2) hx hb (rfl : Int32.toInt x3 = x3.toInt) (by decide) dX10_settledSince_79 hl rfl (by decide) (fun _ => rfl) (fun x29 ls t30 hl => ?_)
            have hl : lv_has ls 5 [(2, .int x29), (4, .ref q16), (0, .ref a), (3, .int x4)] := hl
            refine xi_iinc (n := 1) (lv' := fun z9 => [(3, .int z9), (2, .int x29), (4, .ref q16), (0, .ref a)]) (k := 3) hx hb (rfl : Int32.toInt x4 = x4.toInt) (by decide) dX10_settledSince_82 hl rfl (by decide) (fun _ => rfl) (fun x31 ls t32 hl => ?_)
            have hl : lv_has ls 5 [(3, .int x31), (2, .int x29), (4, .ref q16), (0, .ref a)] := hl
            refine lv_goto (tgt := 18) hx hb dX10_settledSince_85 (by decide) ?_
            exact ih8 x29 x31 _ _ _ (z_X10_settledSince_6 x10.toInt x31.toInt x4.toInt N5 hf6 hm7 c11 t32 (xr x10) (xr x31) (xr x4)) (z_X10_settledSince_7 x10.toInt x31.toInt x4.toInt N5 hf6 hm7 c11 t32 (xr x10) (xr x31) (xr x4)) hT.nil hS (lv_sub hl [3, 1, 0] rfl)
  exact L18 4294967297 0 0 _ _ _ (by decide) (by decide) hT.nil hS (lv_sub hl [2, 1, 0] rfl)

theorem z_X10_answerOnPaper_1 (a0 : Int) (h0 : (0 : Int) ≤ a0) (r0 : -2147483648 ≤ a0 ∧ a0 < 2147483648) : ¬ (2147483648 - a0 < ((0 : Nat) : Int)) := by omega
theorem z_X10_answerOnPaper_2 (a0 : Int) (a1 : Int) (a2 : Int) (a3 : Nat) (h0 : (0 : Int) ≤ a2) (h1 : 2147483648 - a2 < ((a3 + 1 : Nat) : Int)) (h2 : ¬ (a0 ≤ a2)) (h3 : a1 = a2 + 1 ∨ a2 + 1 < -2147483648 ∨ 2147483648 ≤ a2 + 1) (r0 : -2147483648 ≤ a0 ∧ a0 < 2147483648) (r1 : -2147483648 ≤ a1 ∧ a1 < 2147483648) (r2 : -2147483648 ≤ a2 ∧ a2 < 2147483648) : (0 : Int) ≤ a1 := by omega
theorem z_X10_answerOnPaper_3 (a0 : Int) (a1 : Int) (a2 : Int) (a3 : Nat) (h0 : (0 : Int) ≤ a2) (h1 : 2147483648 - a2 < ((a3 + 1 : Nat) : Int)) (h2 : ¬ (a0 ≤ a2)) (h3 : a1 = a2 + 1 ∨ a2 + 1 < -2147483648 ∨ 2147483648 ≤ a2 + 1) (r0 : -2147483648 ≤ a0 ∧ a0 < 2147483648) (r1 : -2147483648 ≤ a1 ∧ a1 < 2147483648) (r2 : -2147483648 ≤ a2 ∧ a2 < 2147483648) : 2147483648 - a1 < ((a3 : Nat) : Int) := by omega
abbrev rm_X10_answerOnPaper : Room := { frames := 6, cells := 0, slots := 0, locals := 149 }
set_option maxHeartbeats 4000000 in
set_option maxRecDepth 100000 in
theorem c_X10_answerOnPaper (l : Launch) (E : XE) (K : Nat → Nat) (F : Nat → Nat → Nat) (G : XG) (a : Nat) (ha : K a = 12) : Met l yX10_answerOnPaper (xw yX10_answerOnPaper cX10_answerOnPaper 2 (some .int)) rm_X10_answerOnPaper (va_Pc [.ref a] (XP E K F G)) (XQ E (fun v (u : Unit) => ∃ r : Int32, v = .int r) (fun _ H => TW E K F G [] H)) 0 0 (xA E) := by
  refine x_enter (by decide) (Nat.le_of_ble_eq_true rfl) ?_
  intro p e s m args below meth c Q S hr hlk hnm hQ hP ls hl
  obtain ⟨hz, hK, hT⟩ := hP
  obtain ⟨hx, hb, -, -, -⟩ := id S
  obtain ⟨H, hT, hS, hgo⟩ : ∃ H : Heap, TW E K F G [] H ∧ va_S (xA E) s.heap H [] ∧ H = s.heap := ⟨_, hT, va_S.rf, rfl⟩
  rw [← hgo]
  have hl : lv_has ls 2 [(0, .ref a)] := hl
  refine lv_aload_n hx hb dX10_answerOnPaper_0 rfl (lv_at hl 0 rfl) ?_
  refine lv_aload_n hx hb dX10_answerOnPaper_1 rfl (lv_at hl 0 rfl) ?_
  refine gX10_9 S hK hT ha kf_X10_61 dX10_answerOnPaper_2 (fun hk1 => ?_)
  refine lv_aload_n hx hb dX10_answerOnPaper_5 rfl (lv_at hl 0 rfl) ?_
  refine gX10_3 S hK hT ha kf_X10_37 dX10_answerOnPaper_6 (fun hk2 => ?_)
  refine lv_aload_n hx hb dX10_answerOnPaper_9 rfl (lv_at hl 0 rfl) ?_
  refine gX10_5 S hK hT ha kf_X10_44 dX10_answerOnPaper_10 (fun hk3 => ?_)
  refine lv_iconst (v := 0) hx hb dX10_answerOnPaper_13 (by decide) ?_
  refine x_cv0 (x_runV (b := a) (As := [.ref (F a 9), .ref (F a 3), .ref (F a 5), .int 0]) (rest := []) S (c_X10_gather l E K F G a (F a 9) (F a 3) (F a 5) 0 ha hk1 hk2 hk3) mv_X10_gather km_X10_240 rfl rfl ⟨Nat.le_of_ble_eq_true rfl, Nat.le_of_ble_eq_true rfl⟩ (rc_12 hK hT ha) hK (fun _ => XP.blind) (fun U hU hW => XP.at hK hz hS hT hU hW) rfl hl.1 (Nat.le_of_ble_eq_true rfl) dX10_answerOnPaper_14 ⟨Nat.le_of_ble_eq_true rfl, Nat.le_of_ble_eq_true rfl⟩) hS ?_
  rintro _ H locs - hT hS
  refine lv_iconst (v := 0) hx hb dX10_answerOnPaper_17 (by decide) ?_
  refine lv_istore_n (lv' := [(1, .int 0), (0, .ref a)]) hx hb dX10_answerOnPaper_18 rfl hl (by decide) rfl (fun ls hl => ?_)
  have L19 : ∀ (N5 : Nat) (x4 : Int32) (H : Heap) (locs : List Loc) (ls : Array Slot), (0 : Int) ≤ x4.toInt → 2147483648 - x4.toInt < ((N5 : Nat) : Int) → TW E K F G [] H → va_S (xA E) s.heap H locs → lv_has ls 2 [(0, .ref a), (1, .int x4)] → W p l e rm_X10_answerOnPaper s m args below meth c H locs 0 0 Q (F0 m 19 ls []) := by
    intro N5
    induction N5 with
    | zero =>
      intro x4 H locs ls hf6 hm7
      exact absurd hm7 (z_X10_answerOnPaper_1 x4.toInt hf6 (xr x4))
    | succ N5 ih8 =>
      intro x4 H locs ls hf6 hm7 hT hS hl
      refine lv_iload_n hx hb dX10_answerOnPaper_19 rfl (lv_at hl 1 rfl) ?_
      refine lv_aload_n hx hb dX10_answerOnPaper_20 rfl (lv_at hl 0 rfl) ?_
      refine gX10_9 S hK hT ha kf_X10_61 dX10_answerOnPaper_21 (fun hk9 => ?_)
      refine x_clp (x_runV (b := (F a 9)) (As := []) (rest := [.int x4]) S (c_X4_size l E K F G H (F a 9) hk9) mv_X4_size km_X10_232 rfl rfl ⟨Nat.le_of_ble_eq_true rfl, Nat.le_of_ble_eq_true rfl⟩ (rc_6 hK hT hk9) hK (fun _ => XPh.blind) (fun U hU hW => XPh.at hK hz hS hT hU hW) rfl hl.1 (Nat.le_of_ble_eq_true rfl) dX10_answerOnPaper_24 ⟨Nat.le_of_ble_eq_true rfl, Nat.le_of_ble_eq_true rfl⟩) hS ?_
      rintro _ _ locs ⟨x10, rfl⟩ hS
      refine xi_cge (tgt := 68) hx hb (rfl : Int32.toInt x4 = x4.toInt) (rfl : Int32.toInt x10 = x10.toInt) dX10_answerOnPaper_27 (by decide) (fun c11 => ?_) (fun c11 => ?_)
      · refine lv_aload_n hx hb dX10_answerOnPaper_68 rfl (lv_at hl 0 rfl) ?_
        refine gX10_9 S hK hT ha kf_X10_61 dX10_answerOnPaper_69 (fun hk12 => ?_)
        refine x_clp (x_runV (b := (F a 9)) (As := []) (rest := []) S (c_X4_size l E K F G H (F a 9) hk12) mv_X4_size km_X10_232 rfl rfl ⟨Nat.le_of_ble_eq_true rfl, Nat.le_of_ble_eq_true rfl⟩ (rc_6 hK hT hk12) hK (fun _ => XPh.blind) (fun U hU hW => XPh.at hK hz hS hT hU hW) rfl hl.1 (Nat.le_of_ble_eq_true rfl) dX10_answerOnPaper_72 ⟨Nat.le_of_ble_eq_true rfl, Nat.le_of_ble_eq_true rfl⟩) hS ?_
        rintro _ _ locs ⟨x13, rfl⟩ hS
        exact x_ri hx hb hr hlk hQ (Nat.le_of_ble_eq_true rfl) (Nat.le_of_ble_eq_true rfl) hS dX10_answerOnPaper_75 () ⟨_, rfl⟩ hT.nil
      · refine lv_aload_n hx hb dX10_answerOnPaper_30 rfl (lv_at hl 0 rfl) ?_
        refine gX10_9 S hK hT ha kf_X10_61 dX10_answerOnPaper_31 (fun hk14 => ?_)
        refine lv_iload_n hx hb dX10_answerOnPaper_34 rfl (lv_at hl 1 rfl) ?_
        refine x_clp (x_runV (b := (F a 9)) (As := [.int x4]) (rest := []) S (c_X4_fails l E K F G H (F a 9) x4 hk14) mv_X4_fails km_X10_309 rfl rfl ⟨Nat.le_of_ble_eq_true rfl, Nat.le_of_ble_eq_true rfl⟩ (rc_6 hK hT hk14) hK (fun _ => XPh.blind) (fun U hU hW => XPh.at hK hz hS hT hU hW) rfl hl.1 (Nat.le_of_ble_eq_true rfl) dX10_answerOnPaper_35 ⟨Nat.le_of_ble_eq_true rfl, Nat.le_of_ble_eq_true rfl⟩) hS ?_
        rintro _ _ locs ⟨x15, rfl, b16⟩ hS
        have J62 : ∀ (H : Heap) (locs : List Loc) (ls : Array Slot), TW E K F G [] H → va_S (xA E) s.heap H locs → lv_has ls 2 [(0, .ref a), (1, .int x4)] → W p l e rm_X10_answerOnPaper s m args below meth c H locs 0 0 Q (F0 m 62 ls []) := by
          intro H locs ls hT hS hl
          refine xi_iinc (n := 1) (lv' := fun z9 => [(1, .int z9), (0, .ref a)]) (k := 1) hx hb (rfl : Int32.toInt x4 = x4.toInt) (by decide) dX10_answerOnPaper_62 hl rfl (by decide) (fun _ => rfl) (fun x17 ls t18 hl => ?_)
          have hl : lv_has ls 2 [(1, .int x17), (0, .ref a)] := hl
          refine lv_goto (tgt := 19) hx hb dX10_answerOnPaper_65 (by decide) ?_
          exact ih8 x17 _ _ _ (z_X10_answerOnPaper_2 x10.toInt x17.toInt x4.toInt N5 hf6 hm7 c11 t18 (xr x10) (xr x17) (xr x4)) (z_X10_answerOnPaper_3 x10.toInt x17.toInt x4.toInt N5 hf6 hm7 c11 t18 (xr x10) (xr x17) (xr x4)) hT.nil hS (lv_sub hl [1, 0] rfl)
        refine xi_zeq (tgt := 62) hx hb (rfl : Int32.toInt x15 = x15.toInt) dX10_answerOnPaper_38 (by decide) (fun c19 => ?_) (fun c19 => ?_)
        · exact J62 _ _ _ hT.nil hS (lv_sub hl [0, 1] rfl)
        · refine lv_aload_n hx hb dX10_answerOnPaper_41 rfl (lv_at hl 0 rfl) ?_
          refine gX10_18 S hK hT ha kf_X10_123 dX10_answerOnPaper_42 (fun x20 hT => ?_)
          refine xi_zeq (tgt := 59) hx hb (rfl : Int32.toInt x20 = x20.toInt) dX10_answerOnPaper_45 (by decide) (fun c21 => ?_) (fun c21 => ?_)
          · refine lv_bipush (v := (-5)) hx hb dX10_answerOnPaper_59 (by decide) ?_
            exact x_ri hx hb hr hlk hQ (Nat.le_of_ble_eq_true rfl) (Nat.le_of_ble_eq_true rfl) hS dX10_answerOnPaper_61 () ⟨_, rfl⟩ hT.nil
          · refine lv_aload_n hx hb dX10_answerOnPaper_48 rfl (lv_at hl 0 rfl) ?_
            refine gX10_9 S hK hT ha kf_X10_61 dX10_answerOnPaper_49 (fun hk22 => ?_)
            refine lv_iload_n hx hb dX10_answerOnPaper_52 rfl (lv_at hl 1 rfl) ?_
            refine x_clp (x_runV (b := (F a 9)) (As := [.int x4]) (rest := []) S (c_X4_isLate l E K F G H (F a 9) x4 hk22) mv_X4_isLate km_X10_404 rfl rfl ⟨Nat.le_of_ble_eq_true rfl, Nat.le_of_ble_eq_true rfl⟩ (rc_6 hK hT hk22) hK (fun _ => XPh.blind) (fun U hU hW => XPh.at hK hz hS hT hU hW) rfl hl.1 (Nat.le_of_ble_eq_true rfl) dX10_answerOnPaper_53 ⟨Nat.le_of_ble_eq_true rfl, Nat.le_of_ble_eq_true rfl⟩) hS ?_
            rintro _ _ locs ⟨x23, rfl, b24⟩ hS
            refine xi_zne (tgt := 62) hx hb (rfl : Int32.toInt x23 = x23.toInt) dX10_answerOnPaper_56 (by decide) (fun c25 => ?_) (fun c25 => ?_)
            · exact J62 _ _ _ hT.nil hS (lv_sub hl [0, 1] rfl)
            · refine lv_bipush (v := (-5)) hx hb dX10_answerOnPaper_59 (by decide) ?_
              exact x_ri hx hb hr hlk hQ (Nat.le_of_ble_eq_true rfl) (Nat.le_of_ble_eq_true rfl) hS dX10_answerOnPaper_61 () ⟨_, rfl⟩ hT.nil
  exact L19 4294967297 0 _ _ _ (by decide) (by decide) hT.nil hS (lv_sub hl [1, 0] rfl)

theorem z_X10_holdsOnPaper_1 (a0 : Int) (h0 : (0 : Int) ≤ a0) (r0 : -2147483648 ≤ a0 ∧ a0 < 2147483648) : ¬ (2147483648 - a0 < ((0 : Nat) : Int)) := by omega
theorem z_X10_holdsOnPaper_2 (a0 : Int) (a1 : Int) (a2 : Int) (a3 : Nat) (h0 : (0 : Int) ≤ a1) (h1 : 2147483648 - a1 < ((a3 + 1 : Nat) : Int)) (h2 : ¬ (a2 ≤ a1)) (h3 : a0 = a1 + 1 ∨ a1 + 1 < -2147483648 ∨ 2147483648 ≤ a1 + 1) (r0 : -2147483648 ≤ a0 ∧ a0 < 2147483648) (r1 : -2147483648 ≤ a1 ∧ a1 < 2147483648) (r2 : -2147483648 ≤ a2 ∧ a2 < 2147483648) : (0 : Int) ≤ a0 := by omega
theorem z_X10_holdsOnPaper_3 (a0 : Int) (a1 : Int) (a2 : Int) (a3 : Nat) (h0 : (0 : Int) ≤ a1) (h1 : 2147483648 - a1 < ((a3 + 1 : Nat) : Int)) (h2 : ¬ (a2 ≤ a1)) (h3 : a0 = a1 + 1 ∨ a1 + 1 < -2147483648 ∨ 2147483648 ≤ a1 + 1) (r0 : -2147483648 ≤ a0 ∧ a0 < 2147483648) (r1 : -2147483648 ≤ a1 ∧ a1 < 2147483648) (r2 : -2147483648 ≤ a2 ∧ a2 < 2147483648) : 2147483648 - a0 < ((a3 : Nat) : Int) := by omega
theorem z_X10_holdsOnPaper_4 (a0 : Int) (a1 : Int) (a2 : Int) (a3 : Nat) (h0 : (0 : Int) ≤ a1) (h1 : 2147483648 - a1 < ((a3 + 1 : Nat) : Int)) (h2 : ¬ (a2 ≤ a1)) (h3 : a0 = a1 + 1 ∨ a1 + 1 < -2147483648 ∨ 2147483648 ≤ a1 + 1) (r0 : -2147483648 ≤ a0 ∧ a0 < 2147483648) (r1 : -2147483648 ≤ a1 ∧ a1 < 2147483648) (r2 : -2147483648 ≤ a2 ∧ a2 < 2147483648) : (0 : Int) ≤ a0 := by omega
theorem z_X10_holdsOnPaper_5 (a0 : Int) (a1 : Int) (a2 : Int) (a3 : Nat) (h0 : (0 : Int) ≤ a1) (h1 : 2147483648 - a1 < ((a3 + 1 : Nat) : Int)) (h2 : ¬ (a2 ≤ a1)) (h3 : a0 = a1 + 1 ∨ a1 + 1 < -2147483648 ∨ 2147483648 ≤ a1 + 1) (r0 : -2147483648 ≤ a0 ∧ a0 < 2147483648) (r1 : -2147483648 ≤ a1 ∧ a1 < 2147483648) (r2 : -2147483648 ≤ a2 ∧ a2 < 2147483648) : 2147483648 - a0 < ((a3 : Nat) : Int) := by omega
abbrev rm_X10_holdsOnPaper : Room := { frames := 5, cells := 0, slots := 0, locals := 123 }
set_option maxHeartbeats 4000000 in
set_option maxRecDepth 100000 in
theorem c_X10_holdsOnPaper (l : Launch) (E : XE) (K : Nat → Nat) (F : Nat → Nat → Nat) (G : XG) (a : Nat) (p0 : Int32) (p1 : Int32) (ha : K a = 12) : Met l yX10_holdsOnPaper (xw yX10_holdsOnPaper cX10_holdsOnPaper 5 (some .boolean)) rm_X10_holdsOnPaper (va_Pc [.ref a, .int p0, .int p1] (XP E K F G)) (XQ E (fun v (u : Unit) => ∃ r : Int32, v = .int r ∧ (r = 0 ∨ r = 1)) (fun _ H => TW E K F G [] H)) 0 0 (xA E) := by
  refine x_enter (by decide) (Nat.le_of_ble_eq_true rfl) ?_
  intro p e s m args below meth c Q S hr hlk hnm hQ hP ls hl
  obtain ⟨hz, hK, hT⟩ := hP
  obtain ⟨hx, hb, -, -, -⟩ := id S
  obtain ⟨H, hT, hS, hgo⟩ : ∃ H : Heap, TW E K F G [] H ∧ va_S (xA E) s.heap H [] ∧ H = s.heap := ⟨_, hT, va_S.rf, rfl⟩
  rw [← hgo]
  have hl : lv_has ls 5 [(0, .ref a), (1, .int p0), (2, .int p1)] := hl
  refine lv_aload_n hx hb dX10_holdsOnPaper_0 rfl (lv_at hl 0 rfl) ?_
  refine gX10_9 S hK hT ha kf_X10_61 dX10_holdsOnPaper_1 (fun hk1 => ?_)
  refine x_cv0 (x_runV (b := (F a 9)) (As := []) (rest := []) S (c_X4_clear l E K F G (F a 9) hk1) mv_X4_clear km_X10_386 rfl rfl ⟨Nat.le_of_ble_eq_true rfl, Nat.le_of_ble_eq_true rfl⟩ (rc_6 hK hT hk1) hK (fun _ => XP.blind) (fun U hU hW => XP.at hK hz hS hT hU hW) rfl hl.1 (Nat.le_of_ble_eq_true rfl) dX10_holdsOnPaper_4 ⟨Nat.le_of_ble_eq_true rfl, Nat.le_of_ble_eq_true rfl⟩) hS ?_
  rintro _ H locs - hT hS
  refine lv_aload_n hx hb dX10_holdsOnPaper_7 rfl (lv_at hl 0 rfl) ?_
  refine gX10_11 S hK hT ha kf_X10_70 dX10_holdsOnPaper_8 (fun hk2 => ?_)
  refine lv_iload_n hx hb dX10_holdsOnPaper_11 rfl (lv_at hl 1 rfl) ?_
  refine lv_iload_n hx hb dX10_holdsOnPaper_12 rfl (lv_at hl 2 rfl) ?_
  refine x_cv0 (x_runV (b := (F a 11)) (As := [.int p0, .int p1]) (rest := []) S (c_X1_ofOneRow l E K F G (F a 11) p0 p1 hk2) mv_X1_ofOneRow km_X10_410 rfl rfl ⟨Nat.le_of_ble_eq_true rfl, Nat.le_of_ble_eq_true rfl⟩ (rc_3 hK hT hk2) hK (fun _ => XP.blind) (fun U hU hW => XP.at hK hz hS hT hU hW) rfl hl.1 (Nat.le_of_ble_eq_true rfl) dX10_holdsOnPaper_13 ⟨Nat.le_of_ble_eq_true rfl, Nat.le_of_ble_eq_true rfl⟩) hS ?_
  rintro _ H locs - hT hS
  refine lv_iconst (v := 0) hx hb dX10_holdsOnPaper_16 (by decide) ?_
  refine lv_istore_n (lv' := [(3, .int 0), (0, .ref a), (1, .int p0), (2, .int p1)]) hx hb dX10_holdsOnPaper_17 rfl hl (by decide) rfl (fun ls hl => ?_)
  have L18 : ∀ (N4 : Nat) (x3 : Int32) (H : Heap) (locs : List Loc) (ls : Array Slot), (0 : Int) ≤ x3.toInt → 2147483648 - x3.toInt < ((N4 : Nat) : Int) → TW E K F G [] H → va_S (xA E) s.heap H locs → lv_has ls 5 [(0, .ref a), (3, .int x3)] → W p l e rm_X10_holdsOnPaper s m args below meth c H locs 0 0 Q (F0 m 18 ls []) := by
    intro N4
    induction N4 with
    | zero =>
      intro x3 H locs ls hf5 hm6
      exact absurd hm6 (z_X10_holdsOnPaper_1 x3.toInt hf5 (xr x3))
    | succ N4 ih7 =>
      intro x3 H locs ls hf5 hm6 hT hS hl
      refine lv_iload_n hx hb dX10_holdsOnPaper_18 rfl (lv_at hl 1 rfl) ?_
      refine lv_aload_n hx hb dX10_holdsOnPaper_19 rfl (lv_at hl 0 rfl) ?_
      refine gX10_2 S hK hT ha kf_X10_30 dX10_holdsOnPaper_20 (fun hk8 => ?_)
      refine x_clp (x_runV (b := (F a 2)) (As := []) (rest := [.int x3]) S (c_X0_size l E K F G H (F a 2) hk8) mv_X0_size km_X10_167 rfl rfl ⟨Nat.le_of_ble_eq_true rfl, Nat.le_of_ble_eq_true rfl⟩ (rc_2 hK hT hk8) hK (fun _ => XPh.blind) (fun U hU hW => XPh.at hK hz hS hT hU hW) rfl hl.1 (Nat.le_of_ble_eq_true rfl) dX10_holdsOnPaper_23 ⟨Nat.le_of_ble_eq_true rfl, Nat.le_of_ble_eq_true rfl⟩) hS ?_
      rintro _ _ locs ⟨x9, rfl⟩ hS
      refine xi_cge (tgt := 84) hx hb (rfl : Int32.toInt x3 = x3.toInt) (rfl : Int32.toInt x9 = x9.toInt) dX10_holdsOnPaper_26 (by decide) (fun c10 => ?_) (fun c10 => ?_)
      · refine lv_iconst (v := 1) hx hb dX10_holdsOnPaper_84 (by decide) ?_
        exact x_rz hx hb hr (xnz (Or.inr rfl)) hlk hQ (Nat.le_of_ble_eq_true rfl) (Nat.le_of_ble_eq_true rfl) hS dX10_holdsOnPaper_85 () ⟨_, rfl, (Or.inr rfl)⟩ hT.nil
      · refine lv_aload_n hx hb dX10_holdsOnPaper_29 rfl (lv_at hl 0 rfl) ?_
        refine gX10_2 S hK hT ha kf_X10_30 dX10_holdsOnPaper_30 (fun hk11 => ?_)
        refine lv_iload_n hx hb dX10_holdsOnPaper_33 rfl (lv_at hl 1 rfl) ?_
        refine x_clp (x_runV (b := (F a 2)) (As := [.int x3]) (rest := []) S (c_X0_inOrder l E K F G H (F a 2) x3 hk11) mv_X0_inOrder km_X10_391 rfl rfl ⟨Nat.le_of_ble_eq_true rfl, Nat.le_of_ble_eq_true rfl⟩ (rc_2 hK hT hk11) hK (fun _ => XPh.blind) (fun U hU hW => XPh.at hK hz hS hT hU hW) rfl hl.1 (Nat.le_of_ble_eq_true rfl) dX10_holdsOnPaper_34 ⟨Nat.le_of_ble_eq_true rfl, Nat.le_of_ble_eq_true rfl⟩) hS ?_
        rintro _ _ locs (rfl | ⟨q13, rfl, hk14⟩) hS
        · refine lv_astoreN (lv' := [(4, .null), (0, .ref a), (3, .int x3)]) hx hb dX10_holdsOnPaper_37 hl (by decide) rfl (fun ls hl => ?_)
          refine lv_aloadN hx hb dX10_holdsOnPaper_39 (lv_at hl 0 rfl) ?_
          refine lv_ifnullN (tgt := 65) hx hb dX10_holdsOnPaper_41 (by decide) ?_
          refine lv_aload_n hx hb dX10_holdsOnPaper_65 rfl (lv_at hl 1 rfl) ?_
          refine gX10_9 S hK hT ha kf_X10_61 dX10_holdsOnPaper_66 (fun hk15 => ?_)
          refine x_clp (x_runV (b := (F a 9)) (As := []) (rest := []) S (c_X4_firstFailing l E K F G H (F a 9) hk15) mv_X4_firstFailing km_X10_244 rfl rfl ⟨Nat.le_of_ble_eq_true rfl, Nat.le_of_ble_eq_true rfl⟩ (rc_6 hK hT hk15) hK (fun _ => XPh.blind) (fun U hU hW => XPh.at hK hz hS hT hU hW) rfl hl.1 (Nat.le_of_ble_eq_true rfl) dX10_holdsOnPaper_69 ⟨Nat.le_of_ble_eq_true rfl, Nat.le_of_ble_eq_true rfl⟩) hS ?_
          rintro _ _ locs ⟨x16, rfl⟩ hS
          refine lv_iconst (v := (-1)) hx hb dX10_holdsOnPaper_72 (by decide) ?_
          refine xi_ceq (tgt := 78) hx hb (rfl : Int32.toInt x16 = x16.toInt) ((by decide) : Int32.toInt (-1) = (-1 : Int)) dX10_holdsOnPaper_73 (by decide) (fun c17 => ?_) (fun c17 => ?_)
          · refine xi_iinc (n := 1) (lv' := fun z9 => [(3, .int z9), (4, .null), (0, .ref a)]) (k := 2) hx hb (rfl : Int32.toInt x3 = x3.toInt) (by decide) dX10_holdsOnPaper_78 hl rfl (by decide) (fun _ => rfl) (fun x18 ls t19 hl => ?_)
            have hl : lv_has ls 5 [(3, .int x18), (4, .null), (0, .ref a)] := hl
            refine lv_goto (tgt := 18) hx hb dX10_holdsOnPaper_81 (by decide) ?_
            exact ih7 x18 _ _ _ (z_X10_holdsOnPaper_2 x18.toInt x3.toInt x9.toInt N4 hf5 hm6 c10 t19 (xr x18) (xr x3) (xr x9)) (z_X10_holdsOnPaper_3 x18.toInt x3.toInt x9.toInt N4 hf5 hm6 c10 t19 (xr x18) (xr x3) (xr x9)) hT.nil hS (lv_sub hl [2, 0] rfl)
          · refine lv_iconst (v := 0) hx hb dX10_holdsOnPaper_76 (by decide) ?_
            exact x_rz hx hb hr (xnz (Or.inl rfl)) hlk hQ (Nat.le_of_ble_eq_true rfl) (Nat.le_of_ble_eq_true rfl) hS dX10_holdsOnPaper_77 () ⟨_, rfl, (Or.inl rfl)⟩ hT.nil
        · refine lv_astore (lv' := [(4, .ref q13), (0, .ref a), (3, .int x3)]) hx hb dX10_holdsOnPaper_37 hl (by decide) rfl (fun ls hl => ?_)
          refine lv_aload hx hb dX10_holdsOnPaper_39 (lv_at hl 0 rfl) ?_
          refine lv_ifnull hx hb dX10_holdsOnPaper_41 ?_
          refine lv_aload_n hx hb dX10_holdsOnPaper_44 rfl (lv_at hl 1 rfl) ?_
          refine gX10_11 S hK hT ha kf_X10_70 dX10_holdsOnPaper_45 (fun hk20 => ?_)
          refine lv_aload hx hb dX10_holdsOnPaper_48 (lv_at hl 0 rfl) ?_
          refine lv_aload_n hx hb dX10_holdsOnPaper_50 rfl (lv_at hl 1 rfl) ?_
          refine gX10_3 S hK hT ha kf_X10_37 dX10_holdsOnPaper_51 (fun hk21 => ?_)
          refine lv_aload_n hx hb dX10_holdsOnPaper_54 rfl (lv_at hl 1 rfl) ?_
          refine gX10_5 S hK hT ha kf_X10_44 dX10_holdsOnPaper_55 (fun hk22 => ?_)
          refine lv_aload_n hx hb dX10_holdsOnPaper_58 rfl (lv_at hl 1 rfl) ?_
          refine gX10_9 S hK hT ha kf_X10_61 dX10_holdsOnPaper_59 (fun hk23 => ?_)
          refine x_cv0 (x_runV (b := (F a 11)) (As := [.ref q13, .ref (F a 3), .ref (F a 5), .ref (F a 9)]) (rest := []) S (c_X1_addQuestions l E K F G (F a 11) q13 (F a 3) (F a 5) (F a 9) hk20 hk14 hk21 hk22 hk23) mv_X1_addQuestions km_X10_397 rfl rfl ⟨Nat.le_of_ble_eq_true rfl, Nat.le_of_ble_eq_true rfl⟩ (rc_3 hK hT hk20) hK (fun _ => XP.blind) (fun U hU hW => XP.at hK hz hS hT hU hW) rfl hl.1 (Nat.le_of_ble_eq_true rfl) dX10_holdsOnPaper_62 ⟨Nat.le_of_ble_eq_true rfl, Nat.le_of_ble_eq_true rfl⟩) hS ?_
          rintro _ H locs - hT hS
          refine lv_aload_n hx hb dX10_holdsOnPaper_65 rfl (lv_at hl 1 rfl) ?_
          refine gX10_9 S hK hT ha kf_X10_61 dX10_holdsOnPaper_66 (fun hk24 => ?_)
          refine x_clp (x_runV (b := (F a 9)) (As := []) (rest := []) S (c_X4_firstFailing l E K F G H (F a 9) hk24) mv_X4_firstFailing km_X10_244 rfl rfl ⟨Nat.le_of_ble_eq_true rfl, Nat.le_of_ble_eq_true rfl⟩ (rc_6 hK hT hk24) hK (fun _ => XPh.blind) (fun U hU hW => XPh.at hK hz hS hT hU hW) rfl hl.1 (Nat.le_of_ble_eq_true rfl) dX10_holdsOnPaper_69 ⟨Nat.le_of_ble_eq_true rfl, Nat.le_of_ble_eq_true rfl⟩) hS ?_
          rintro _ _ locs ⟨x25, rfl⟩ hS
          refine lv_iconst (v := (-1)) hx hb dX10_holdsOnPaper_72 (by decide) ?_
          refine xi_ceq (tgt := 78) hx hb (rfl : Int32.toInt x25 = x25.toInt) ((by decide) : Int32.toInt (-1) = (-1 : Int)) dX10_holdsOnPaper_73 (by decide) (fun c26 => ?_) (fun c26 => ?_)
          · refine xi_iinc (n := 1) (lv' := fun z9 => [(3, .int z9), (4, .ref q13), (0, .ref a)]) (k := 2) hx hb (rfl : Int32.toInt x3 = x3.toInt) (by decide) dX10_holdsOnPaper_78 hl rfl (by decide) (fun _ => rfl) (fun x27 ls t28 hl => ?_)
            have hl : lv_has ls 5 [(3, .int x27), (4, .ref q13), (0, .ref a)] := hl
            refine lv_goto (tgt := 18) hx hb dX10_holdsOnPaper_81 (by decide) ?_
            exact ih7 x27 _ _ _ (z_X10_holdsOnPaper_4 x27.toInt x3.toInt x9.toInt N4 hf5 hm6 c10 t28 (xr x27) (xr x3) (xr x9)) (z_X10_holdsOnPaper_5 x27.toInt x3.toInt x9.toInt N4 hf5 hm6 c10 t28 (xr x27) (xr x3) (xr x9)) hT.nil hS (lv_sub hl [2, 0] rfl)
          · refine lv_iconst (v := 0) hx hb dX10_holdsOnPaper_76 (by decide) ?_
            exact x_rz hx hb hr (xnz (Or.inl rfl)) hlk hQ (Nat.le_of_ble_eq_true rfl) (Nat.le_of_ble_eq_true rfl) hS dX10_holdsOnPaper_77 () ⟨_, rfl, (Or.inl rfl)⟩ hT.nil
  exact L18 4294967297 0 _ _ _ (by decide) (by decide) hT.nil hS (lv_sub hl [1, 0] rfl)
