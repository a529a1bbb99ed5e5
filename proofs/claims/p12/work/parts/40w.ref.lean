theorem z_X11_whyNotSet_1 (a0 : Int) (a1 : Int) (h0 : (a1 = 1 ∧ 0 ≤ a0 ∧ a0 ≤ 2) ∨ (a1 = 0 ∧ (a0 < 0 ∨ 2 < a0))) (h1 : ¬ (a1 = 0)) : 0 ≤ a0 ∧ a0 < 3 := by omega
theorem z_X11_whyNotSet_2 (a0 : Int) (a1 : Int) (h0 : (a1 = 1 ∧ 0 ≤ a0 ∧ a0 ≤ 29) ∨ (a1 = 0 ∧ (a0 < 0 ∨ 29 < a0))) (h1 : ¬ (a1 = 0)) : 0 ≤ a0 ∧ a0 < 30 := by omega
theorem z_X11_whyNotSet_4 (a0 : Int) (a1 : Int) (h0 : (a1 = 1 ∧ (a0 = -1000 ∨ (-99 ≤ a0 ∧ a0 < 100))) ∨ (a1 = 0 ∧ a0 ≠ -1000 ∧ (a0 < -99 ∨ 100 ≤ a0))) (h1 : a1 ≠ 0) : a0 = -1000 ∨ (-99 ≤ a0 ∧ a0 ≤ 99) := by omega
theorem z_X11_whyNotSet_5 (a0 : Int) (a1 : Int) (a2 : Int) (a3 : Int) (a4 : Int) (a5 : Int) (h0 : 0 ≤ a0 ∧ a0 < 3) (h1 : 0 ≤ a1 ∧ a1 < 30) (h2 : 0 ≤ a2 ∧ a2 < 3) (h3 : 0 ≤ a0 ∧ a0 ≤ 2 ∧ 0 ≤ a1 ∧ a1 ≤ 29 → a3 = 4 * (30 * a0 + a1)) (h4 : a4 = a3 + (1 : Int) ∨ a3 + (1 : Int) < -2147483648 ∨ 2147483648 ≤ a3 + (1 : Int)) (h5 : a5 = a4 + a2 ∨ a4 + a2 < -2147483648 ∨ 2147483648 ≤ a4 + a2) : 0 ≤ a5 ∧ a5 < ((360 : Nat) : Int) := by omega
theorem z_X11_whyNotSet_6 (a0 : Int) (a1 : Int) (a2 : Int) (a3 : Int) (a4 : Int) (a5 : Int) (h0 : 0 ≤ a0 ∧ a0 < 3) (h1 : 0 ≤ a1 ∧ a1 < 30) (h2 : 0 ≤ a2 ∧ a2 < 3) (h3 : 0 ≤ a0 ∧ a0 ≤ 2 ∧ 0 ≤ a1 ∧ a1 ≤ 29 → a3 = 4 * (30 * a0 + a1)) (h4 : a4 = a3 + (1 : Int) ∨ a3 + (1 : Int) < -2147483648 ∨ 2147483648 ≤ a3 + (1 : Int)) (h5 : a5 = a4 + a2 ∨ a4 + a2 < -2147483648 ∨ 2147483648 ≤ a4 + a2) : a5 = 0 + 4 * (30 * a0 + a1) + 1 + a2 := by omega
theorem z_X11_whyNotSet_7 (a0 : Int) (a1 : Int) (a2 : Int) (h0 : 0 ≤ a0 ∧ a0 < 3) (h1 : 0 ≤ a1 ∧ a1 < 30) (h2 : 0 ≤ a2 ∧ a2 < 3) : 0 ≤ a0 ∧ a0 < 3 ∧ 0 ≤ a1 ∧ a1 < 30 ∧ 0 ≤ a2 ∧ a2 < 3 := by omega
abbrev rm_X11_whyNotSet : Room := { frames := 3, cells := 0, slots := 0, locals := 67 }
set_option maxHeartbeats 4000000 in
set_option maxRecDepth 100000 in
theorem c_X11_whyNotSet (l : Launch) (E : XE) (K : Nat → Nat) (F : Nat → Nat → Nat) (G : XG) (h0 : Heap) (a : Nat) (p0 : Int32) (p1 : Int32) (p2 : Int32) (p3 : Int32) (ha : K a = 13) (hM : RM (G.2.1 (F a 1)) 0) : Met l yX11_whyNotSet (xw yX11_whyNotSet cX11_whyNotSet 5 (some .int)) rm_X11_whyNotSet (va_Pc [.ref a, .int p0, .int p1, .int p2, .int p3] (XPh E K F G h0)) (XQ E (fun v (u : Unit) => ∃ r : Int32, v = .int r ∧ (r.toInt = whyS (mw (G.2.1 (F a 1)) 0) p0.toInt p1.toInt p2.toInt p3.toInt)) (fun _ H => H = h0)) 0 0 (xA E) := by
  refine x_enter (by decide) (Nat.le_of_ble_eq_true rfl) ?_
  intro p e s m args below meth c Q S hr hlk hnm hQ hP ls hl
  obtain ⟨⟨hz, hK, hT⟩, hh⟩ := hP
  obtain ⟨hx, hb, -, -, -⟩ := id S
  have hS : va_S (xA E) s.heap s.heap [] := va_S.rf
  have hl : lv_has ls 5 [(0, .ref a), (1, .int p0), (2, .int p1), (3, .int p2), (4, .int p3)] := hl
  obtain ⟨hk9999, hj9999⟩ := fkX11_1 hT ha
  refine lv_iload_n hx hb dX11_whyNotSet_0 rfl (lv_at hl 1 rfl) ?_
  refine x_clp (x_runS (As := [.int p0]) (rest := []) S (c_X11_isTable l E K F G s.heap p0) ms_X11_isTable km_X11_149 rfl rfl ⟨Nat.le_of_ble_eq_true rfl, Nat.le_of_ble_eq_true rfl⟩ hK (fun _ => XPh.blind) (fun U hU hW => XPh.at hK hz hS hT hU hW) rfl hl.1 (Nat.le_of_ble_eq_true rfl) dX11_whyNotSet_1 ⟨Nat.le_of_ble_eq_true rfl, Nat.le_of_ble_eq_true rfl⟩) hS ?_
  rintro _ _ locs ⟨x1, rfl, b1, t1⟩ hS
  have t1 : (x1.toInt = 1 ∧ 0 ≤ p0.toInt ∧ p0.toInt ≤ 2) ∨ (x1.toInt = 0 ∧ (p0.toInt < 0 ∨ 2 < p0.toInt)) := t1
  refine xi_zeq (tgt := 29) hx hb (rfl : Int32.toInt x1 = x1.toInt) dX11_whyNotSet_4 (by decide) (fun c4 => ?_) (fun c4 => ?_)
  · refine lv_iconst (v := (-1)) hx hb dX11_whyNotSet_29 (by decide) ?_
    exact x_ri hx hb hr hlk hQ (Nat.le_of_ble_eq_true rfl) (Nat.le_of_ble_eq_true rfl) hS dX11_whyNotSet_30 () ⟨_, rfl, (by rw [((by decide) : Int32.toInt (-1) = (-1 : Int))] <;> exact (v_X11_whyNotSet_30_1 (K := K) (F := F) a G x1 p0 p1 p2 p3 ha t1 c4))⟩ hh
  · refine lv_iload_n hx hb dX11_whyNotSet_7 rfl (lv_at hl 2 rfl) ?_
    refine x_clp (x_runS (As := [.int p1]) (rest := []) S (c_X11_isKey l E K F G s.heap p1) ms_X11_isKey km_X11_153 rfl rfl ⟨Nat.le_of_ble_eq_true rfl, Nat.le_of_ble_eq_true rfl⟩ hK (fun _ => XPh.blind) (fun U hU hW => XPh.at hK hz hS hT hU hW) rfl hl.1 (Nat.le_of_ble_eq_true rfl) dX11_whyNotSet_8 ⟨Nat.le_of_ble_eq_true rfl, Nat.le_of_ble_eq_true rfl⟩) hS ?_
    rintro _ _ locs ⟨x8, rfl, b8, t8⟩ hS
    have t8 : (x8.toInt = 1 ∧ 0 ≤ p1.toInt ∧ p1.toInt ≤ 29) ∨ (x8.toInt = 0 ∧ (p1.toInt < 0 ∨ 29 < p1.toInt)) := t8
    refine xi_zeq (tgt := 29) hx hb (rfl : Int32.toInt x8 = x8.toInt) dX11_whyNotSet_11 (by decide) (fun c11 => ?_) (fun c11 => ?_)
    · refine lv_iconst (v := (-1)) hx hb dX11_whyNotSet_29 (by decide) ?_
      exact x_ri hx hb hr hlk hQ (Nat.le_of_ble_eq_true rfl) (Nat.le_of_ble_eq_true rfl) hS dX11_whyNotSet_30 () ⟨_, rfl, (by rw [((by decide) : Int32.toInt (-1) = (-1 : Int))] <;> exact (v_X11_whyNotSet_30_2 (K := K) (F := F) a G x1 p0 x8 p1 p2 p3 ha t1 c4 t8 c11))⟩ hh
    · refine lv_iload_n hx hb dX11_whyNotSet_14 rfl (lv_at hl 3 rfl) ?_
      refine x_clp (x_runS (As := [.int p2]) (rest := []) S (c_X11_isColumn l E K F G s.heap p2) ms_X11_isColumn km_X11_356 rfl rfl ⟨Nat.le_of_ble_eq_true rfl, Nat.le_of_ble_eq_true rfl⟩ hK (fun _ => XPh.blind) (fun U hU hW => XPh.at hK hz hS hT hU hW) rfl hl.1 (Nat.le_of_ble_eq_true rfl) dX11_whyNotSet_15 ⟨Nat.le_of_ble_eq_true rfl, Nat.le_of_ble_eq_true rfl⟩) hS ?_
      rintro _ _ locs ⟨x15, rfl, b15, t15⟩ hS
      have t15 : (x15.toInt = 1 ∧ 0 ≤ p2.toInt ∧ p2.toInt ≤ 2) ∨ (x15.toInt = 0 ∧ (p2.toInt < 0 ∨ 2 < p2.toInt)) := t15
      refine xi_zeq (tgt := 29) hx hb (rfl : Int32.toInt x15 = x15.toInt) dX11_whyNotSet_18 (by decide) (fun c18 => ?_) (fun c18 => ?_)
      · refine lv_iconst (v := (-1)) hx hb dX11_whyNotSet_29 (by decide) ?_
        exact x_ri hx hb hr hlk hQ (Nat.le_of_ble_eq_true rfl) (Nat.le_of_ble_eq_true rfl) hS dX11_whyNotSet_30 () ⟨_, rfl, (by rw [((by decide) : Int32.toInt (-1) = (-1 : Int))] <;> exact (v_X11_whyNotSet_30_3 (K := K) (F := F) a G x1 p0 x8 p1 x15 p2 p3 ha t1 c4 t8 c11 t15 c18))⟩ hh
      · refine lv_iload hx hb dX11_whyNotSet_21 (lv_at hl 4 rfl) ?_
        refine x_clp (x_runS (As := [.int p3]) (rest := []) S (c_X11_isValue l E K F G s.heap p3) ms_X11_isValue km_X11_343 rfl rfl ⟨Nat.le_of_ble_eq_true rfl, Nat.le_of_ble_eq_true rfl⟩ hK (fun _ => XPh.blind) (fun U hU hW => XPh.at hK hz hS hT hU hW) rfl hl.1 (Nat.le_of_ble_eq_true rfl) dX11_whyNotSet_23 ⟨Nat.le_of_ble_eq_true rfl, Nat.le_of_ble_eq_true rfl⟩) hS ?_
        rintro _ _ locs ⟨x23, rfl, b23, t23⟩ hS
        have t23 : (x23.toInt = 1 ∧ (p3.toInt = -1000 ∨ (-99 ≤ p3.toInt ∧ p3.toInt < 100))) ∨ (x23.toInt = 0 ∧ p3.toInt ≠ -1000 ∧ (p3.toInt < -99 ∨ 100 ≤ p3.toInt)) := t23
        refine xi_zne (tgt := 31) hx hb (rfl : Int32.toInt x23 = x23.toInt) dX11_whyNotSet_26 (by decide) (fun c26 => ?_) (fun c26 => ?_)
        · have z31 : 0 ≤ p0.toInt ∧ p0.toInt < 3 := (z_X11_whyNotSet_1 p0.toInt x1.toInt t1 c4)
          have z31a : 0 ≤ p1.toInt ∧ p1.toInt < 30 := (z_X11_whyNotSet_2 p1.toInt x8.toInt t8 c11)
          have z31b : 0 ≤ p2.toInt ∧ p2.toInt < 3 := (z_X11_whyNotSet_1 p2.toInt x15.toInt t15 c18)
          have z31c : p3.toInt = -1000 ∨ (-99 ≤ p3.toInt ∧ p3.toInt ≤ 99) := (z_X11_whyNotSet_4 p3.toInt x23.toInt t23 c26)
          refine lv_aload_n hx hb dX11_whyNotSet_31 rfl (lv_at hl 0 rfl) ?_
          refine lv_iload_n hx hb dX11_whyNotSet_32 rfl (lv_at hl 1 rfl) ?_
          refine lv_iload_n hx hb dX11_whyNotSet_33 rfl (lv_at hl 2 rfl) ?_
          refine x_clp (x_runV (b := a) (As := [.int p0, .int p1]) (rest := []) S (c_X11_isRow l E K F G s.heap a p0 p1 ha (v_X11_whyNotSet_34_4 (F := F) a G hM)) mv_X11_isRow km_X11_346 rfl rfl ⟨Nat.le_of_ble_eq_true rfl, Nat.le_of_ble_eq_true rfl⟩ (rc_13 hK hT ha) hK (fun _ => XPh.blind) (fun U hU hW => XPh.at hK hz hS hT hU hW) rfl hl.1 (Nat.le_of_ble_eq_true rfl) dX11_whyNotSet_34 ⟨Nat.le_of_ble_eq_true rfl, Nat.le_of_ble_eq_true rfl⟩) hS ?_
          rintro _ _ locs ⟨x34, rfl, b34, t34⟩ hS
          have t34 : (x34.toInt = 1 ∧ (cel (mw (G.2.1 (F a 1)) 0) (p0.toInt) (p1.toInt) 0) ≠ -2000) ∨ (x34.toInt = 0 ∧ (cel (mw (G.2.1 (F a 1)) 0) (p0.toInt) (p1.toInt) 0) = -2000) := t34
          refine xi_zne (tgt := 43) hx hb (rfl : Int32.toInt x34 = x34.toInt) dX11_whyNotSet_37 (by decide) (fun c37 => ?_) (fun c37 => ?_)
          · refine lv_aload_n hx hb dX11_whyNotSet_43 rfl (lv_at hl 0 rfl) ?_
            refine gX11_1 S hK hT ha kf_X11_9 dX11_whyNotSet_44 (fun _ _ => ?_)
            refine lv_iload_n hx hb dX11_whyNotSet_47 rfl (lv_at hl 1 rfl) ?_
            refine lv_iload_n hx hb dX11_whyNotSet_48 rfl (lv_at hl 2 rfl) ?_
            refine x_clp (x_runS (As := [.int p0, .int p1]) (rest := [.ref (F a 1)]) S (c_X11_at l E K F G s.heap p0 p1) ms_X11_at km_X11_156 rfl rfl ⟨Nat.le_of_ble_eq_true rfl, Nat.le_of_ble_eq_true rfl⟩ hK (fun _ => XPh.blind) (fun U hU hW => XPh.at hK hz hS hT hU hW) rfl hl.1 (Nat.le_of_ble_eq_true rfl) dX11_whyNotSet_49 ⟨Nat.le_of_ble_eq_true rfl, Nat.le_of_ble_eq_true rfl⟩) hS ?_
            rintro _ _ locs ⟨x49, rfl, t49⟩ hS
            have t49 : 0 ≤ p0.toInt ∧ p0.toInt ≤ 2 ∧ 0 ≤ p1.toInt ∧ p1.toInt ≤ 29 → x49.toInt = 4 * (30 * p0.toInt + p1.toInt) := t49
            refine lv_iconst (v := 1) hx hb dX11_whyNotSet_52 (by decide) ?_
            refine xi_iadd hx hb (rfl : Int32.toInt x49 = x49.toInt) ((by decide) : Int32.toInt 1 = (1 : Int)) dX11_whyNotSet_53 (fun x53 t53 => ?_)
            refine lv_iload_n hx hb dX11_whyNotSet_54 rfl (lv_at hl 3 rfl) ?_
            refine xi_iadd hx hb (rfl : Int32.toInt x53 = x53.toInt) (rfl : Int32.toInt p2 = p2.toInt) dX11_whyNotSet_55 (fun x55 t55 => ?_)
            refine al_0 S hK hT hk9999 ar_30 (by decide) (z_X11_whyNotSet_5 p0.toInt p1.toInt p2.toInt x49.toInt x53.toInt x55.toInt z31 z31a z31b t49 t53 t55) dX11_whyNotSet_56 (fun x56 hv56 o56 => ?_)
            have hv56 : x56.toInt = (aI (G.2.1 (F a 1)) (0 + 4 * (30 * p0.toInt + p1.toInt) + 1 + p2.toInt)) := hv56.trans (by rw [((rfl : Int32.toInt x55 = x55.toInt).trans (z_X11_whyNotSet_6 p0.toInt p1.toInt p2.toInt x49.toInt x53.toInt x55.toInt z31 z31a z31b t49 t53 t55))])
            have z57 : ((aI (G.2.1 (F a 1)) (0 + 4 * (30 * p0.toInt + p1.toInt))) = 0 ∧ (cel (mw (G.2.1 (F a 1)) 0) (p0.toInt) (p1.toInt) (p2.toInt)) = -2000) ∨ ((aI (G.2.1 (F a 1)) (0 + 4 * (30 * p0.toInt + p1.toInt))) = 1 ∧ (cel (mw (G.2.1 (F a 1)) 0) (p0.toInt) (p1.toInt) (p2.toInt)) = (aI (G.2.1 (F a 1)) (0 + 4 * (30 * p0.toInt + p1.toInt) + 1 + p2.toInt))) := (hM.okc (z_X11_whyNotSet_7 p0.toInt p1.toInt p2.toInt z31 z31a z31b)).imp id (fun h => ⟨h.1, h.2.1⟩)
            refine lv_iload hx hb dX11_whyNotSet_57 (lv_at hl 4 rfl) ?_
            refine xi_cne (tgt := 67) hx hb (hv56 : Int32.toInt x56 = (aI (G.2.1 (F a 1)) (0 + 4 * (30 * p0.toInt + p1.toInt) + 1 + p2.toInt))) (rfl : Int32.toInt p3 = p3.toInt) dX11_whyNotSet_59 (by decide) (fun c59 => ?_) (fun c59 => ?_)
            · refine lv_iconst (v := 0) hx hb dX11_whyNotSet_67 (by decide) ?_
              exact x_ri hx hb hr hlk hQ (Nat.le_of_ble_eq_true rfl) (Nat.le_of_ble_eq_true rfl) hS dX11_whyNotSet_68 () ⟨_, rfl, (v_X11_whyNotSet_68_5 (F := F) G a p0 p1 p2 p3 x34 hM z31 z31a z31b z31c t34 c37 z57 c59)⟩ hh
            · refine lv_bipush (v := (-4)) hx hb dX11_whyNotSet_62 (by decide) ?_
              refine lv_goto (tgt := 68) hx hb dX11_whyNotSet_64 (by decide) ?_
              exact x_ri hx hb hr hlk hQ (Nat.le_of_ble_eq_true rfl) (Nat.le_of_ble_eq_true rfl) hS dX11_whyNotSet_68 () ⟨_, rfl, (by rw [((by decide) : Int32.toInt (-4) = (-4 : Int))] <;> exact (v_X11_whyNotSet_68_6 (F := F) G a p0 p1 p2 p3 x34 hM z31 z31a z31b z31c t34 c37 z57 c59))⟩ hh
          · refine lv_bipush (v := (-2)) hx hb dX11_whyNotSet_40 (by decide) ?_
            exact x_ri hx hb hr hlk hQ (Nat.le_of_ble_eq_true rfl) (Nat.le_of_ble_eq_true rfl) hS dX11_whyNotSet_42 () ⟨_, rfl, (by rw [((by decide) : Int32.toInt (-2) = (-2 : Int))] <;> exact (v_X11_whyNotSet_42_7 (F := F) p0 p1 p2 p3 x34 G a z31 z31a z31b z31c t34 c37))⟩ hh
        · refine lv_iconst (v := (-1)) hx hb dX11_whyNotSet_29 (by decide) ?_
          exact x_ri hx hb hr hlk hQ (Nat.le_of_ble_eq_true rfl) (Nat.le_of_ble_eq_true rfl) hS dX11_whyNotSet_30 () ⟨_, rfl, (by rw [((by decide) : Int32.toInt (-1) = (-1 : Int))] <;> exact (v_X11_whyNotSet_30_8 (K := K) (F := F) a G x1 p0 x8 p1 x15 p2 x23 p3 ha t1 c4 t8 c11 t15 c18 t23 c26))⟩ hh

theorem z_X11_set_1 (a0 : Int) (a1 : Int) (a2 : Int) (a3 : Int) (a4 : Int) (a5 : Int) (h0 : 0 ≤ a0) (h1 : a0 < 3) (h2 : 0 ≤ a1) (h3 : a1 < 30) (h4 : 0 ≤ a2) (h5 : a2 < 3) (h6 : 0 ≤ a0 ∧ a0 ≤ 2 ∧ 0 ≤ a1 ∧ a1 ≤ 29 → a3 = 4 * (30 * a0 + a1)) (h7 : a4 = a3 + (1 : Int) ∨ a3 + (1 : Int) < -2147483648 ∨ 2147483648 ≤ a3 + (1 : Int)) (h8 : a5 = a4 + a2 ∨ a4 + a2 < -2147483648 ∨ 2147483648 ≤ a4 + a2) : 0 ≤ a5 ∧ a5 < ((360 : Nat) : Int) := by omega
theorem z_X11_set_2 (a0 : Int) (a1 : Int) (a2 : Int) (h0 : a0 = -2147483648 ∧ a1 = -2147483648 ∧ a2 = 0) : 0 ≤ a2 ∧ a2 ≤ 24 := by omega
theorem z_X11_set_5 (a0 : Int) (a1 : Int) (a2 : Int) (a3 : Int) (h0 : 0 ≤ a0 ∧ a0 ≤ 2388) (h1 : a1 = -2147483648 ∧ a2 = -2147483648 ∧ a3 = 0) : (0 ≤ a3 ∧ a3 ≤ 24) ∧ (0 ≤ a0 ∧ a0 ≤ 2388) := by omega
abbrev rm_X11_set : Room := { frames := 8, cells := 0, slots := 0, locals := 186 }
set_option maxHeartbeats 4000000 in
set_option maxRecDepth 100000 in
theorem c_X11_set (l : Launch) (E : XE) (K : Nat → Nat) (F : Nat → Nat → Nat) (G : XG) (a : Nat) (p0 : Int32) (p1 : Int32) (p2 : Int32) (p3 : Int32) (ha : K a = 13) (am : 0 ≤ ((G.1 a 43).toInt) ∧ ((G.1 a 43).toInt) ≤ 2388) (hR : RV (G.2.1 (F a 10))) (hM : RM (G.2.1 (F a 1)) (0)) (hB : RM (G.2.1 (F a 2)) 0) : Met l yX11_set (xw yX11_set cX11_set 6 (some .int)) rm_X11_set (va_Pc [.ref a, .int p0, .int p1, .int p2, .int p3] (XP E K F G)) (XQ E (fun v (u : XG) => ∃ r : Int32, v = .int r ∧ XFr [(a, 16), (a, 19), (a, 20), (a, 21), (a, 23), (a, 45), (a, 46), (a, 43), (a, 44), (a, 0)] [F a 15, F a 17, F a 18, F a 1, F a 8, F a 22, F a 11, F a 13, F a 9, F a 41, F a 42, F a 4, F a 12] [] G u ∧ ((0 ≤ ((u.1 a 23).toInt) ∧ ((u.1 a 23).toInt) ≤ 24) ∧ (0 ≤ ((u.1 a 43).toInt) ∧ ((u.1 a 43).toInt) ≤ 2388)) ∧ ((whyS (mw (G.2.1 (F a 1)) 0) p0.toInt p1.toInt p2.toInt p3.toInt ≠ 0 ∧ r.toInt = whyS (mw (G.2.1 (F a 1)) 0) p0.toInt p1.toInt p2.toInt p3.toInt ∧ mw (u.2.1 (F a 1)) 0 = (mw (G.2.1 (F a 1)) 0)) ∨ (whyS (mw (G.2.1 (F a 1)) 0) p0.toInt p1.toInt p2.toInt p3.toInt = 0 ∧ StR ((G.1 a 6).toInt) r.toInt (G.2.1 (F a 10)) (mw (G.2.1 (F a 1)) 0) (rset (mw (G.2.1 (F a 1)) 0) (90 * p0.toInt + 30 * p2.toInt + p1.toInt) p3.toInt) (mw (u.2.1 (F a 1)) 0))) ∧ (RM (u.2.1 (F a 1)) 0)) (fun u H => TW E K F u H)) 0 0 (xA E) := by
  refine x_enter (by decide) (Nat.le_of_ble_eq_true rfl) ?_
  intro p e s m args below meth c Q S hr hlk hnm hQ hP ls hl
  obtain ⟨hz, hK, hT⟩ := hP
  obtain ⟨hx, hb, -, -, -⟩ := id S
  obtain ⟨H, hT, hS, hgo⟩ : ∃ H : Heap, TW E K F G H ∧ va_S (xA E) s.heap H [] ∧ H = s.heap := ⟨_, hT, va_S.rf, rfl⟩
  rw [← hgo]
  have hl : lv_has ls 6 [(0, .ref a), (1, .int p0), (2, .int p1), (3, .int p2), (4, .int p3)] := hl
  obtain ⟨hk9999, hj9999⟩ := fkX11_15 hT ha
  obtain ⟨hk9999a, hj9999a⟩ := fkX11_17 hT ha
  obtain ⟨hk9999b, hj9999b⟩ := fkX11_18 hT ha
  obtain ⟨hk9999c, hj9999c⟩ := fkX11_1 hT ha
  obtain ⟨hk9999d, hj9999d⟩ := fkX11_8 hT ha
  obtain ⟨hk9999e, hj9999e⟩ := fkX11_22 hT ha
  obtain ⟨hk9999f, hj9999f⟩ := fkX11_11 hT ha
  obtain ⟨hk9999g, hj9999g⟩ := fkX11_13 hT ha
  obtain ⟨hk9999h, hj9999h⟩ := fkX11_9 hT ha
  obtain ⟨hk9999i, hj9999i⟩ := fkX11_41 hT ha
  obtain ⟨hk9999j, hj9999j⟩ := fkX11_42 hT ha
  obtain ⟨hk9999k, hj9999k⟩ := fkX11_4 hT ha
  obtain ⟨hk9999l, hj9999l⟩ := fkX11_12 hT ha
  obtain ⟨hk9999m, hj9999m⟩ := fkX11_10 hT ha
  obtain ⟨hk9999n, hj9999n⟩ := fkX11_2 hT ha
  refine lv_aload_n hx hb dX11_set_0 rfl (lv_at hl 0 rfl) ?_
  refine lv_iconst (v := 0) hx hb dX11_set_1 (by decide) ?_
  refine pX11_0 (v := 0) S hK hT hS ha kf_X11_134 dX11_set_2 (fun H locs hT hS => ?_)
  obtain ⟨G2, hG2⟩ : ∃ GG : XG, GG = dput G a 0 0 := ⟨_, rfl⟩
  rw [← hG2] at hT
  refine lv_aload_n hx hb dX11_set_5 rfl (lv_at hl 0 rfl) ?_
  refine x_cv0 (x_runV (b := a) (As := []) (rest := []) S (c_X11_nothing l E K F G2 a ha) mv_X11_nothing km_X11_231 rfl rfl ⟨Nat.le_of_ble_eq_true rfl, Nat.le_of_ble_eq_true rfl⟩ (rc_13 hK hT ha) hK (fun _ => XP.blind) (fun U hU hW => XP.at hK hz hS hT hU hW) rfl hl.1 (Nat.le_of_ble_eq_true rfl) dX11_set_6 ⟨Nat.le_of_ble_eq_true rfl, Nat.le_of_ble_eq_true rfl⟩) hS ?_
  rintro G6 H locs ⟨hF6, t6⟩ hT hS
  have t6 : ((G6.1 a 20).toInt) = -2147483648 ∧ ((G6.1 a 21).toInt) = -2147483648 ∧ ((G6.1 a 23).toInt) = 0 := t6
  refine lv_aload_n hx hb dX11_set_9 rfl (lv_at hl 0 rfl) ?_
  refine lv_iload_n hx hb dX11_set_10 rfl (lv_at hl 1 rfl) ?_
  refine lv_iload_n hx hb dX11_set_11 rfl (lv_at hl 2 rfl) ?_
  refine lv_iload_n hx hb dX11_set_12 rfl (lv_at hl 3 rfl) ?_
  refine lv_iload hx hb dX11_set_13 (lv_at hl 4 rfl) ?_
  refine x_clp (x_runV (b := a) (As := [.int p0, .int p1, .int p2, .int p3]) (rest := []) S (c_X11_whyNotSet l E K F G6 H a p0 p1 p2 p3 ha (v_X11_set_15_1 (F := F) a G G6 hM hB ((hF6.2.1 _ xn0).trans (ld_c hG2)))) mv_X11_whyNotSet km_X11_359 rfl rfl ⟨Nat.le_of_ble_eq_true rfl, Nat.le_of_ble_eq_true rfl⟩ (rc_13 hK hT ha) hK (fun _ => XPh.blind) (fun U hU hW => XPh.at hK hz hS hT hU hW) rfl hl.1 (Nat.le_of_ble_eq_true rfl) dX11_set_15 ⟨Nat.le_of_ble_eq_true rfl, Nat.le_of_ble_eq_true rfl⟩) hS ?_
  rintro _ _ locs ⟨x15, rfl, oq15⟩ hS
  have oq15 : x15.toInt = whyS (mw (G.2.1 (F a 1)) 0) p0.toInt p1.toInt p2.toInt p3.toInt := by simp only [(show G6.2.1 (F a 1) = G.2.1 (F a 1) from ((hF6.2.1 _ xn0).trans (ld_c hG2)))] at oq15; exact oq15
  refine lv_istore (lv' := [(5, .int x15), (0, .ref a), (1, .int p0), (2, .int p1), (3, .int p2), (4, .int p3)]) hx hb dX11_set_18 hl (by decide) rfl (fun ls hl => ?_)
  refine lv_iload hx hb dX11_set_20 (lv_at hl 0 rfl) ?_
  refine xi_zeq (tgt := 32) hx hb (rfl : Int32.toInt x15 = x15.toInt) dX11_set_22 (by decide) (fun c22 => ?_) (fun c22 => ?_)
  · have z32 : 0 ≤ p0.toInt ∧ p0.toInt < 3 ∧ 0 ≤ p1.toInt ∧ p1.toInt < 30 ∧ 0 ≤ p2.toInt ∧ p2.toInt < 3 ∧ (p3.toInt = -1000 ∨ (-99 ≤ p3.toInt ∧ p3.toInt ≤ 99)) := (whyS_0 (oq15.symm.trans c22)).1
    refine lv_aload_n hx hb dX11_set_32 rfl (lv_at hl 1 rfl) ?_
    refine x_cv0 (x_runV (b := a) (As := []) (rest := []) S (c_X11_start l E K F G6 a ha (v_X11_set_33_2 (F := F) a G G6 hR ((hF6.2.1 _ xn0).trans (ld_c hG2))) (v_X11_set_33_3 (F := F) a G G6 hM hB ((hF6.2.1 _ xn0).trans (ld_c hG2)))) mv_X11_start km_X11_350 rfl rfl ⟨Nat.le_of_ble_eq_true rfl, Nat.le_of_ble_eq_true rfl⟩ (rc_13 hK hT ha) hK (fun _ => XP.blind) (fun U hU hW => XP.at hK hz hS hT hU hW) rfl hl.1 (Nat.le_of_ble_eq_true rfl) dX11_set_33 ⟨Nat.le_of_ble_eq_true rfl, Nat.le_of_ble_eq_true rfl⟩) hS ?_
    rintro G33 H locs ⟨hF33, oq33, oq33a, oq33b⟩ hT hS
    have oq33 : mw (G33.2.1 (F a 4)) 0 = mw (G.2.1 (F a 1)) 0 := by simp only [(show G6.2.1 (F a 1) = G.2.1 (F a 1) from ((hF6.2.1 _ xn0).trans (ld_c hG2)))] at oq33; exact oq33
    have oq33b : LSt (G.2.1 (F a 10)) (G33.2.1 (F a 12)) (mw (G.2.1 (F a 1)) 0) 12 := by simp only [(show G6.2.1 (F a 10) = G.2.1 (F a 10) from ((hF6.2.1 _ xn0).trans (ld_c hG2))), (show G6.2.1 (F a 1) = G.2.1 (F a 1) from ((hF6.2.1 _ xn0).trans (ld_c hG2)))] at oq33b; exact oq33b
    refine lv_aload_n hx hb dX11_set_36 rfl (lv_at hl 1 rfl) ?_
    refine gX11_1 S hK hT ha kf_X11_9 dX11_set_37 (fun _ _ => ?_)
    refine lv_iload_n hx hb dX11_set_40 rfl (lv_at hl 2 rfl) ?_
    refine lv_iload_n hx hb dX11_set_41 rfl (lv_at hl 3 rfl) ?_
    refine x_clp (x_runS (As := [.int p0, .int p1]) (rest := [.ref (F a 1)]) S (c_X11_at l E K F G33 H p0 p1) ms_X11_at km_X11_156 rfl rfl ⟨Nat.le_of_ble_eq_true rfl, Nat.le_of_ble_eq_true rfl⟩ hK (fun _ => XPh.blind) (fun U hU hW => XPh.at hK hz hS hT hU hW) rfl hl.1 (Nat.le_of_ble_eq_true rfl) dX11_set_42 ⟨Nat.le_of_ble_eq_true rfl, Nat.le_of_ble_eq_true rfl⟩) hS ?_
    rintro _ _ locs ⟨x42, rfl, t42⟩ hS
    have t42 : 0 ≤ p0.toInt ∧ p0.toInt ≤ 2 ∧ 0 ≤ p1.toInt ∧ p1.toInt ≤ 29 → x42.toInt = 4 * (30 * p0.toInt + p1.toInt) := t42
    refine lv_iconst (v := 1) hx hb dX11_set_45 (by decide) ?_
    refine xi_iadd hx hb (rfl : Int32.toInt x42 = x42.toInt) ((by decide) : Int32.toInt 1 = (1 : Int)) dX11_set_46 (fun x46 t46 => ?_)
    refine lv_iload_n hx hb dX11_set_47 rfl (lv_at hl 4 rfl) ?_
    refine xi_iadd hx hb (rfl : Int32.toInt x46 = x46.toInt) (rfl : Int32.toInt p2 = p2.toInt) dX11_set_48 (fun x48 t48 => ?_)
    refine lv_iload hx hb dX11_set_49 (lv_at hl 5 rfl) ?_
    refine as_0 (x := p3) S hK hT hS hk9999c ar_30 aw_30 (by decide) (z_X11_set_1 p0.toInt p1.toInt p2.toInt x42.toInt x46.toInt x48.toInt (z32).1 (z32).2.1 (z32).2.2.1 (z32).2.2.2.1 (z32).2.2.2.2.1 (z32).2.2.2.2.2.1 t42 t46 t48) dX11_set_51 (fun H locs hT hS => ?_)
    obtain ⟨G51, hG51⟩ : ∃ GG : XG, GG = cput G33 (F a 1) x48.toNatClampNeg p3 := ⟨_, rfl⟩
    rw [← hG51] at hT
    refine lv_aload_n hx hb dX11_set_52 rfl (lv_at hl 1 rfl) ?_
    refine x_cl0 (x_runV (b := a) (As := []) (rest := []) S (c_X11_settles l E K F G51 a (mw (G.2.1 (F a 1)) 0) ha (by rw [(show (G51.1 a 23).toInt = ((G6.1 a 23).toInt) from (congrArg Int32.toInt ((lc_d hG51).trans (hF33.1 _ _ xn0))).trans (rfl : Int32.toInt (G6.1 a 23) = ((G6.1 a 23).toInt)))] <;> exact (z_X11_set_2 ((G6.1 a 20).toInt) ((G6.1 a 21).toInt) ((G6.1 a 23).toInt) t6)) (by rw [(show (G51.1 a 43).toInt = ((G.1 a 43).toInt) from (congrArg Int32.toInt ((lc_d hG51).trans ((hF33.1 _ _ xn0).trans ((hF6.1 _ _ (xnj (by decide) (xnj (by decide) (xnj (by decide) xn0)))).trans (ld_j hG2 (by decide)))))).trans (rfl : Int32.toInt (G.1 a 43) = ((G.1 a 43).toInt)))] <;> exact (am)) (v_X11_set_53_4 (F := F) a G G51 hR ((lc_c hG51 (xne_k hk9999m hk9999c (by decide))).trans ((hF33.2.1 _ (xn1 (xne_k hk9999m hk9999k (by decide)) (xn1 (xne_k hk9999m hk9999l (by decide)) xn0))).trans ((hF6.2.1 _ xn0).trans (ld_c hG2))))) (v_X11_set_53_5 (K := K) (F := F) a G G6 G33 G51 x48 p3 x15 p0 p1 p2 x42 x46 ha hG51 hM oq15 am t6 c22 z32 t42 t46 t48 ((hF33.2.1 _ (xn1 (xne_k hk9999c hk9999k (by decide)) (xn1 (xne_k hk9999c hk9999l (by decide)) xn0))).trans ((hF6.2.1 _ xn0).trans (ld_c hG2)))) (v_X11_set_53_6 (F := F) a G G33 G51 hM hB oq33a (lc_c hG51 (xne_k hk9999k hk9999c (by decide)))) (v_X11_set_53_7 (F := F) a G G33 G51 hM hB oq33a ((lc_c hG51 (xne_k hk9999n hk9999c (by decide))).trans ((hF33.2.1 _ (xn1 (xne_j hj9999n hj9999k (by first | decide | omega)) (xn1 (xne_k hk9999n hk9999l (by decide)) xn0))).trans ((hF6.2.1 _ xn0).trans (ld_c hG2))))) (v_X11_set_53_8 (F := F) a G G33 G51 oq33b ((lc_c hG51 (xne_k hk9999m hk9999c (by decide))).trans ((hF33.2.1 _ (xn1 (xne_k hk9999m hk9999k (by decide)) (xn1 (xne_k hk9999m hk9999l (by decide)) xn0))).trans ((hF6.2.1 _ xn0).trans (ld_c hG2)))) (lc_c hG51 (xne_k hk9999l hk9999c (by decide))))) mv_X11_settles km_X11_353 rfl rfl ⟨Nat.le_of_ble_eq_true rfl, Nat.le_of_ble_eq_true rfl⟩ (rc_13 hK hT ha) hK (fun _ => XP.blind) (fun U hU hW => XP.at hK hz hS hT hU hW) rfl hl.1 (Nat.le_of_ble_eq_true rfl) dX11_set_53 ⟨Nat.le_of_ble_eq_true rfl, Nat.le_of_ble_eq_true rfl⟩) hS ?_
    rintro _ G53 H locs ⟨x53, rfl, hF53, t53, oq53, oq53a⟩ hT hS
    have t53 : (0 ≤ ((G53.1 a 23).toInt) ∧ ((G53.1 a 23).toInt) ≤ 24) ∧ (0 ≤ ((G53.1 a 43).toInt) ∧ ((G53.1 a 43).toInt) ≤ 2388) := t53
    have oq53 : ((ffP (G.2.1 (F a 10)) (mw (G51.2.1 (F a 1)) 0) (fuO (G.2.1 (F a 10)) (mw (G.2.1 (F a 1)) 0) (mw (G51.2.1 (F a 1)) 0) 0) ≠ -1 ∨ (((G.1 a 6).toInt) = 0 ∧ ffP (G.2.1 (F a 10)) (mw (G51.2.1 (F a 1)) 0) (fuO (G.2.1 (F a 10)) (mw (G.2.1 (F a 1)) 0) (mw (G51.2.1 (F a 1)) 0) 1) ≠ -1)) ∧ x53.toInt = -5 ∧ mw (G53.2.1 (F a 1)) 0 = mw (G33.2.1 (F a 4)) 0) ∨ (ffP (G.2.1 (F a 10)) (mw (G51.2.1 (F a 1)) 0) (fuO (G.2.1 (F a 10)) (mw (G.2.1 (F a 1)) 0) (mw (G51.2.1 (F a 1)) 0) 0) = -1 ∧ (((G.1 a 6).toInt) = 0 → ffP (G.2.1 (F a 10)) (mw (G51.2.1 (F a 1)) 0) (fuO (G.2.1 (F a 10)) (mw (G.2.1 (F a 1)) 0) (mw (G51.2.1 (F a 1)) 0) 1) = -1) ∧ x53.toInt = (((fuO (G.2.1 (F a 10)) (mw (G.2.1 (F a 1)) 0) (mw (G51.2.1 (F a 1)) 0) 2).length : Nat) : Int) ∧ mw (G53.2.1 (F a 1)) 0 = mw (G51.2.1 (F a 1)) 0) := by simp only [(show G51.2.1 (F a 10) = G.2.1 (F a 10) from ((lc_c hG51 (xne_k hk9999m hk9999c (by decide))).trans ((hF33.2.1 _ (xn1 (xne_k hk9999m hk9999k (by decide)) (xn1 (xne_k hk9999m hk9999l (by decide)) xn0))).trans ((hF6.2.1 _ xn0).trans (ld_c hG2))))), (show G51.1 a 6 = G.1 a 6 from ((lc_d hG51).trans ((hF33.1 _ _ xn0).trans ((hF6.1 _ _ (xnj (by decide) (xnj (by decide) (xnj (by decide) xn0)))).trans (ld_j hG2 (by decide)))))), (show G51.2.1 (F a 4) = G33.2.1 (F a 4) from (lc_c hG51 (xne_k hk9999k hk9999c (by decide))))] at oq53; exact oq53
    exact x_ri hx hb hr hlk hQ (Nat.le_of_ble_eq_true rfl) (Nat.le_of_ble_eq_true rfl) hS dX11_set_56 G53 ⟨_, rfl, (XFr.call (by rw [hG51]; exact XFr.cput (XFr.call (XFr.call (by rw [hG2]; exact XFr.dput XFr.rf (List.mem_of_getElem? (i := 9) rfl)) hF6 (xm1 2 rfl (xm1 3 rfl (xm1 4 rfl xm0))) xm0 xm0) hF33 xm0 (xm1 11 rfl (xm1 12 rfl xm0)) xm0) (List.mem_of_getElem? (i := 3) rfl)) hF53 (xm1 0 rfl (xm1 1 rfl (xm1 2 rfl (xm1 3 rfl (xm1 4 rfl (xm1 5 rfl (xm1 6 rfl (xm1 7 rfl (xm1 8 rfl xm0))))))))) (xm1 0 rfl (xm1 1 rfl (xm1 2 rfl (xm1 3 rfl (xm1 4 rfl (xm1 5 rfl (xm1 6 rfl (xm1 7 rfl (xm1 8 rfl (xm1 9 rfl (xm1 10 rfl xm0))))))))))) xm0), (t53), (v_X11_set_56_9 (K := K) (F := F) a G G6 G33 G51 x48 p3 G53 x15 p0 p1 p2 x53 x42 x46 ha hG51 hM oq15 oq33 oq53 am t6 c22 z32 t42 t46 t48 t53 ((hF33.2.1 _ (xn1 (xne_k hk9999c hk9999k (by decide)) (xn1 (xne_k hk9999c hk9999l (by decide)) xn0))).trans ((hF6.2.1 _ xn0).trans (ld_c hG2)))), (v_X11_set_56_10 (F := F) a G53 oq53a)⟩ hT
  · refine lv_aload_n hx hb dX11_set_25 rfl (lv_at hl 1 rfl) ?_
    refine lv_iload hx hb dX11_set_26 (lv_at hl 0 rfl) ?_
    refine x_cl0 (x_runV (b := a) (As := [.int x15]) (rest := []) S (c_X11_refuses l E K F G6 a x15 ha) mv_X11_refuses km_X11_325 rfl rfl ⟨Nat.le_of_ble_eq_true rfl, Nat.le_of_ble_eq_true rfl⟩ (rc_13 hK hT ha) hK (fun _ => XP.blind) (fun U hU hW => XP.at hK hz hS hT hU hW) rfl hl.1 (Nat.le_of_ble_eq_true rfl) dX11_set_28 ⟨Nat.le_of_ble_eq_true rfl, Nat.le_of_ble_eq_true rfl⟩) hS ?_
    rintro _ G28 H locs ⟨x28, rfl, hF28, t28⟩ hT hS
    have t28 : x28.toInt = x15.toInt := t28
    exact x_ri hx hb hr hlk hQ (Nat.le_of_ble_eq_true rfl) (Nat.le_of_ble_eq_true rfl) hS dX11_set_31 G28 ⟨_, rfl, (XFr.call (XFr.call (by rw [hG2]; exact XFr.dput XFr.rf (List.mem_of_getElem? (i := 9) rfl)) hF6 (xm1 2 rfl (xm1 3 rfl (xm1 4 rfl xm0))) xm0 xm0) hF28 xm0 (xm1 4 rfl xm0) xm0), (by rw [(show (G28.1 a 23).toInt = ((G6.1 a 23).toInt) from (congrArg Int32.toInt (hF28.1 _ _ xn0)).trans (rfl : Int32.toInt (G6.1 a 23) = ((G6.1 a 23).toInt))), (show (G28.1 a 43).toInt = ((G.1 a 43).toInt) from (congrArg Int32.toInt ((hF28.1 _ _ xn0).trans ((hF6.1 _ _ (xnj (by decide) (xnj (by decide) (xnj (by decide) xn0)))).trans (ld_j hG2 (by decide))))).trans (rfl : Int32.toInt (G.1 a 43) = ((G.1 a 43).toInt)))] <;> exact (z_X11_set_5 ((G.1 a 43).toInt) ((G6.1 a 20).toInt) ((G6.1 a 21).toInt) ((G6.1 a 23).toInt) am t6)), (by rw [(t28 : Int32.toInt x28 = x15.toInt)] <;> exact (v_X11_set_31_11 (K := K) (F := F) a G G6 G28 x15 p0 p1 p2 p3 ha oq15 am t6 c22 ((hF28.2.1 _ (xn1 (xne_k hk9999c hk9999d (by decide)) xn0)).trans ((hF6.2.1 _ xn0).trans (ld_c hG2))))), (v_X11_set_31_12 (F := F) a G G28 hM ((hF28.2.1 _ (xn1 (xne_k hk9999c hk9999d (by decide)) xn0)).trans ((hF6.2.1 _ xn0).trans (ld_c hG2))))⟩ hT

