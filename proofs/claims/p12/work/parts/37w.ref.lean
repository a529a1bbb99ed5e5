theorem z_X11_puts_1 (a0 : Int) (h0 : 0 ≤ a0 ∧ a0 ≤ 23) : 0 ≤ a0 ∧ a0 < ((24 : Nat) : Int) := by omega
theorem z_X11_puts_2 (a0 : Int) (a1 : Int) (h0 : 0 ≤ a1 ∧ a1 ≤ 23) (h1 : a0 = (a1 + (1 : Int)) ∨ (a1 + (1 : Int)) < -2147483648 ∨ 2147483648 ≤ (a1 + (1 : Int))) : a0 = (a1 + (1 : Int)) := by omega
theorem z_X11_puts_3 (a0 : Int) : (a0 + (1 : Int)) = a0 + 1 := by omega
abbrev rm_X11_puts : Room := { frames := 0, cells := 0, slots := 0, locals := 0 }
set_option maxHeartbeats 4000000 in
set_option maxRecDepth 100000 in
theorem c_X11_puts (l : Launch) (E : XE) (K : Nat → Nat) (F : Nat → Nat → Nat) (G : XG) (a : Nat) (p0 : Int32) (ha : K a = 13) (w0 : 0 ≤ ((G.1 a 23).toInt) ∧ ((G.1 a 23).toInt) ≤ 23) : Met l yX11_puts (xw yX11_puts cX11_puts 2 none) rm_X11_puts (va_Pc [.ref a, .int p0] (XP E K F G)) (XQv E (fun (u : XG) => XFr [(a, 23)] [F a 22] [] G u ∧ (((u.1 a 23).toInt) = ((G.1 a 23).toInt) + 1)) (fun u H => TW E K F u H)) 0 0 (xA E) := by
  refine x_enter (by decide) (Nat.le_of_ble_eq_true rfl) ?_
  intro p e s m args below meth c Q S hr hlk hnm hQ hP ls hl
  obtain ⟨hz, hK, hT⟩ := hP
  obtain ⟨hx, hb, -, -, -⟩ := id S
  obtain ⟨H, hT, hS, hgo⟩ : ∃ H : Heap, TW E K F G H ∧ va_S (xA E) s.heap H [] ∧ H = s.heap := ⟨_, hT, va_S.rf, rfl⟩
  rw [← hgo]
  have hl : lv_has ls 2 [(0, .ref a), (1, .int p0)] := hl
  obtain ⟨hk9999, hj9999⟩ := fkX11_22 hT ha
  refine lv_aload_n hx hb dX11_puts_0 rfl (lv_at hl 0 rfl) ?_
  refine gX11_22 S hK hT ha kf_X11_65 dX11_puts_1 (fun _ _ => ?_)
  refine lv_aload_n hx hb dX11_puts_4 rfl (lv_at hl 0 rfl) ?_
  refine gX11_23 S hK hT ha kf_X11_224 dX11_puts_5 (v := (G.1 a 23)) rfl (?_)
  refine lv_iload_n hx hb dX11_puts_8 rfl (lv_at hl 1 rfl) ?_
  refine lv_i2b hx hb dX11_puts_9 rfl (lv_topi (fun x9 eb9 => ?_))
  refine as_2 (x := x9) S hK hT hS hk9999 ar_45 aw_45 (by decide) (z_X11_puts_1 ((G.1 a 23).toInt) w0) dX11_puts_10 (fun H locs hT hS => ?_)
  rw [(xnar2 (xok_i2b eb9))] at hT
  obtain ⟨G10, hG10⟩ : ∃ GG : XG, GG = cput G (F a 22) (G.1 a 23).toNatClampNeg x9 := ⟨_, rfl⟩
  rw [← hG10] at hT
  refine lv_aload_n hx hb dX11_puts_11 rfl (lv_at hl 0 rfl) ?_
  refine lv_dup hx hb dX11_puts_12 rfl ?_
  refine gX11_23 S hK hT ha kf_X11_224 dX11_puts_13 (v := (G.1 a 23)) (lc_d hG10) (?_)
  refine lv_iconst (v := 1) hx hb dX11_puts_16 (by decide) ?_
  refine xi_iadd hx hb (rfl : Int32.toInt (G.1 a 23) = ((G.1 a 23).toInt)) ((by decide) : Int32.toInt 1 = (1 : Int)) dX11_puts_17 (fun x17 t17 => ?_)
  have e17 : x17.toInt = (((G.1 a 23).toInt) + (1 : Int)) := (z_X11_puts_2 x17.toInt ((G.1 a 23).toInt) w0 t17)
  refine pX11_23 (v := x17) S hK hT hS ha kf_X11_224 dX11_puts_18 (fun H locs hT hS => ?_)
  obtain ⟨G18, hG18⟩ : ∃ GG : XG, GG = dput G10 a 23 x17 := ⟨_, rfl⟩
  rw [← hG18] at hT
  exact x_rv hx hb hr hlk hQ (Nat.le_of_ble_eq_true rfl) (Nat.le_of_ble_eq_true rfl) hS dX11_puts_21 G18 ⟨(by rw [hG18]; exact XFr.dput (by rw [hG10]; exact XFr.cput XFr.rf (List.mem_of_getElem? (i := 0) rfl)) (List.mem_of_getElem? (i := 0) rfl)), (by rw [(show (G18.1 a 23).toInt = (((G.1 a 23).toInt) + (1 : Int)) from (congrArg Int32.toInt (ld_at hG18)).trans (e17 : Int32.toInt x17 = (((G.1 a 23).toInt) + (1 : Int))))] <;> exact (z_X11_puts_3 ((G.1 a 23).toInt)))⟩ hT

theorem z_X11_putNumber_1 (a0 : Int) (h0 : 0 ≤ a0 ∧ a0 ≤ 20) : 0 ≤ a0 ∧ a0 ≤ 23 := by omega
theorem z_X11_putNumber_2 (a0 : Int) (a1 : Int) (h0 : a1 = a0 + 1) : a0 + 1 ≤ a1 ∧ a1 ≤ a0 + 3 := by omega
theorem z_X11_putNumber_4 (a0 : Int) (a1 : Int) (h0 : 0 ≤ a0 ∧ a0 ≤ 20) (h1 : a1 = a0 + 1) : 0 ≤ a1 ∧ a1 ≤ 23 := by omega
theorem z_X11_putNumber_5 (a0 : Int) (a1 : Int) (a2 : Int) (h0 : a1 = a0 + 1) (h1 : a2 = a1 + 1) : a0 + 1 ≤ a2 ∧ a2 ≤ a0 + 3 := by omega
theorem z_X11_putNumber_13 (a0 : Int) (a1 : Int) (a2 : Int) (h0 : a2 = a0 + 1) (h1 : a1 = a2 + 1) : a0 + 1 ≤ a1 ∧ a1 ≤ a0 + 3 := by omega
theorem z_X11_putNumber_15 (a0 : Int) (a1 : Int) (a2 : Int) (h0 : 0 ≤ a0 ∧ a0 ≤ 20) (h1 : a2 = a0 + 1) (h2 : a1 = a2 + 1) : 0 ≤ a1 ∧ a1 ≤ 23 := by omega
theorem z_X11_putNumber_16 (a0 : Int) (a1 : Int) (a2 : Int) (a3 : Int) (h0 : a3 = a0 + 1) (h1 : a1 = a3 + 1) (h2 : a2 = a1 + 1) : a0 + 1 ≤ a2 ∧ a2 ≤ a0 + 3 := by omega
abbrev rm_X11_putNumber : Room := { frames := 1, cells := 0, slots := 0, locals := 21 }
set_option maxHeartbeats 4000000 in
set_option maxRecDepth 100000 in
theorem c_X11_putNumber (l : Launch) (E : XE) (K : Nat → Nat) (F : Nat → Nat → Nat) (G : XG) (a : Nat) (p0 : Int32) (ha : K a = 13) (w0 : 0 ≤ ((G.1 a 23).toInt) ∧ ((G.1 a 23).toInt) ≤ 20) (e0 : -99 ≤ p0.toInt ∧ p0.toInt ≤ 99) : Met l yX11_putNumber (xw yX11_putNumber cX11_putNumber 3 none) rm_X11_putNumber (va_Pc [.ref a, .int p0] (XP E K F G)) (XQv E (fun (u : XG) => XFr [(a, 23)] [F a 22] [] G u ∧ (((G.1 a 23).toInt) + 1 ≤ ((u.1 a 23).toInt) ∧ ((u.1 a 23).toInt) ≤ ((G.1 a 23).toInt) + 3)) (fun u H => TW E K F u H)) 0 0 (xA E) := by
  refine x_enter (by decide) (Nat.le_of_ble_eq_true rfl) ?_
  intro p e s m args below meth c Q S hr hlk hnm hQ hP ls hl
  obtain ⟨hz, hK, hT⟩ := hP
  obtain ⟨hx, hb, -, -, -⟩ := id S
  obtain ⟨H, hT, hS, hgo⟩ : ∃ H : Heap, TW E K F G H ∧ va_S (xA E) s.heap H [] ∧ H = s.heap := ⟨_, hT, va_S.rf, rfl⟩
  rw [← hgo]
  have hl : lv_has ls 3 [(0, .ref a), (1, .int p0)] := hl
  obtain ⟨hk9999, hj9999⟩ := fkX11_22 hT ha
  refine lv_iload_n hx hb dX11_putNumber_0 rfl (lv_at hl 1 rfl) ?_
  refine xi_zge (tgt := 10) hx hb (rfl : Int32.toInt p0 = p0.toInt) dX11_putNumber_1 (by decide) (fun c1 => ?_) (fun c1 => ?_)
  · refine lv_iload_n hx hb dX11_putNumber_10 rfl (lv_at hl 1 rfl) ?_
    refine xi_zge (tgt := 19) hx hb (rfl : Int32.toInt p0 = p0.toInt) dX11_putNumber_11 (by decide) (fun c11 => ?_) (fun c11 => ?_)
    · refine lv_iload_n hx hb dX11_putNumber_19 rfl (lv_at hl 1 rfl) ?_
      refine lv_istore_n (lv' := [(2, .int p0), (0, .ref a), (1, .int p0)]) hx hb dX11_putNumber_20 rfl hl (by decide) rfl (fun ls hl => ?_)
      refine lv_iload_n hx hb dX11_putNumber_21 rfl (lv_at hl 0 rfl) ?_
      refine lv_bipush (v := 9) hx hb dX11_putNumber_22 (by decide) ?_
      refine xi_cle (tgt := 38) hx hb (rfl : Int32.toInt p0 = p0.toInt) ((by decide) : Int32.toInt 9 = (9 : Int)) dX11_putNumber_24 (by decide) (fun c24 => ?_) (fun c24 => ?_)
      · refine lv_aload_n hx hb dX11_putNumber_38 rfl (lv_at hl 1 rfl) ?_
        refine lv_bipush (v := 48) hx hb dX11_putNumber_39 (by decide) ?_
        refine lv_iload_n hx hb dX11_putNumber_41 rfl (lv_at hl 0 rfl) ?_
        refine lv_bipush (v := 10) hx hb dX11_putNumber_42 (by decide) ?_
        refine xi_irem hx hb (rfl : Int32.toInt p0 = p0.toInt) ((by decide) : Int32.toInt 10 = (10 : Int)) (by decide) dX11_putNumber_44 (fun x44 t44 => ?_)
        refine xi_iadd hx hb ((by decide) : Int32.toInt 48 = (48 : Int)) (rfl : Int32.toInt x44 = x44.toInt) dX11_putNumber_45 (fun x45 t45 => ?_)
        refine x_cv0 (x_runV (b := a) (As := [.int x45]) (rest := []) S (c_X11_puts l E K F G a x45 ha (z_X11_putNumber_1 ((G.1 a 23).toInt) w0)) mv_X11_puts km_X11_227 rfl rfl ⟨Nat.le_of_ble_eq_true rfl, Nat.le_of_ble_eq_true rfl⟩ (rc_13 hK hT ha) hK (fun _ => XP.blind) (fun U hU hW => XP.at hK hz hS hT hU hW) rfl hl.1 (Nat.le_of_ble_eq_true rfl) dX11_putNumber_46 ⟨Nat.le_of_ble_eq_true rfl, Nat.le_of_ble_eq_true rfl⟩) hS ?_
        rintro G46 H locs ⟨hF46, t46⟩ hT hS
        have t46 : ((G46.1 a 23).toInt) = ((G.1 a 23).toInt) + 1 := t46
        exact x_rv hx hb hr hlk hQ (Nat.le_of_ble_eq_true rfl) (Nat.le_of_ble_eq_true rfl) hS dX11_putNumber_49 G46 ⟨(XFr.call XFr.rf hF46 (xm1 0 rfl xm0) (xm1 0 rfl xm0) xm0), (z_X11_putNumber_2 ((G.1 a 23).toInt) ((G46.1 a 23).toInt) t46)⟩ hT
      · refine lv_aload_n hx hb dX11_putNumber_27 rfl (lv_at hl 1 rfl) ?_
        refine lv_bipush (v := 48) hx hb dX11_putNumber_28 (by decide) ?_
        refine lv_iload_n hx hb dX11_putNumber_30 rfl (lv_at hl 0 rfl) ?_
        refine lv_bipush (v := 10) hx hb dX11_putNumber_31 (by decide) ?_
        refine xi_idiv hx hb (rfl : Int32.toInt p0 = p0.toInt) ((by decide) : Int32.toInt 10 = (10 : Int)) (by decide) dX11_putNumber_33 (fun x33 t33 => ?_)
        refine xi_iadd hx hb ((by decide) : Int32.toInt 48 = (48 : Int)) (rfl : Int32.toInt x33 = x33.toInt) dX11_putNumber_34 (fun x34 t34 => ?_)
        refine x_cv0 (x_runV (b := a) (As := [.int x34]) (rest := []) S (c_X11_puts l E K F G a x34 ha (z_X11_putNumber_1 ((G.1 a 23).toInt) w0)) mv_X11_puts km_X11_227 rfl rfl ⟨Nat.le_of_ble_eq_true rfl, Nat.le_of_ble_eq_true rfl⟩ (rc_13 hK hT ha) hK (fun _ => XP.blind) (fun U hU hW => XP.at hK hz hS hT hU hW) rfl hl.1 (Nat.le_of_ble_eq_true rfl) dX11_putNumber_35 ⟨Nat.le_of_ble_eq_true rfl, Nat.le_of_ble_eq_true rfl⟩) hS ?_
        rintro G35 H locs ⟨hF35, t35⟩ hT hS
        have t35 : ((G35.1 a 23).toInt) = ((G.1 a 23).toInt) + 1 := t35
        refine lv_aload_n hx hb dX11_putNumber_38 rfl (lv_at hl 1 rfl) ?_
        refine lv_bipush (v := 48) hx hb dX11_putNumber_39 (by decide) ?_
        refine lv_iload_n hx hb dX11_putNumber_41 rfl (lv_at hl 0 rfl) ?_
        refine lv_bipush (v := 10) hx hb dX11_putNumber_42 (by decide) ?_
        refine xi_irem hx hb (rfl : Int32.toInt p0 = p0.toInt) ((by decide) : Int32.toInt 10 = (10 : Int)) (by decide) dX11_putNumber_44 (fun x44 t44 => ?_)
        refine xi_iadd hx hb ((by decide) : Int32.toInt 48 = (48 : Int)) (rfl : Int32.toInt x44 = x44.toInt) dX11_putNumber_45 (fun x45 t45 => ?_)
        refine x_cv0 (x_runV (b := a) (As := [.int x45]) (rest := []) S (c_X11_puts l E K F G35 a x45 ha (z_X11_putNumber_4 ((G.1 a 23).toInt) ((G35.1 a 23).toInt) w0 t35)) mv_X11_puts km_X11_227 rfl rfl ⟨Nat.le_of_ble_eq_true rfl, Nat.le_of_ble_eq_true rfl⟩ (rc_13 hK hT ha) hK (fun _ => XP.blind) (fun U hU hW => XP.at hK hz hS hT hU hW) rfl hl.1 (Nat.le_of_ble_eq_true rfl) dX11_putNumber_46 ⟨Nat.le_of_ble_eq_true rfl, Nat.le_of_ble_eq_true rfl⟩) hS ?_
        rintro G46 H locs ⟨hF46, t46⟩ hT hS
        have t46 : ((G46.1 a 23).toInt) = ((G35.1 a 23).toInt) + 1 := t46
        exact x_rv hx hb hr hlk hQ (Nat.le_of_ble_eq_true rfl) (Nat.le_of_ble_eq_true rfl) hS dX11_putNumber_49 G46 ⟨(XFr.call (XFr.call XFr.rf hF35 (xm1 0 rfl xm0) (xm1 0 rfl xm0) xm0) hF46 (xm1 0 rfl xm0) (xm1 0 rfl xm0) xm0), (z_X11_putNumber_5 ((G.1 a 23).toInt) ((G35.1 a 23).toInt) ((G46.1 a 23).toInt) t35 t46)⟩ hT
    · refine lv_iload_n hx hb dX11_putNumber_14 rfl (lv_at hl 1 rfl) ?_
      refine xi_ineg hx hb (rfl : Int32.toInt p0 = p0.toInt) dX11_putNumber_15 (fun x15 t15 => ?_)
      refine lv_goto (tgt := 20) hx hb dX11_putNumber_16 (by decide) ?_
      refine lv_istore_n (lv' := [(2, .int x15), (0, .ref a), (1, .int p0)]) hx hb dX11_putNumber_20 rfl hl (by decide) rfl (fun ls hl => ?_)
      refine lv_iload_n hx hb dX11_putNumber_21 rfl (lv_at hl 0 rfl) ?_
      refine lv_bipush (v := 9) hx hb dX11_putNumber_22 (by decide) ?_
      refine xi_cle (tgt := 38) hx hb (rfl : Int32.toInt x15 = x15.toInt) ((by decide) : Int32.toInt 9 = (9 : Int)) dX11_putNumber_24 (by decide) (fun c24 => ?_) (fun c24 => ?_)
      · refine lv_aload_n hx hb dX11_putNumber_38 rfl (lv_at hl 1 rfl) ?_
        refine lv_bipush (v := 48) hx hb dX11_putNumber_39 (by decide) ?_
        refine lv_iload_n hx hb dX11_putNumber_41 rfl (lv_at hl 0 rfl) ?_
        refine lv_bipush (v := 10) hx hb dX11_putNumber_42 (by decide) ?_
        refine xi_irem hx hb (rfl : Int32.toInt x15 = x15.toInt) ((by decide) : Int32.toInt 10 = (10 : Int)) (by decide) dX11_putNumber_44 (fun x44 t44 => ?_)
        refine xi_iadd hx hb ((by decide) : Int32.toInt 48 = (48 : Int)) (rfl : Int32.toInt x44 = x44.toInt) dX11_putNumber_45 (fun x45 t45 => ?_)
        refine x_cv0 (x_runV (b := a) (As := [.int x45]) (rest := []) S (c_X11_puts l E K F G a x45 ha (z_X11_putNumber_1 ((G.1 a 23).toInt) w0)) mv_X11_puts km_X11_227 rfl rfl ⟨Nat.le_of_ble_eq_true rfl, Nat.le_of_ble_eq_true rfl⟩ (rc_13 hK hT ha) hK (fun _ => XP.blind) (fun U hU hW => XP.at hK hz hS hT hU hW) rfl hl.1 (Nat.le_of_ble_eq_true rfl) dX11_putNumber_46 ⟨Nat.le_of_ble_eq_true rfl, Nat.le_of_ble_eq_true rfl⟩) hS ?_
        rintro G46 H locs ⟨hF46, t46⟩ hT hS
        have t46 : ((G46.1 a 23).toInt) = ((G.1 a 23).toInt) + 1 := t46
        exact x_rv hx hb hr hlk hQ (Nat.le_of_ble_eq_true rfl) (Nat.le_of_ble_eq_true rfl) hS dX11_putNumber_49 G46 ⟨(XFr.call XFr.rf hF46 (xm1 0 rfl xm0) (xm1 0 rfl xm0) xm0), (z_X11_putNumber_2 ((G.1 a 23).toInt) ((G46.1 a 23).toInt) t46)⟩ hT
      · refine lv_aload_n hx hb dX11_putNumber_27 rfl (lv_at hl 1 rfl) ?_
        refine lv_bipush (v := 48) hx hb dX11_putNumber_28 (by decide) ?_
        refine lv_iload_n hx hb dX11_putNumber_30 rfl (lv_at hl 0 rfl) ?_
        refine lv_bipush (v := 10) hx hb dX11_putNumber_31 (by decide) ?_
        refine xi_idiv hx hb (rfl : Int32.toInt x15 = x15.toInt) ((by decide) : Int32.toInt 10 = (10 : Int)) (by decide) dX11_putNumber_33 (fun x33 t33 => ?_)
        refine xi_iadd hx hb ((by decide) : Int32.toInt 48 = (48 : Int)) (rfl : Int32.toInt x33 = x33.toInt) dX11_putNumber_34 (fun x34 t34 => ?_)
        refine x_cv0 (x_runV (b := a) (As := [.int x34]) (rest := []) S (c_X11_puts l E K F G a x34 ha (z_X11_putNumber_1 ((G.1 a 23).toInt) w0)) mv_X11_puts km_X11_227 rfl rfl ⟨Nat.le_of_ble_eq_true rfl, Nat.le_of_ble_eq_true rfl⟩ (rc_13 hK hT ha) hK (fun _ => XP.blind) (fun U hU hW => XP.at hK hz hS hT hU hW) rfl hl.1 (Nat.le_of_ble_eq_true rfl) dX11_putNumber_35 ⟨Nat.le_of_ble_eq_true rfl, Nat.le_of_ble_eq_true rfl⟩) hS ?_
        rintro G35 H locs ⟨hF35, t35⟩ hT hS
        have t35 : ((G35.1 a 23).toInt) = ((G.1 a 23).toInt) + 1 := t35
        refine lv_aload_n hx hb dX11_putNumber_38 rfl (lv_at hl 1 rfl) ?_
        refine lv_bipush (v := 48) hx hb dX11_putNumber_39 (by decide) ?_
        refine lv_iload_n hx hb dX11_putNumber_41 rfl (lv_at hl 0 rfl) ?_
        refine lv_bipush (v := 10) hx hb dX11_putNumber_42 (by decide) ?_
        refine xi_irem hx hb (rfl : Int32.toInt x15 = x15.toInt) ((by decide) : Int32.toInt 10 = (10 : Int)) (by decide) dX11_putNumber_44 (fun x44 t44 => ?_)
        refine xi_iadd hx hb ((by decide) : Int32.toInt 48 = (48 : Int)) (rfl : Int32.toInt x44 = x44.toInt) dX11_putNumber_45 (fun x45 t45 => ?_)
        refine x_cv0 (x_runV (b := a) (As := [.int x45]) (rest := []) S (c_X11_puts l E K F G35 a x45 ha (z_X11_putNumber_4 ((G.1 a 23).toInt) ((G35.1 a 23).toInt) w0 t35)) mv_X11_puts km_X11_227 rfl rfl ⟨Nat.le_of_ble_eq_true rfl, Nat.le_of_ble_eq_true rfl⟩ (rc_13 hK hT ha) hK (fun _ => XP.blind) (fun U hU hW => XP.at hK hz hS hT hU hW) rfl hl.1 (Nat.le_of_ble_eq_true rfl) dX11_putNumber_46 ⟨Nat.le_of_ble_eq_true rfl, Nat.le_of_ble_eq_true rfl⟩) hS ?_
        rintro G46 H locs ⟨hF46, t46⟩ hT hS
        have t46 : ((G46.1 a 23).toInt) = ((G35.1 a 23).toInt) + 1 := t46
        exact x_rv hx hb hr hlk hQ (Nat.le_of_ble_eq_true rfl) (Nat.le_of_ble_eq_true rfl) hS dX11_putNumber_49 G46 ⟨(XFr.call (XFr.call XFr.rf hF35 (xm1 0 rfl xm0) (xm1 0 rfl xm0) xm0) hF46 (xm1 0 rfl xm0) (xm1 0 rfl xm0) xm0), (z_X11_putNumber_5 ((G.1 a 23).toInt) ((G35.1 a 23).toInt) ((G46.1 a 23).toInt) t35 t46)⟩ hT
  · refine lv_aload_n hx hb dX11_putNumber_4 rfl (lv_at hl 0 rfl) ?_
    refine lv_bipush (v := 45) hx hb dX11_putNumber_5 (by decide) ?_
    refine x_cv0 (x_runV (b := a) (As := [.int 45]) (rest := []) S (c_X11_puts l E K F G a 45 ha (z_X11_putNumber_1 ((G.1 a 23).toInt) w0)) mv_X11_puts km_X11_227 rfl rfl ⟨Nat.le_of_ble_eq_true rfl, Nat.le_of_ble_eq_true rfl⟩ (rc_13 hK hT ha) hK (fun _ => XP.blind) (fun U hU hW => XP.at hK hz hS hT hU hW) rfl hl.1 (Nat.le_of_ble_eq_true rfl) dX11_putNumber_7 ⟨Nat.le_of_ble_eq_true rfl, Nat.le_of_ble_eq_true rfl⟩) hS ?_
    rintro G7 H locs ⟨hF7, t7⟩ hT hS
    have t7 : ((G7.1 a 23).toInt) = ((G.1 a 23).toInt) + 1 := t7
    refine lv_iload_n hx hb dX11_putNumber_10 rfl (lv_at hl 1 rfl) ?_
    refine xi_zge (tgt := 19) hx hb (rfl : Int32.toInt p0 = p0.toInt) dX11_putNumber_11 (by decide) (fun c11 => ?_) (fun c11 => ?_)
    · refine lv_iload_n hx hb dX11_putNumber_19 rfl (lv_at hl 1 rfl) ?_
      refine lv_istore_n (lv' := [(2, .int p0), (0, .ref a), (1, .int p0)]) hx hb dX11_putNumber_20 rfl hl (by decide) rfl (fun ls hl => ?_)
      refine lv_iload_n hx hb dX11_putNumber_21 rfl (lv_at hl 0 rfl) ?_
      refine lv_bipush (v := 9) hx hb dX11_putNumber_22 (by decide) ?_
      refine xi_cle (tgt := 38) hx hb (rfl : Int32.toInt p0 = p0.toInt) ((by decide) : Int32.toInt 9 = (9 : Int)) dX11_putNumber_24 (by decide) (fun c24 => ?_) (fun c24 => ?_)
      · refine lv_aload_n hx hb dX11_putNumber_38 rfl (lv_at hl 1 rfl) ?_
        refine lv_bipush (v := 48) hx hb dX11_putNumber_39 (by decide) ?_
        refine lv_iload_n hx hb dX11_putNumber_41 rfl (lv_at hl 0 rfl) ?_
        refine lv_bipush (v := 10) hx hb dX11_putNumber_42 (by decide) ?_
        refine xi_irem hx hb (rfl : Int32.toInt p0 = p0.toInt) ((by decide) : Int32.toInt 10 = (10 : Int)) (by decide) dX11_putNumber_44 (fun x44 t44 => ?_)
        refine xi_iadd hx hb ((by decide) : Int32.toInt 48 = (48 : Int)) (rfl : Int32.toInt x44 = x44.toInt) dX11_putNumber_45 (fun x45 t45 => ?_)
        refine x_cv0 (x_runV (b := a) (As := [.int x45]) (rest := []) S (c_X11_puts l E K F G7 a x45 ha (z_X11_putNumber_4 ((G.1 a 23).toInt) ((G7.1 a 23).toInt) w0 t7)) mv_X11_puts km_X11_227 rfl rfl ⟨Nat.le_of_ble_eq_true rfl, Nat.le_of_ble_eq_true rfl⟩ (rc_13 hK hT ha) hK (fun _ => XP.blind) (fun U hU hW => XP.at hK hz hS hT hU hW) rfl hl.1 (Nat.le_of_ble_eq_true rfl) dX11_putNumber_46 ⟨Nat.le_of_ble_eq_true rfl, Nat.le_of_ble_eq_true rfl⟩) hS ?_
        rintro G46 H locs ⟨hF46, t46⟩ hT hS
        have t46 : ((G46.1 a 23).toInt) = ((G7.1 a 23).toInt) + 1 := t46
        exact x_rv hx hb hr hlk hQ (Nat.le_of_ble_eq_true rfl) (Nat.le_of_ble_eq_true rfl) hS dX11_putNumber_49 G46 ⟨(XFr.call (XFr.call XFr.rf hF7 (xm1 0 rfl xm0) (xm1 0 rfl xm0) xm0) hF46 (xm1 0 rfl xm0) (xm1 0 rfl xm0) xm0), (z_X11_putNumber_13 ((G.1 a 23).toInt) ((G46.1 a 23).toInt) ((G7.1 a 23).toInt) t7 t46)⟩ hT
      · refine lv_aload_n hx hb dX11_putNumber_27 rfl (lv_at hl 1 rfl) ?_
        refine lv_bipush (v := 48) hx hb dX11_putNumber_28 (by decide) ?_
        refine lv_iload_n hx hb dX11_putNumber_30 rfl (lv_at hl 0 rfl) ?_
        refine lv_bipush (v := 10) hx hb dX11_putNumber_31 (by decide) ?_
        refine xi_idiv hx hb (rfl : Int32.toInt p0 = p0.toInt) ((by decide) : Int32.toInt 10 = (10 : Int)) (by decide) dX11_putNumber_33 (fun x33 t33 => ?_)
        refine xi_iadd hx hb ((by decide) : Int32.toInt 48 = (48 : Int)) (rfl : Int32.toInt x33 = x33.toInt) dX11_putNumber_34 (fun x34 t34 => ?_)
        refine x_cv0 (x_runV (b := a) (As := [.int x34]) (rest := []) S (c_X11_puts l E K F G7 a x34 ha (z_X11_putNumber_4 ((G.1 a 23).toInt) ((G7.1 a 23).toInt) w0 t7)) mv_X11_puts km_X11_227 rfl rfl ⟨Nat.le_of_ble_eq_true rfl, Nat.le_of_ble_eq_true rfl⟩ (rc_13 hK hT ha) hK (fun _ => XP.blind) (fun U hU hW => XP.at hK hz hS hT hU hW) rfl hl.1 (Nat.le_of_ble_eq_true rfl) dX11_putNumber_35 ⟨Nat.le_of_ble_eq_true rfl, Nat.le_of_ble_eq_true rfl⟩) hS ?_
        rintro G35 H locs ⟨hF35, t35⟩ hT hS
        have t35 : ((G35.1 a 23).toInt) = ((G7.1 a 23).toInt) + 1 := t35
        refine lv_aload_n hx hb dX11_putNumber_38 rfl (lv_at hl 1 rfl) ?_
        refine lv_bipush (v := 48) hx hb dX11_putNumber_39 (by decide) ?_
        refine lv_iload_n hx hb dX11_putNumber_41 rfl (lv_at hl 0 rfl) ?_
        refine lv_bipush (v := 10) hx hb dX11_putNumber_42 (by decide) ?_
        refine xi_irem hx hb (rfl : Int32.toInt p0 = p0.toInt) ((by decide) : Int32.toInt 10 = (10 : Int)) (by decide) dX11_putNumber_44 (fun x44 t44 => ?_)
        refine xi_iadd hx hb ((by decide) : Int32.toInt 48 = (48 : Int)) (rfl : Int32.toInt x44 = x44.toInt) dX11_putNumber_45 (fun x45 t45 => ?_)
        refine x_cv0 (x_runV (b := a) (As := [.int x45]) (rest := []) S (c_X11_puts l E K F G35 a x45 ha (z_X11_putNumber_15 ((G.1 a 23).toInt) ((G35.1 a 23).toInt) ((G7.1 a 23).toInt) w0 t7 t35)) mv_X11_puts km_X11_227 rfl rfl ⟨Nat.le_of_ble_eq_true rfl, Nat.le_of_ble_eq_true rfl⟩ (rc_13 hK hT ha) hK (fun _ => XP.blind) (fun U hU hW => XP.at hK hz hS hT hU hW) rfl hl.1 (Nat.le_of_ble_eq_true rfl) dX11_putNumber_46 ⟨Nat.le_of_ble_eq_true rfl, Nat.le_of_ble_eq_true rfl⟩) hS ?_
        rintro G46 H locs ⟨hF46, t46⟩ hT hS
        have t46 : ((G46.1 a 23).toInt) = ((G35.1 a 23).toInt) + 1 := t46
        exact x_rv hx hb hr hlk hQ (Nat.le_of_ble_eq_true rfl) (Nat.le_of_ble_eq_true rfl) hS dX11_putNumber_49 G46 ⟨(XFr.call (XFr.call (XFr.call XFr.rf hF7 (xm1 0 rfl xm0) (xm1 0 rfl xm0) xm0) hF35 (xm1 0 rfl xm0) (xm1 0 rfl xm0) xm0) hF46 (xm1 0 rfl xm0) (xm1 0 rfl xm0) xm0), (z_X11_putNumber_16 ((G.1 a 23).toInt) ((G35.1 a 23).toInt) ((G46.1 a 23).toInt) ((G7.1 a 23).toInt) t7 t35 t46)⟩ hT
    · refine lv_iload_n hx hb dX11_putNumber_14 rfl (lv_at hl 1 rfl) ?_
      refine xi_ineg hx hb (rfl : Int32.toInt p0 = p0.toInt) dX11_putNumber_15 (fun x15 t15 => ?_)
      refine lv_goto (tgt := 20) hx hb dX11_putNumber_16 (by decide) ?_
      refine lv_istore_n (lv' := [(2, .int x15), (0, .ref a), (1, .int p0)]) hx hb dX11_putNumber_20 rfl hl (by decide) rfl (fun ls hl => ?_)
      refine lv_iload_n hx hb dX11_putNumber_21 rfl (lv_at hl 0 rfl) ?_
      refine lv_bipush (v := 9) hx hb dX11_putNumber_22 (by decide) ?_
      refine xi_cle (tgt := 38) hx hb (rfl : Int32.toInt x15 = x15.toInt) ((by decide) : Int32.toInt 9 = (9 : Int)) dX11_putNumber_24 (by decide) (fun c24 => ?_) (fun c24 => ?_)
      · refine lv_aload_n hx hb dX11_putNumber_38 rfl (lv_at hl 1 rfl) ?_
        refine lv_bipush (v := 48) hx hb dX11_putNumber_39 (by decide) ?_
        refine lv_iload_n hx hb dX11_putNumber_41 rfl (lv_at hl 0 rfl) ?_
        refine lv_bipush (v := 10) hx hb dX11_putNumber_42 (by decide) ?_
        refine xi_irem hx hb (rfl : Int32.toInt x15 = x15.toInt) ((by decide) : Int32.toInt 10 = (10 : Int)) (by decide) dX11_putNumber_44 (fun x44 t44 => ?_)
        refine xi_iadd hx hb ((by decide) : Int32.toInt 48 = (48 : Int)) (rfl : Int32.toInt x44 = x44.toInt) dX11_putNumber_45 (fun x45 t45 => ?_)
        refine x_cv0 (x_runV (b := a) (As := [.int x45]) (rest := []) S (c_X11_puts l E K F G7 a x45 ha (z_X11_putNumber_4 ((G.1 a 23).toInt) ((G7.1 a 23).toInt) w0 t7)) mv_X11_puts km_X11_227 rfl rfl ⟨Nat.le_of_ble_eq_true rfl, Nat.le_of_ble_eq_true rfl⟩ (rc_13 hK hT ha) hK (fun _ => XP.blind) (fun U hU hW => XP.at hK hz hS hT hU hW) rfl hl.1 (Nat.le_of_ble_eq_true rfl) dX11_putNumber_46 ⟨Nat.le_of_ble_eq_true rfl, Nat.le_of_ble_eq_true rfl⟩) hS ?_
        rintro G46 H locs ⟨hF46, t46⟩ hT hS
        have t46 : ((G46.1 a 23).toInt) = ((G7.1 a 23).toInt) + 1 := t46
        exact x_rv hx hb hr hlk hQ (Nat.le_of_ble_eq_true rfl) (Nat.le_of_ble_eq_true rfl) hS dX11_putNumber_49 G46 ⟨(XFr.call (XFr.call XFr.rf hF7 (xm1 0 rfl xm0) (xm1 0 rfl xm0) xm0) hF46 (xm1 0 rfl xm0) (xm1 0 rfl xm0) xm0), (z_X11_putNumber_13 ((G.1 a 23).toInt) ((G46.1 a 23).toInt) ((G7.1 a 23).toInt) t7 t46)⟩ hT
      · refine lv_aload_n hx hb dX11_putNumber_27 rfl (lv_at hl 1 rfl) ?_
        refine lv_bipush (v := 48) hx hb dX11_putNumber_28 (by decide) ?_
        refine lv_iload_n hx hb dX11_putNumber_30 rfl (lv_at hl 0 rfl) ?_
        refine lv_bipush (v := 10) hx hb dX11_putNumber_31 (by decide) ?_
        refine xi_idiv hx hb (rfl : Int32.toInt x15 = x15.toInt) ((by decide) : Int32.toInt 10 = (10 : Int)) (by decide) dX11_putNumber_33 (fun x33 t33 => ?_)
        refine xi_iadd hx hb ((by decide) : Int32.toInt 48 = (48 : Int)) (rfl : Int32.toInt x33 = x33.toInt) dX11_putNumber_34 (fun x34 t34 => ?_)
        refine x_cv0 (x_runV (b := a) (As := [.int x34]) (rest := []) S (c_X11_puts l E K F G7 a x34 ha (z_X11_putNumber_4 ((G.1 a 23).toInt) ((G7.1 a 23).toInt) w0 t7)) mv_X11_puts km_X11_227 rfl rfl ⟨Nat.le_of_ble_eq_true rfl, Nat.le_of_ble_eq_true rfl⟩ (rc_13 hK hT ha) hK (fun _ => XP.blind) (fun U hU hW => XP.at hK hz hS hT hU hW) rfl hl.1 (Nat.le_of_ble_eq_true rfl) dX11_putNumber_35 ⟨Nat.le_of_ble_eq_true rfl, Nat.le_of_ble_eq_true rfl⟩) hS ?_
        rintro G35 H locs ⟨hF35, t35⟩ hT hS
        have t35 : ((G35.1 a 23).toInt) = ((G7.1 a 23).toInt) + 1 := t35
        refine lv_aload_n hx hb dX11_putNumber_38 rfl (lv_at hl 1 rfl) ?_
        refine lv_bipush (v := 48) hx hb dX11_putNumber_39 (by decide) ?_
        refine lv_iload_n hx hb dX11_putNumber_41 rfl (lv_at hl 0 rfl) ?_
        refine lv_bipush (v := 10) hx hb dX11_putNumber_42 (by decide) ?_
        refine xi_irem hx hb (rfl : Int32.toInt x15 = x15.toInt) ((by decide) : Int32.toInt 10 = (10 : Int)) (by decide) dX11_putNumber_44 (fun x44 t44 => ?_)
        refine xi_iadd hx hb ((by decide) : Int32.toInt 48 = (48 : Int)) (rfl : Int32.toInt x44 = x44.toInt) dX11_putNumber_45 (fun x45 t45 => ?_)
        refine x_cv0 (x_runV (b := a) (As := [.int x45]) (rest := []) S (c_X11_puts l E K F G35 a x45 ha (z_X11_putNumber_15 ((G.1 a 23).toInt) ((G35.1 a 23).toInt) ((G7.1 a 23).toInt) w0 t7 t35)) mv_X11_puts km_X11_227 rfl rfl ⟨Nat.le_of_ble_eq_true rfl, Nat.le_of_ble_eq_true rfl⟩ (rc_13 hK hT ha) hK (fun _ => XP.blind) (fun U hU hW => XP.at hK hz hS hT hU hW) rfl hl.1 (Nat.le_of_ble_eq_true rfl) dX11_putNumber_46 ⟨Nat.le_of_ble_eq_true rfl, Nat.le_of_ble_eq_true rfl⟩) hS ?_
        rintro G46 H locs ⟨hF46, t46⟩ hT hS
        have t46 : ((G46.1 a 23).toInt) = ((G35.1 a 23).toInt) + 1 := t46
        exact x_rv hx hb hr hlk hQ (Nat.le_of_ble_eq_true rfl) (Nat.le_of_ble_eq_true rfl) hS dX11_putNumber_49 G46 ⟨(XFr.call (XFr.call (XFr.call XFr.rf hF7 (xm1 0 rfl xm0) (xm1 0 rfl xm0) xm0) hF35 (xm1 0 rfl xm0) (xm1 0 rfl xm0) xm0) hF46 (xm1 0 rfl xm0) (xm1 0 rfl xm0) xm0), (z_X11_putNumber_16 ((G.1 a 23).toInt) ((G35.1 a 23).toInt) ((G46.1 a 23).toInt) ((G7.1 a 23).toInt) t7 t35 t46)⟩ hT

theorem z_X11_wordOf_1 (a0 : Int) : (a0 < 0 ∨ 4 < a0) ∨ (a0 = 0) ∨ (a0 = 1) ∨ (a0 = 2) ∨ (a0 = 3) ∨ (a0 = 4) := by omega
abbrev rm_X11_wordOf : Room := { frames := 0, cells := 0, slots := 0, locals := 0 }
set_option maxHeartbeats 4000000 in
set_option maxRecDepth 100000 in
theorem c_X11_wordOf (l : Launch) (E : XE) (K : Nat → Nat) (F : Nat → Nat → Nat) (G : XG) (h0 : Heap) (a : Nat) (p0 : Int32) (ha : K a = 13) : Met l yX11_wordOf (xw yX11_wordOf cX11_wordOf 2 (some (.array .char))) rm_X11_wordOf (va_Pc [.ref a, .int p0] (XPh E K F G h0)) (XQ E (fun v (u : Unit) => ∃ r n : Nat, v = .ref r ∧ XWd K r n ∧ ((n : Nat) : Int) ≤ 6) (fun _ H => H = h0)) 0 0 (xA E) := by
  refine x_enter (by decide) (Nat.le_of_ble_eq_true rfl) ?_
  intro p e s m args below meth c Q S hr hlk hnm hQ hP ls hl
  obtain ⟨⟨hz, hK, hT⟩, hh⟩ := hP
  obtain ⟨hx, hb, -, -, -⟩ := id S
  have hS : va_S (xA E) s.heap s.heap [] := va_S.rf
  have hl : lv_has ls 2 [(0, .ref a), (1, .int p0)] := hl
  refine lv_iload_n hx hb dX11_wordOf_0 rfl (lv_at hl 1 rfl) ?_
  rcases ((z_X11_wordOf_1 p0.toInt) : (p0.toInt < 0 ∨ 4 < p0.toInt) ∨ (p0.toInt = 0) ∨ (p0.toInt = 1) ∨ (p0.toInt = 2) ∨ (p0.toInt = 3) ∨ (p0.toInt = 4)) with c1 | c1 | c1 | c1 | c1 | c1
  · refine lv_tableOut (tgt := 61) hx hb dX11_wordOf_1 c1 (by decide) ?_
    refine lv_aload_n hx hb dX11_wordOf_61 rfl (lv_at hl 0 rfl) ?_
    obtain ⟨hk62, hj62⟩ := fkX11_30 hT ha
    refine gX11_30 S hK hT ha kf_X11_88 dX11_wordOf_62 (fun _ _ => ?_)
    exact x_ra hx hb hr (by first | exact Or.inl ⟨_, rfl⟩ | exact Or.inr ⟨_, rfl⟩) (by first | exact Or.inl rfl | exact Or.inr ⟨_, rfl⟩) hlk hQ (Nat.le_of_ble_eq_true rfl) (Nat.le_of_ble_eq_true rfl) hS dX11_wordOf_65 () ⟨_, _, rfl, XWd.k47 hk62, by decide⟩ hh
  · refine lv_tableIn (off := 35) (tgt := 36) hx hb dX11_wordOf_1 (by rw [c1]; decide) (by rw [c1]; decide) (by rw [c1]; rfl) (by decide) ?_
    refine lv_aload_n hx hb dX11_wordOf_36 rfl (lv_at hl 0 rfl) ?_
    obtain ⟨hk37, hj37⟩ := fkX11_25 hT ha
    refine gX11_25 S hK hT ha kf_X11_73 dX11_wordOf_37 (fun _ _ => ?_)
    exact x_ra hx hb hr (by first | exact Or.inl ⟨_, rfl⟩ | exact Or.inr ⟨_, rfl⟩) (by first | exact Or.inl rfl | exact Or.inr ⟨_, rfl⟩) hlk hQ (Nat.le_of_ble_eq_true rfl) (Nat.le_of_ble_eq_true rfl) hS dX11_wordOf_40 () ⟨_, _, rfl, XWd.k49 hk37, by decide⟩ hh
  · refine lv_tableIn (off := 40) (tgt := 41) hx hb dX11_wordOf_1 (by rw [c1]; decide) (by rw [c1]; decide) (by rw [c1]; rfl) (by decide) ?_
    refine lv_aload_n hx hb dX11_wordOf_41 rfl (lv_at hl 0 rfl) ?_
    obtain ⟨hk42, hj42⟩ := fkX11_26 hT ha
    refine gX11_26 S hK hT ha kf_X11_76 dX11_wordOf_42 (fun _ _ => ?_)
    exact x_ra hx hb hr (by first | exact Or.inl ⟨_, rfl⟩ | exact Or.inr ⟨_, rfl⟩) (by first | exact Or.inl rfl | exact Or.inr ⟨_, rfl⟩) hlk hQ (Nat.le_of_ble_eq_true rfl) (Nat.le_of_ble_eq_true rfl) hS dX11_wordOf_45 () ⟨_, _, rfl, XWd.k49 hk42, by decide⟩ hh
  · refine lv_tableIn (off := 45) (tgt := 46) hx hb dX11_wordOf_1 (by rw [c1]; decide) (by rw [c1]; decide) (by rw [c1]; rfl) (by decide) ?_
    refine lv_aload_n hx hb dX11_wordOf_46 rfl (lv_at hl 0 rfl) ?_
    obtain ⟨hk47, hj47⟩ := fkX11_27 hT ha
    refine gX11_27 S hK hT ha kf_X11_79 dX11_wordOf_47 (fun _ _ => ?_)
    exact x_ra hx hb hr (by first | exact Or.inl ⟨_, rfl⟩ | exact Or.inr ⟨_, rfl⟩) (by first | exact Or.inl rfl | exact Or.inr ⟨_, rfl⟩) hlk hQ (Nat.le_of_ble_eq_true rfl) (Nat.le_of_ble_eq_true rfl) hS dX11_wordOf_50 () ⟨_, _, rfl, XWd.k48 hk47, by decide⟩ hh
  · refine lv_tableIn (off := 50) (tgt := 51) hx hb dX11_wordOf_1 (by rw [c1]; decide) (by rw [c1]; decide) (by rw [c1]; rfl) (by decide) ?_
    refine lv_aload_n hx hb dX11_wordOf_51 rfl (lv_at hl 0 rfl) ?_
    obtain ⟨hk52, hj52⟩ := fkX11_28 hT ha
    refine gX11_28 S hK hT ha kf_X11_82 dX11_wordOf_52 (fun _ _ => ?_)
    exact x_ra hx hb hr (by first | exact Or.inl ⟨_, rfl⟩ | exact Or.inr ⟨_, rfl⟩) (by first | exact Or.inl rfl | exact Or.inr ⟨_, rfl⟩) hlk hQ (Nat.le_of_ble_eq_true rfl) (Nat.le_of_ble_eq_true rfl) hS dX11_wordOf_55 () ⟨_, _, rfl, XWd.k46 hk52, by decide⟩ hh
  · refine lv_tableIn (off := 55) (tgt := 56) hx hb dX11_wordOf_1 (by rw [c1]; decide) (by rw [c1]; decide) (by rw [c1]; rfl) (by decide) ?_
    refine lv_aload_n hx hb dX11_wordOf_56 rfl (lv_at hl 0 rfl) ?_
    obtain ⟨hk57, hj57⟩ := fkX11_29 hT ha
    refine gX11_29 S hK hT ha kf_X11_85 dX11_wordOf_57 (fun _ _ => ?_)
    exact x_ra hx hb hr (by first | exact Or.inl ⟨_, rfl⟩ | exact Or.inr ⟨_, rfl⟩) (by first | exact Or.inl rfl | exact Or.inr ⟨_, rfl⟩) hlk hQ (Nat.le_of_ble_eq_true rfl) (Nat.le_of_ble_eq_true rfl) hS dX11_wordOf_60 () ⟨_, _, rfl, XWd.k48 hk57, by decide⟩ hh

theorem z_X11_putWord_1 (a0 : Int) (h0 : -2147483648 ≤ a0 ∧ a0 < 2147483648) : ¬ (2147483648 - a0 < ((0 : Nat) : Int)) := by omega
theorem z_X11_putWord_2 (a0 : Int) (a1 : Int) (a2 : Nat) (a3 : Int) (a4 : Int) (h0 : a4 = a3 + a0) (h1 : 0 ≤ a0 ∧ a0 ≤ ((a2 : Nat) : Int)) (h2 : a1 = ((a2 : Nat) : Int)) (h3 : a1 ≤ a0) : a4 = a3 + ((a2 : Nat) : Int) := by omega
theorem z_X11_putWord_3 (a0 : Int) (a1 : Int) (a2 : Nat) (h0 : 0 ≤ a0 ∧ a0 ≤ ((a2 : Nat) : Int)) (h1 : a1 = ((a2 : Nat) : Int)) (h2 : ¬ (a1 ≤ a0)) : 0 ≤ a0 ∧ a0 < ((a2 : Nat) : Int) := by omega
theorem z_X11_putWord_4 (a0 : Int) (a1 : Int) (a2 : Nat) (a3 : Int) (a4 : Int) (h0 : 0 ≤ a3 ∧ a3 + ((a2 : Nat) : Int) ≤ 24) (h1 : a4 = a3 + a0) (h2 : 0 ≤ a0 ∧ a0 ≤ ((a2 : Nat) : Int)) (h3 : a1 = ((a2 : Nat) : Int)) (h4 : ¬ (a1 ≤ a0)) : 0 ≤ a4 ∧ a4 ≤ 23 := by omega
theorem z_X11_putWord_5 (a0 : Int) (a1 : Int) (a2 : Nat) (a3 : Int) (h0 : 0 ≤ a3 ∧ a3 + ((a2 : Nat) : Int) ≤ 24) (h1 : 0 ≤ a0 ∧ a0 ≤ ((a2 : Nat) : Int)) (h2 : a1 = (a0 + 1) ∨ (a0 + 1) < -2147483648 ∨ 2147483648 ≤ (a0 + 1)) : a1 = (a0 + 1) := by omega
theorem z_X11_putWord_6 (a0 : Int) (a1 : Int) (a2 : Int) (a3 : Int) (h0 : a3 = a1 + a0) (h1 : a2 = a3 + 1) : a2 = a1 + (a0 + 1) := by omega
theorem z_X11_putWord_7 (a0 : Int) (a1 : Int) (a2 : Nat) (h0 : 0 ≤ a0 ∧ a0 ≤ ((a2 : Nat) : Int)) (h1 : a1 = ((a2 : Nat) : Int)) (h2 : ¬ (a1 ≤ a0)) : 0 ≤ (a0 + 1) ∧ (a0 + 1) ≤ ((a2 : Nat) : Int) := by omega
theorem z_X11_putWord_8 (a0 : Int) (a1 : Nat) (h0 : 0 ≤ a0 ∧ a0 ≤ ((a1 : Nat) : Int)) : (0 : Int) ≤ (a0 + 1) := by omega
theorem z_X11_putWord_9 (a0 : Int) (a1 : Nat) (h0 : 2147483648 - a0 < ((a1 + 1 : Nat) : Int)) : 2147483648 - (a0 + 1) < ((a1 : Nat) : Int) := by omega
theorem z_X11_putWord_10 (a0 : Int) : a0 = a0 + (0 : Int) := by omega
theorem z_X11_putWord_11 (a0 : Nat) : 0 ≤ (0 : Int) ∧ (0 : Int) ≤ ((a0 : Nat) : Int) := by omega
abbrev rm_X11_putWord : Room := { frames := 1, cells := 0, slots := 0, locals := 21 }
set_option maxHeartbeats 4000000 in
set_option maxRecDepth 100000 in
theorem c_X11_putWord (l : Launch) (E : XE) (K : Nat → Nat) (F : Nat → Nat → Nat) (G : XG) (a : Nat) (p0 : Nat) (n0 : Nat) (ha : K a = 13) (hp0 : XWd K p0 n0) (w0 : 0 ≤ ((G.1 a 23).toInt) ∧ ((G.1 a 23).toInt) + (((n0) : Nat) : Int) ≤ 24) : Met l yX11_putWord (xw yX11_putWord cX11_putWord 3 none) rm_X11_putWord (va_Pc [.ref a, .ref p0] (XP E K F G)) (XQv E (fun (u : XG) => XFr [(a, 23)] [F a 22] [] G u ∧ (((u.1 a 23).toInt) = ((G.1 a 23).toInt) + (((n0) : Nat) : Int))) (fun u H => TW E K F u H)) 0 0 (xA E) := by
  refine x_enter (by decide) (Nat.le_of_ble_eq_true rfl) ?_
  intro p e s m args below meth c Q S hr hlk hnm hQ hP ls hl
  obtain ⟨hz, hK, hT⟩ := hP
  obtain ⟨hx, hb, -, -, -⟩ := id S
  obtain ⟨H, hT, hS, hgo⟩ : ∃ H : Heap, TW E K F G H ∧ va_S (xA E) s.heap H [] ∧ H = s.heap := ⟨_, hT, va_S.rf, rfl⟩
  rw [← hgo]
  have hl : lv_has ls 3 [(0, .ref a), (1, .ref p0)] := hl
  obtain ⟨hk9999, hj9999⟩ := fkX11_22 hT ha
  refine lv_iconst (v := 0) hx hb dX11_putWord_0 (by decide) ?_
  refine lv_istore_n (lv' := [(2, .int 0), (0, .ref a), (1, .ref p0)]) hx hb dX11_putWord_1 rfl hl (by decide) rfl (fun ls hl => ?_)
  have L2 : ∀ (N2 : Nat) (l2_2 : Int32) (G_2 : XG) (H : Heap) (locs : List Loc) (ls : Array Slot), XFr [(a, 23)] [F a 22] [] G G_2 → ((G_2.1 a 23).toInt) = ((G.1 a 23).toInt) + l2_2.toInt → 0 ≤ l2_2.toInt ∧ l2_2.toInt ≤ (((n0) : Nat) : Int) → (0 : Int) ≤ l2_2.toInt → 2147483648 - l2_2.toInt < ((N2 : Nat) : Int) → TW E K F G_2 H → va_S (xA E) s.heap H locs → lv_has ls 3 [(0, .ref a), (1, .ref p0), (2, .int l2_2)] → W p l e rm_X11_putWord s m args below meth c H locs 0 0 Q (F0 m 2 ls []) := by
    intro N2
    induction N2 with
    | zero =>
      intro l2_2 G_2 H locs ls hF_2 I2_0 I2_1 I2_2 hm2
      exact absurd hm2 (z_X11_putWord_1 l2_2.toInt (xr l2_2))
    | succ N2 ih2 =>
      intro l2_2 G_2 H locs ls hF_2 I2_0 I2_1 I2_2 hm2 hT hS hl
      refine lv_iload_n hx hb dX11_putWord_2 rfl (lv_at hl 2 rfl) ?_
      refine lv_aload_n hx hb dX11_putWord_3 rfl (lv_at hl 1 rfl) ?_
      refine len_wd S hK hT hp0 dX11_putWord_4 (fun x4 t4 => ?_)
      refine xi_cge (tgt := 21) hx hb (rfl : Int32.toInt l2_2 = l2_2.toInt) (rfl : Int32.toInt x4 = x4.toInt) dX11_putWord_5 (by decide) (fun c5 => ?_) (fun c5 => ?_)
      · exact x_rv hx hb hr hlk hQ (Nat.le_of_ble_eq_true rfl) (Nat.le_of_ble_eq_true rfl) hS dX11_putWord_21 G_2 ⟨(XFr.call XFr.rf hF_2 (xm1 0 rfl xm0) (xm1 0 rfl xm0) xm0), (z_X11_putWord_2 l2_2.toInt x4.toInt n0 ((G.1 a 23).toInt) ((G_2.1 a 23).toInt) I2_0 I2_1 t4 c5)⟩ hT
      · refine lv_aload_n hx hb dX11_putWord_8 rfl (lv_at hl 0 rfl) ?_
        refine lv_aload_n hx hb dX11_putWord_9 rfl (lv_at hl 1 rfl) ?_
        refine lv_iload_n hx hb dX11_putWord_10 rfl (lv_at hl 2 rfl) ?_
        refine ald_wd S hK hT hp0 (z_X11_putWord_3 l2_2.toInt x4.toInt n0 I2_1 t4 c5) dX11_putWord_11 (fun x11 hv11 o11 => ?_)
        refine x_cv0 (x_runV (b := a) (As := [.int x11]) (rest := []) S (c_X11_puts l E K F G_2 a x11 ha (z_X11_putWord_4 l2_2.toInt x4.toInt n0 ((G.1 a 23).toInt) ((G_2.1 a 23).toInt) w0 I2_0 I2_1 t4 c5)) mv_X11_puts km_X11_227 rfl rfl ⟨Nat.le_of_ble_eq_true rfl, Nat.le_of_ble_eq_true rfl⟩ (rc_13 hK hT ha) hK (fun _ => XP.blind) (fun U hU hW => XP.at hK hz hS hT hU hW) rfl hl.1 (Nat.le_of_ble_eq_true rfl) dX11_putWord_12 ⟨Nat.le_of_ble_eq_true rfl, Nat.le_of_ble_eq_true rfl⟩) hS ?_
        rintro G12 H locs ⟨hF12, t12⟩ hT hS
        have t12 : ((G12.1 a 23).toInt) = ((G_2.1 a 23).toInt) + 1 := t12
        refine xi_iinc (n := 1) (lv' := fun z9 => [(2, .int z9), (0, .ref a), (1, .ref p0)]) (k := 2) hx hb (rfl : Int32.toInt l2_2 = l2_2.toInt) (by decide) dX11_putWord_15 hl rfl (by decide) (fun _ => rfl) (fun x15 ls t15 hl => ?_)
        have e15 : x15.toInt = (l2_2.toInt + 1) := (z_X11_putWord_5 l2_2.toInt x15.toInt n0 ((G.1 a 23).toInt) w0 I2_1 t15)
        have hl : lv_has ls 3 [(2, .int x15), (0, .ref a), (1, .ref p0)] := hl
        refine lv_goto (tgt := 2) hx hb dX11_putWord_18 (by decide) ?_
        exact ih2 x15 G12 _ _ _ (XFr.call (XFr.call XFr.rf hF_2 (xm1 0 rfl xm0) (xm1 0 rfl xm0) xm0) hF12 (xm1 0 rfl xm0) (xm1 0 rfl xm0) xm0) (by rw [(e15 : Int32.toInt x15 = (l2_2.toInt + 1))] <;> exact (z_X11_putWord_6 l2_2.toInt ((G.1 a 23).toInt) ((G12.1 a 23).toInt) ((G_2.1 a 23).toInt) I2_0 t12)) (by rw [(e15 : Int32.toInt x15 = (l2_2.toInt + 1))] <;> exact (z_X11_putWord_7 l2_2.toInt x4.toInt n0 I2_1 t4 c5)) (by rw [(e15 : Int32.toInt x15 = (l2_2.toInt + 1))] <;> exact (z_X11_putWord_8 l2_2.toInt n0 I2_1)) (by rw [(e15 : Int32.toInt x15 = (l2_2.toInt + 1))] <;> exact (z_X11_putWord_9 l2_2.toInt N2 hm2)) hT hS (lv_sub hl [1, 2, 0] rfl)
  exact L2 4294967297 0 G _ _ _ XFr.rf (z_X11_putWord_10 ((G.1 a 23).toInt)) (z_X11_putWord_11 n0) (by decide) (by decide) hT hS (lv_sub hl [1, 2, 0] rfl)

theorem z_X11_failed_1 (a0 : Int) (a1 : Int) (a2 : Int) (h0 : a0 = -2147483648 ∧ a1 = -2147483648 ∧ a2 = 0) : 0 ≤ a2 ∧ a2 + 4 ≤ 24 := by omega
theorem z_X11_failed_2 (a0 : Int) (a1 : Int) (a2 : Int) (a3 : Int) (h0 : a0 = -2147483648 ∧ a1 = -2147483648 ∧ a2 = 0) (h1 : a3 = a2 + 4) : 0 ≤ a3 ∧ a3 ≤ 23 := by omega
theorem z_X11_failed_3 (a0 : Int) (a1 : Int) (a2 : Int) (a3 : Int) (a4 : Int) (h0 : a0 = -2147483648 ∧ a1 = -2147483648 ∧ a2 = 0) (h1 : a3 = a2 + 4) (h2 : a4 = a3 + 1) : 0 ≤ a4 ∧ a4 ≤ 20 := by omega
theorem z_X11_failed_4 (a0 : Int) (h0 : 0 ≤ a0 ∧ a0 ≤ 11) : -99 ≤ a0 ∧ a0 ≤ 99 := by omega
theorem z_X11_failed_5 (a0 : Int) (a1 : Int) (a2 : Int) (a3 : Int) (a4 : Int) (a5 : Int) (h0 : a0 = -2147483648 ∧ a1 = -2147483648 ∧ a2 = 0) (h1 : a3 = a2 + 4) (h2 : a4 = a3 + 1) (h3 : a4 + 1 ≤ a5 ∧ a5 ≤ a4 + 3) : 0 ≤ a5 ∧ a5 ≤ 23 := by omega
theorem z_X11_failed_7 (a0 : Nat) (a1 : Int) (a2 : Int) (a3 : Int) (a4 : Int) (a5 : Int) (a6 : Int) (a7 : Int) (h0 : a1 = -2147483648 ∧ a2 = -2147483648 ∧ a3 = 0) (h1 : a4 = a3 + 4) (h2 : a5 = a4 + 1) (h3 : a5 + 1 ≤ a6 ∧ a6 ≤ a5 + 3) (h4 : a7 = a6 + 1) (h5 : ((a0 : Nat) : Int) ≤ 6) : 0 ≤ a7 ∧ a7 + ((a0 : Nat) : Int) ≤ 24 := by omega
theorem z_X11_failed_8 (a0 : Nat) (a1 : Int) (a2 : Int) (a3 : Int) (a4 : Int) (a5 : Int) (a6 : Int) (a7 : Int) (a8 : Int) (h0 : a1 = -2147483648 ∧ a2 = -2147483648 ∧ a3 = 0) (h1 : a4 = a3 + 4) (h2 : a5 = a4 + 1) (h3 : a5 + 1 ≤ a6 ∧ a6 ≤ a5 + 3) (h4 : a7 = a6 + 1) (h5 : ((a0 : Nat) : Int) ≤ 6) (h6 : a8 = a7 + ((a0 : Nat) : Int)) : 0 ≤ a8 ∧ a8 ≤ 23 := by omega
theorem z_X11_failed_9 (a0 : Nat) (a1 : Int) (a2 : Int) (a3 : Int) (a4 : Int) (a5 : Int) (a6 : Int) (a7 : Int) (a8 : Int) (a9 : Int) (h0 : a1 = -2147483648 ∧ a2 = -2147483648 ∧ a3 = 0) (h1 : a4 = a3 + 4) (h2 : a5 = a4 + 1) (h3 : a5 + 1 ≤ a6 ∧ a6 ≤ a5 + 3) (h4 : a7 = a6 + 1) (h5 : ((a0 : Nat) : Int) ≤ 6) (h6 : a8 = a7 + ((a0 : Nat) : Int)) (h7 : a9 = a8 + 1) : 0 ≤ a9 ∧ a9 ≤ 20 := by omega
theorem z_X11_failed_11 (a0 : Int) (a1 : Int) (a2 : Nat) (a3 : Int) (a4 : Int) (a5 : Int) (a6 : Int) (a7 : Int) (a8 : Int) (a9 : Int) (a10 : Int) (a11 : Int) (a12 : Int) (h0 : a3 = -2147483648 ∧ a4 = -2147483648 ∧ a5 = 0) (h1 : a6 = a5 + 4) (h2 : a7 = a6 + 1) (h3 : a7 + 1 ≤ a8 ∧ a8 ≤ a7 + 3) (h4 : a9 = a8 + 1) (h5 : 3 ≤ ((a2 : Nat) : Int) ∧ ((a2 : Nat) : Int) ≤ 7) (h6 : a10 = a9 + ((a2 : Nat) : Int)) (h7 : a11 = a10 + 1) (h8 : a11 + 1 ≤ a12 ∧ a12 ≤ a11 + 3) : a0 = a0 ∧ a1 = a1 ∧ 0 ≤ a12 ∧ a12 ≤ 24 := by omega
abbrev rm_X11_failed : Room := { frames := 2, cells := 0, slots := 0, locals := 43 }
set_option maxHeartbeats 4000000 in
set_option maxRecDepth 100000 in
theorem c_X11_failed (l : Launch) (E : XE) (K : Nat → Nat) (F : Nat → Nat → Nat) (G : XG) (a : Nat) (p0 : Int32) (p1 : Int32) (ha : K a = 13) (e0 : 0 ≤ p0.toInt ∧ p0.toInt ≤ 11) (e1 : -99 ≤ p1.toInt ∧ p1.toInt ≤ 99) : Met l yX11_failed (xw yX11_failed cX11_failed 3 none) rm_X11_failed (va_Pc [.ref a, .int p0, .int p1] (XP E K F G)) (XQv E (fun (u : XG) => XFr [(a, 20), (a, 21), (a, 23)] [F a 22] [] G u ∧ (((u.1 a 20).toInt) = p0.toInt ∧ ((u.1 a 21).toInt) = p1.toInt ∧ 0 ≤ ((u.1 a 23).toInt) ∧ ((u.1 a 23).toInt) ≤ 24)) (fun u H => TW E K F u H)) 0 0 (xA E) := by
  refine x_enter (by decide) (Nat.le_of_ble_eq_true rfl) ?_
  intro p e s m args below meth c Q S hr hlk hnm hQ hP ls hl
  obtain ⟨hz, hK, hT⟩ := hP
  obtain ⟨hx, hb, -, -, -⟩ := id S
  obtain ⟨H, hT, hS, hgo⟩ : ∃ H : Heap, TW E K F G H ∧ va_S (xA E) s.heap H [] ∧ H = s.heap := ⟨_, hT, va_S.rf, rfl⟩
  rw [← hgo]
  have hl : lv_has ls 3 [(0, .ref a), (1, .int p0), (2, .int p1)] := hl
  obtain ⟨hk9999, hj9999⟩ := fkX11_22 hT ha
  refine lv_aload_n hx hb dX11_failed_0 rfl (lv_at hl 0 rfl) ?_
  refine x_cv0 (x_runV (b := a) (As := []) (rest := []) S (c_X11_nothing l E K F G a ha) mv_X11_nothing km_X11_231 rfl rfl ⟨Nat.le_of_ble_eq_true rfl, Nat.le_of_ble_eq_true rfl⟩ (rc_13 hK hT ha) hK (fun _ => XP.blind) (fun U hU hW => XP.at hK hz hS hT hU hW) rfl hl.1 (Nat.le_of_ble_eq_true rfl) dX11_failed_1 ⟨Nat.le_of_ble_eq_true rfl, Nat.le_of_ble_eq_true rfl⟩) hS ?_
  rintro G1 H locs ⟨hF1, t1⟩ hT hS
  have t1 : ((G1.1 a 20).toInt) = -2147483648 ∧ ((G1.1 a 21).toInt) = -2147483648 ∧ ((G1.1 a 23).toInt) = 0 := t1
  refine lv_aload_n hx hb dX11_failed_4 rfl (lv_at hl 0 rfl) ?_
  refine lv_iload_n hx hb dX11_failed_5 rfl (lv_at hl 1 rfl) ?_
  refine pX11_20 (v := p0) S hK hT hS ha kf_X11_58 dX11_failed_6 (fun H locs hT hS => ?_)
  obtain ⟨G6, hG6⟩ : ∃ GG : XG, GG = dput G1 a 20 p0 := ⟨_, rfl⟩
  rw [← hG6] at hT
  refine lv_aload_n hx hb dX11_failed_9 rfl (lv_at hl 0 rfl) ?_
  refine lv_iload_n hx hb dX11_failed_10 rfl (lv_at hl 2 rfl) ?_
  refine pX11_21 (v := p1) S hK hT hS ha kf_X11_62 dX11_failed_11 (fun H locs hT hS => ?_)
  obtain ⟨G11, hG11⟩ : ∃ GG : XG, GG = dput G6 a 21 p1 := ⟨_, rfl⟩
  rw [← hG11] at hT
  refine lv_aload_n hx hb dX11_failed_14 rfl (lv_at hl 0 rfl) ?_
  refine lv_aload_n hx hb dX11_failed_15 rfl (lv_at hl 0 rfl) ?_
  obtain ⟨hk16, hj16⟩ := fkX11_24 hT ha
  refine gX11_24 S hK hT ha kf_X11_69 dX11_failed_16 (fun _ _ => ?_)
  refine x_cv0 (x_runV (b := a) (As := [.ref (F a 24)]) (rest := []) S (c_X11_putWord l E K F G11 a (F a 24) 4 ha (XWd.k47 hk16) (by rw [(show (G11.1 a 23).toInt = ((G1.1 a 23).toInt) from (congrArg Int32.toInt ((ld_j hG11 (by decide)).trans (ld_j hG6 (by decide)))).trans (rfl : Int32.toInt (G1.1 a 23) = ((G1.1 a 23).toInt)))] <;> exact (z_X11_failed_1 ((G1.1 a 20).toInt) ((G1.1 a 21).toInt) ((G1.1 a 23).toInt) t1))) mv_X11_putWord km_X11_234 rfl rfl ⟨Nat.le_of_ble_eq_true rfl, Nat.le_of_ble_eq_true rfl⟩ (rc_13 hK hT ha) hK (fun _ => XP.blind) (fun U hU hW => XP.at hK hz hS hT hU hW) rfl hl.1 (Nat.le_of_ble_eq_true rfl) dX11_failed_19 ⟨Nat.le_of_ble_eq_true rfl, Nat.le_of_ble_eq_true rfl⟩) hS ?_
  rintro G19 H locs ⟨hF19, t19⟩ hT hS
  have t19 : ((G19.1 a 23).toInt) = ((G1.1 a 23).toInt) + 4 := by rw [(show (G11.1 a 23).toInt = ((G1.1 a 23).toInt) from (congrArg Int32.toInt ((ld_j hG11 (by decide)).trans (ld_j hG6 (by decide)))).trans (rfl : Int32.toInt (G1.1 a 23) = ((G1.1 a 23).toInt)))] at t19; exact t19
  refine lv_aload_n hx hb dX11_failed_22 rfl (lv_at hl 0 rfl) ?_
  refine lv_bipush (v := 32) hx hb dX11_failed_23 (by decide) ?_
  refine x_cv0 (x_runV (b := a) (As := [.int 32]) (rest := []) S (c_X11_puts l E K F G19 a 32 ha (z_X11_failed_2 ((G1.1 a 20).toInt) ((G1.1 a 21).toInt) ((G1.1 a 23).toInt) ((G19.1 a 23).toInt) t1 t19)) mv_X11_puts km_X11_227 rfl rfl ⟨Nat.le_of_ble_eq_true rfl, Nat.le_of_ble_eq_true rfl⟩ (rc_13 hK hT ha) hK (fun _ => XP.blind) (fun U hU hW => XP.at hK hz hS hT hU hW) rfl hl.1 (Nat.le_of_ble_eq_true rfl) dX11_failed_25 ⟨Nat.le_of_ble_eq_true rfl, Nat.le_of_ble_eq_true rfl⟩) hS ?_
  rintro G25 H locs ⟨hF25, t25⟩ hT hS
  have t25 : ((G25.1 a 23).toInt) = ((G19.1 a 23).toInt) + 1 := t25
  refine lv_aload_n hx hb dX11_failed_28 rfl (lv_at hl 0 rfl) ?_
  refine lv_iload_n hx hb dX11_failed_29 rfl (lv_at hl 1 rfl) ?_
  refine x_cv0 (x_runV (b := a) (As := [.int p0]) (rest := []) S (c_X11_putNumber l E K F G25 a p0 ha (z_X11_failed_3 ((G1.1 a 20).toInt) ((G1.1 a 21).toInt) ((G1.1 a 23).toInt) ((G19.1 a 23).toInt) ((G25.1 a 23).toInt) t1 t19 t25) (z_X11_failed_4 p0.toInt e0)) mv_X11_putNumber km_X11_238 rfl rfl ⟨Nat.le_of_ble_eq_true rfl, Nat.le_of_ble_eq_true rfl⟩ (rc_13 hK hT ha) hK (fun _ => XP.blind) (fun U hU hW => XP.at hK hz hS hT hU hW) rfl hl.1 (Nat.le_of_ble_eq_true rfl) dX11_failed_30 ⟨Nat.le_of_ble_eq_true rfl, Nat.le_of_ble_eq_true rfl⟩) hS ?_
  rintro G30 H locs ⟨hF30, t30⟩ hT hS
  have t30 : ((G25.1 a 23).toInt) + 1 ≤ ((G30.1 a 23).toInt) ∧ ((G30.1 a 23).toInt) ≤ ((G25.1 a 23).toInt) + 3 := t30
  refine lv_aload_n hx hb dX11_failed_33 rfl (lv_at hl 0 rfl) ?_
  refine lv_bipush (v := 32) hx hb dX11_failed_34 (by decide) ?_
  refine x_cv0 (x_runV (b := a) (As := [.int 32]) (rest := []) S (c_X11_puts l E K F G30 a 32 ha (z_X11_failed_5 ((G1.1 a 20).toInt) ((G1.1 a 21).toInt) ((G1.1 a 23).toInt) ((G19.1 a 23).toInt) ((G25.1 a 23).toInt) ((G30.1 a 23).toInt) t1 t19 t25 t30)) mv_X11_puts km_X11_227 rfl rfl ⟨Nat.le_of_ble_eq_true rfl, Nat.le_of_ble_eq_true rfl⟩ (rc_13 hK hT ha) hK (fun _ => XP.blind) (fun U hU hW => XP.at hK hz hS hT hU hW) rfl hl.1 (Nat.le_of_ble_eq_true rfl) dX11_failed_36 ⟨Nat.le_of_ble_eq_true rfl, Nat.le_of_ble_eq_true rfl⟩) hS ?_
  rintro G36 H locs ⟨hF36, t36⟩ hT hS
  have t36 : ((G36.1 a 23).toInt) = ((G30.1 a 23).toInt) + 1 := t36
  refine lv_aload_n hx hb dX11_failed_39 rfl (lv_at hl 0 rfl) ?_
  refine lv_aload_n hx hb dX11_failed_40 rfl (lv_at hl 0 rfl) ?_
  refine lv_aload_n hx hb dX11_failed_41 rfl (lv_at hl 0 rfl) ?_
  refine lv_iload_n hx hb dX11_failed_42 rfl (lv_at hl 1 rfl) ?_
  refine lv_iconst (v := 0) hx hb dX11_failed_43 (by decide) ?_
  refine x_clp (x_runV (b := a) (As := [.int p0, .int 0]) (rest := [.ref a, .ref a]) S (c_X11_of l E K F G36 H a p0 0 ha (e0) (by decide)) mv_X11_of km_X11_165 rfl rfl ⟨Nat.le_of_ble_eq_true rfl, Nat.le_of_ble_eq_true rfl⟩ (rc_13 hK hT ha) hK (fun _ => XPh.blind) (fun U hU hW => XPh.at hK hz hS hT hU hW) rfl hl.1 (Nat.le_of_ble_eq_true rfl) dX11_failed_44 ⟨Nat.le_of_ble_eq_true rfl, Nat.le_of_ble_eq_true rfl⟩) hS ?_
  rintro _ _ locs ⟨x44, rfl, t44⟩ hS
  obtain ⟨hk44, hj44⟩ := fkX11_10 hT ha
  have t44 : x44.toInt = (aI (G.2.1 (F a 10)) (10 * p0.toInt + 0)) := by rw [(show G36.2.1 (F a 10) = G.2.1 (F a 10) from ((hF36.2.1 _ (xn1 (xne_k hk44 hk9999 (by decide)) xn0)).trans ((hF30.2.1 _ (xn1 (xne_k hk44 hk9999 (by decide)) xn0)).trans ((hF25.2.1 _ (xn1 (xne_k hk44 hk9999 (by decide)) xn0)).trans ((hF19.2.1 _ (xn1 (xne_k hk44 hk9999 (by decide)) xn0)).trans ((ld_c hG11).trans ((ld_c hG6).trans (hF1.2.1 _ xn0))))))))] at t44; exact t44
  refine x_clp (x_runV (b := a) (As := [.int x44]) (rest := [.ref a]) S (c_X11_wordOf l E K F G36 H a x44 ha) mv_X11_wordOf km_X11_241 rfl rfl ⟨Nat.le_of_ble_eq_true rfl, Nat.le_of_ble_eq_true rfl⟩ (rc_13 hK hT ha) hK (fun _ => XPh.blind) (fun U hU hW => XPh.at hK hz hS hT hU hW) rfl hl.1 (Nat.le_of_ble_eq_true rfl) dX11_failed_47 ⟨Nat.le_of_ble_eq_true rfl, Nat.le_of_ble_eq_true rfl⟩) hS ?_
  rintro _ _ locs ⟨q47, n47, rfl, hw47, hl47⟩ hS
  refine x_cv0 (x_runV (b := a) (As := [.ref q47]) (rest := []) S (c_X11_putWord l E K F G36 a q47 n47 ha hw47 (z_X11_failed_7 n47 ((G1.1 a 20).toInt) ((G1.1 a 21).toInt) ((G1.1 a 23).toInt) ((G19.1 a 23).toInt) ((G25.1 a 23).toInt) ((G30.1 a 23).toInt) ((G36.1 a 23).toInt) t1 t19 t25 t30 t36 hl47)) mv_X11_putWord km_X11_234 rfl rfl ⟨Nat.le_of_ble_eq_true rfl, Nat.le_of_ble_eq_true rfl⟩ (rc_13 hK hT ha) hK (fun _ => XP.blind) (fun U hU hW => XP.at hK hz hS hT hU hW) rfl hl.1 (Nat.le_of_ble_eq_true rfl) dX11_failed_50 ⟨Nat.le_of_ble_eq_true rfl, Nat.le_of_ble_eq_true rfl⟩) hS ?_
  rintro G50 H locs ⟨hF50, t50⟩ hT hS
  have t50 : ((G50.1 a 23).toInt) = ((G36.1 a 23).toInt) + (((n47) : Nat) : Int) := t50
  refine lv_aload_n hx hb dX11_failed_53 rfl (lv_at hl 0 rfl) ?_
  refine lv_bipush (v := 32) hx hb dX11_failed_54 (by decide) ?_
  refine x_cv0 (x_runV (b := a) (As := [.int 32]) (rest := []) S (c_X11_puts l E K F G50 a 32 ha (z_X11_failed_8 n47 ((G1.1 a 20).toInt) ((G1.1 a 21).toInt) ((G1.1 a 23).toInt) ((G19.1 a 23).toInt) ((G25.1 a 23).toInt) ((G30.1 a 23).toInt) ((G36.1 a 23).toInt) ((G50.1 a 23).toInt) t1 t19 t25 t30 t36 hl47 t50)) mv_X11_puts km_X11_227 rfl rfl ⟨Nat.le_of_ble_eq_true rfl, Nat.le_of_ble_eq_true rfl⟩ (rc_13 hK hT ha) hK (fun _ => XP.blind) (fun U hU hW => XP.at hK hz hS hT hU hW) rfl hl.1 (Nat.le_of_ble_eq_true rfl) dX11_failed_56 ⟨Nat.le_of_ble_eq_true rfl, Nat.le_of_ble_eq_true rfl⟩) hS ?_
  rintro G56 H locs ⟨hF56, t56⟩ hT hS
  have t56 : ((G56.1 a 23).toInt) = ((G50.1 a 23).toInt) + 1 := t56
  refine lv_aload_n hx hb dX11_failed_59 rfl (lv_at hl 0 rfl) ?_
  refine lv_iload_n hx hb dX11_failed_60 rfl (lv_at hl 2 rfl) ?_
  refine x_cv0 (x_runV (b := a) (As := [.int p1]) (rest := []) S (c_X11_putNumber l E K F G56 a p1 ha (z_X11_failed_9 n47 ((G1.1 a 20).toInt) ((G1.1 a 21).toInt) ((G1.1 a 23).toInt) ((G19.1 a 23).toInt) ((G25.1 a 23).toInt) ((G30.1 a 23).toInt) ((G36.1 a 23).toInt) ((G50.1 a 23).toInt) ((G56.1 a 23).toInt) t1 t19 t25 t30 t36 hl47 t50 t56) (e1)) mv_X11_putNumber km_X11_238 rfl rfl ⟨Nat.le_of_ble_eq_true rfl, Nat.le_of_ble_eq_true rfl⟩ (rc_13 hK hT ha) hK (fun _ => XP.blind) (fun U hU hW => XP.at hK hz hS hT hU hW) rfl hl.1 (Nat.le_of_ble_eq_true rfl) dX11_failed_61 ⟨Nat.le_of_ble_eq_true rfl, Nat.le_of_ble_eq_true rfl⟩) hS ?_
  rintro G61 H locs ⟨hF61, t61⟩ hT hS
  have t61 : ((G56.1 a 23).toInt) + 1 ≤ ((G61.1 a 23).toInt) ∧ ((G61.1 a 23).toInt) ≤ ((G56.1 a 23).toInt) + 3 := t61
  exact x_rv hx hb hr hlk hQ (Nat.le_of_ble_eq_true rfl) (Nat.le_of_ble_eq_true rfl) hS dX11_failed_64 G61 ⟨(XFr.call (XFr.call (XFr.call (XFr.call (XFr.call (XFr.call (XFr.call (by rw [hG11]; exact XFr.dput (by rw [hG6]; exact XFr.dput (XFr.call XFr.rf hF1 (xm1 0 rfl (xm1 1 rfl (xm1 2 rfl xm0))) xm0 xm0) (List.mem_of_getElem? (i := 0) rfl)) (List.mem_of_getElem? (i := 1) rfl)) hF19 (xm1 2 rfl xm0) (xm1 0 rfl xm0) xm0) hF25 (xm1 2 rfl xm0) (xm1 0 rfl xm0) xm0) hF30 (xm1 2 rfl xm0) (xm1 0 rfl xm0) xm0) hF36 (xm1 2 rfl xm0) (xm1 0 rfl xm0) xm0) hF50 (xm1 2 rfl xm0) (xm1 0 rfl xm0) xm0) hF56 (xm1 2 rfl xm0) (xm1 0 rfl xm0) xm0) hF61 (xm1 2 rfl xm0) (xm1 0 rfl xm0) xm0), (by rw [(show (G61.1 a 20).toInt = p0.toInt from (congrArg Int32.toInt ((hF61.1 _ _ (xnj (by decide) xn0)).trans ((hF56.1 _ _ (xnj (by decide) xn0)).trans ((hF50.1 _ _ (xnj (by decide) xn0)).trans ((hF36.1 _ _ (xnj (by decide) xn0)).trans ((hF30.1 _ _ (xnj (by decide) xn0)).trans ((hF25.1 _ _ (xnj (by decide) xn0)).trans ((hF19.1 _ _ (xnj (by decide) xn0)).trans ((ld_j hG11 (by decide)).trans (ld_at hG6)))))))))).trans (rfl : Int32.toInt p0 = p0.toInt)), (show (G61.1 a 21).toInt = p1.toInt from (congrArg Int32.toInt ((hF61.1 _ _ (xnj (by decide) xn0)).trans ((hF56.1 _ _ (xnj (by decide) xn0)).trans ((hF50.1 _ _ (xnj (by decide) xn0)).trans ((hF36.1 _ _ (xnj (by decide) xn0)).trans ((hF30.1 _ _ (xnj (by decide) xn0)).trans ((hF25.1 _ _ (xnj (by decide) xn0)).trans ((hF19.1 _ _ (xnj (by decide) xn0)).trans (ld_at hG11))))))))).trans (rfl : Int32.toInt p1 = p1.toInt))] <;> exact (z_X11_failed_11 p0.toInt p1.toInt n47 ((G1.1 a 20).toInt) ((G1.1 a 21).toInt) ((G1.1 a 23).toInt) ((G19.1 a 23).toInt) ((G25.1 a 23).toInt) ((G30.1 a 23).toInt) ((G36.1 a 23).toInt) ((G50.1 a 23).toInt) ((G56.1 a 23).toInt) ((G61.1 a 23).toInt) t1 t19 t25 t30 t36 (XWd.lim hw47) t50 t56 t61))⟩ hT

