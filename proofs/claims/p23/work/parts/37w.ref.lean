theorem z_X11_puts_1 (a0 : Int) (h0 : 0 ≤ a0 ∧ a0 ≤ 23) : 0 ≤ a0 ∧ a0 < ((24 : Nat) : Int) := by omega
theorem z_X11_puts_2 (a0 : Int) (a1 : Int) (h0 : 0 ≤ a1 ∧ a1 ≤ 23) (h1 : a0 = (a1 + (1 : Int)) ∨ (a1 + (1 : Int)) < -2147483648 ∨ 2147483648 ≤ (a1 + (1 : Int))) : a0 = (a1 + (1 : Int)) := by omega
theorem z_X11_puts_3 (a0 : Int) : (a0 + (1 : Int)) = a0 + 1 := by omega
abbrev rm_X11_puts : Room := { frames := 0, cells := 0, slots := 0, locals := 0 }
set_option maxHeartbeats 4000000 in
set_option maxRecDepth 100000 in
theorem c_X11_puts (l : Launch) (E : XE) (K : Nat → Nat) (F : Nat → Nat → Nat) (G : XG) (a : Nat) (p0 : Int32) (ha : K a = 13) (w0 : 0 ≤ ((G.1 a 23).toInt) ∧ ((G.1 a 23).toInt) ≤ 23) : Met l yX11_puts (xw yX11_puts cX11_puts 2 none) rm_X11_puts (va_Pc [.ref a, .int p0] (XP E K F G)) (XQv E (fun (u : XG) => XFr [(a, 23)] [F a 22] [] G u ∧ (((u.1 a 23).toInt) = ((G.1 a 23).toInt) + 1)) (fun u H => TW E K F u H)) 0 0 (xA E) := by
  refine x_enter (by decide) (Nat.le_of_ble_eq_true rfl) ?_
  intro p e s m args below meth c Q S hr hlk hnm hQ hP ls hl
  obtain ⟨hz, hK, hT⟩ := hP
  obtain ⟨hx, hb, -, -, -⟩ := id S
  obtain ⟨H, hT, hS, hgo⟩ : ∃ H : Heap, TW E K F G H ∧ va_S (xA E) s.heap H [] ∧ H = s.heap := ⟨_, hT, va_S.rf, rfl⟩
  rw [← hgo]
  have hl : lv_has ls 2 [(0, .ref a), (1, .int p0)] := hl
  obtain ⟨hk9999, hj9999⟩ := fkX11_22 hT ha
  refine lv_aload_n hx hb dX11_puts_0 rfl (lv_at hl 0 rfl) ?_
  refine gX11_22 S hK hT ha kf_X11_65 dX11_puts_1 (fun _ _ => ?_)
  refine lv_aload_n hx hb dX11_puts_4 rfl (lv_at hl 0 rfl) ?_
  refine gX11_23 S hK hT ha kf_X11_224 dX11_puts_5 (v := (G.1 a 23)) rfl (?_)
  refine lv_iload_n hx hb dX11_puts_8 rfl (lv_at hl 1 rfl) ?_
  refine lv_i2b hx hb dX11_puts_9 rfl (lv_topi (fun x9 eb9 => ?_))
  refine as_2 (x := x9) S hK hT hS hk9999 ar_45 aw_45 (by decide) (z_X11_puts_1 ((G.1 a 23).toInt) w0) dX11_puts_10 (fun H locs hT hS => ?_)
  rw [(xnar2 (xok_i2b eb9))] at hT
  obtain ⟨G10, hG10⟩ : ∃ GG : XG, GG = cput G (F a 22) (G.1 a 23).toNatClampNeg x9 := ⟨_, rfl⟩
  rw [← hG10] at hT
  refine lv_aload_n hx hb dX11_puts_11 rfl (lv_at hl 0 rfl) ?_
  refine lv_dup hx hb dX11_puts_12 rfl ?_
  refine gX11_23 S hK hT ha kf_X11_224 dX11_puts_13 (v := (G.1 a 23)) (lc_d hG10) (?_)
  refine lv_iconst (v := 1) hx hb dX11_puts_16 (by decide) ?_
  refine xi_iadd hx hb (rfl : Int32.toInt (G.1 a 23) = ((G.1 a 23).toInt)) ((by decide) : Int32.toInt 1 = (1 : Int)) dX11_puts_17 (fun x17 t17 => ?_)
  have e17 : x17.toInt = (((G.1 a 23).toInt) + (1 : Int)) := (z_X11_puts_2 x17.toInt ((G.1 a 23).toInt) w0 t17)
  refine pX11_23 (v := x17) S hK hT hS ha kf_X11_224 dX11_puts_18 (fun H locs hT hS => ?_)
  obtain ⟨G18, hG18⟩ : ∃ GG : XG, GG = dput G10 a 23 x17 := ⟨_, rfl⟩
  rw [← hG18] at hT
  exact x_rv hx hb hr hlk hQ (Nat.le_of_ble_eq_true rfl) (Nat.le_of_ble_eq_true rfl) hS dX11_puts_21 G18 ⟨(by rw [hG18]; exact XFr.dput (by rw [hG10]; exact XFr.cput XFr.rf (List.mem_of_getElem? (i := 0) rfl)) (List.mem_of_getElem? (i := 0) rfl)), (by rw [(show (G18.1 a 23).toInt = (((G.1 a 23).toInt) + (1 : Int)) from (congrArg Int32.toInt (ld_at hG18)).trans (e17 : Int32.toInt x17 = (((G.1 a 23).toInt) + (1 : Int))))] <;> exact (z_X11_puts_3 ((G.1 a 23).toInt)))⟩ hT

theorem z_X11_putNumber_1 (a0 : Int) (h0 : 0 ≤ a0 ∧ a0 ≤ 20) : 0 ≤ a0 ∧ a0 ≤ 23 := by omega
theorem z_X11_putNumber_2 (a0 : Int) (a1 : Int) (h0 : a1 = a0 + 1) : a0 + 1 ≤ a1 ∧ a1 ≤ a0 + 3 := by omega
theorem z_X11_putNumber_4 (a0 : Int) (a1 : Int) (h0 : 0 ≤ a0 ∧ a0 ≤ 20) (h1 : a1 = a0 + 1) : 0 ≤ a1 ∧ a1 ≤ 23 := by omega
theorem z_X11_putNumber_5 (a0 : Int) (a1 : Int) (a2 : Int) (h0 : a1 = a0 + 1) (h1 : a2 = a1 + 1) : a0 + 1 ≤ a2 ∧ a2 ≤ a0 + 3 := by omega
theorem z_X11_putNumber_13 (a0 : Int) (a1 : Int) (a2 : Int) (h0 : a2 = a0 + 1) (h1 : a1 = a2 + 1) : a0 + 1 ≤ a1 ∧ a1 ≤ a0 + 3 := by omega
theorem z_X11_putNumber_15 (a0 : Int) (a1 : Int) (a2 : Int) (h0 : 0 ≤ a0 ∧ a0 ≤ 20) (h1 : a2 = a0 + 1) (h2 : a1 = a2 + 1) : 0 ≤ a1 ∧ a1 ≤ 23 := by omega
theorem z_X11_putNumber_16 (a0 : Int) (a1 : Int) (a2 : Int) (a3 : Int) (h0 : a3 = a0 + 1) (h1 : a1 = a3 + 1) (h2 : a2 = a1 + 1) : a0 + 1 ≤ a2 ∧ a2 ≤ a0 + 3 := by omega
abbrev rm_X11_putNumber : Room := { frames := 1, cells := 0, slots := 0, locals := 21 }
set_option maxHeartbeats 4000000 in
set_option maxRecDepth 100000 in
theorem c_X11_putNumber (l : Launch) (E : XE) (K : Nat → Nat) (F : Nat → Nat → Nat) (G : XG) (a : Nat) (p0 : Int32) (ha : K a = 13) (w0 : 0 ≤ ((G.1 a 23).toInt) ∧ ((G.1 a 23).toInt) ≤ 20) (e0 : -99 ≤ p0.toInt ∧ p0.toInt ≤ 99) : Met l yX11_putNumber (xw yX11_putNumber cX11_putNumber 3 none) rm_X11_putNumber (va_Pc [.ref a, .int p0] (XP E K F G)) (XQv E (fun (u : XG) => XFr [(a, 23)] [F a 22] [] G u ∧ (((G.1 a 23).toInt) + 1 ≤ ((u.1 a 23).toInt) ∧ ((u.1 a 23).toInt) ≤ ((G.1 a 23).toInt) + 3)) (fun u H => TW E K F u H)) 0 0 (xA E) := by
  refine x_enter (by decide) (Nat.le_of_ble_eq_true rfl) ?_
  intro p e s m args below meth c Q S hr hlk hnm hQ hP ls hl
  obtain ⟨hz, hK, hT⟩ := hP
  obtain ⟨hx, hb, -, -, -⟩ := id S
  obtain ⟨H, hT, hS, hgo⟩ : ∃ H : Heap, TW E K F G H ∧ va_S (xA E) s.heap H [] ∧ H = s.heap := ⟨_, hT, va_S.rf, rfl⟩
  rw [← hgo]
  have hl : lv_has ls 3 [(0, .ref a), (1, .int p0)] := hl
  obtain ⟨hk9999, hj9999⟩ := fkX11_22 hT ha
  refine lv_iload_n hx hb dX11_putNumber_0 rfl (lv_at hl 1 rfl) ?_
  refine xi_zge (tgt := 10) hx hb (rfl : Int32.toInt p0 = p0.toInt) dX11_putNumber_1 (by decide) (fun c1 => ?_) (fun c1 => ?_)
  · refine lv_iload_n hx hb dX11_putNumber_10 rfl (lv_at hl 1 rfl) ?_
    refine xi_zge (tgt := 19) hx hb (rfl : Int32.toInt p0 = p0.toInt) dX11_putNumber_11 (by decide) (fun c11 => ?_) (fun c11 => ?_)
    · refine lv_iload_n hx hb dX11_putNumber_19 rfl (lv_at hl 1 rfl) ?_
      refine lv_istore_n (lv' := [(2, .int p0), (0, .ref a), (1, .int p0)]) hx hb dX11_putNumber_20 rfl hl (by decide) rfl (fun ls hl => ?_)
      refine lv_iload_n hx hb dX11_putNumber_21 rfl (lv_at hl 0 rfl) ?_
      refine lv_bipush (v := 9) hx hb dX11_putNumber_22 (by decide) ?_
      refine xi_cle (tgt := 38) hx hb (rfl : Int32.toInt p0 = p0.toInt) ((by decide) : Int32.toInt 9 = (9 : Int)) dX11_putNumber_24 (by decide) (fun c24 => ?_) (fun c24 => ?_)
      · refine lv_aload_n hx hb dX11_putNumber_38 rfl (lv_at hl 1 rfl) ?_
        refine lv_bipush (v := 48) hx hb dX11_putNumber_39 (by decide) ?_
        refine lv_iload_n hx hb dX11_putNumber_41 rfl (lv_at hl 0 rfl) ?_
        refine lv_bipush (v := 10) hx hb dX11_putNumber_42 (by decide) ?_
        refine xi_irem hx hb (rfl : Int32.toInt p0 = p0.toInt) ((by decide) : Int32.toInt 10 = (10 : Int)) (by decide) dX11_putNumber_44 (fun x44 t44 => ?_)
        refine xi_iadd hx hb ((by decide) : Int32.toInt 48 = (48 : Int)) (rfl : Int32.toInt x44 = x44.toInt) dX11_putNumber_45 (fun x45 t45 => ?_)
        refine x_cv0 (x_runV (b := a) (As := [.int x45]) (rest := []) S (c_X11_puts l E K F G a x45 ha (z_X11_putNumber_1 ((G.1 a 23).toInt) w0)) mv_X11_puts km_X11_227 rfl rfl ⟨Nat.le_of_ble_eq_true rfl, Nat.le_of_ble_eq_true rfl⟩ (rc_13 hK hT ha) hK (fun _ => XP.blind) (fun U hU hW => XP.at hK hz hS hT hU hW) rfl hl.1 (Nat.le_of_ble_eq_true rfl) dX11_putNumber_46 ⟨Nat.le_of_ble_eq_true rfl, Nat.le_of_ble_eq_true rfl⟩) hS ?_
        rintro G46 H locs ⟨hF46, t46⟩ hT hS
        have t46 : ((G46.1 a 23).toInt) = ((G.1 a 23).toInt) + 1 := t46
        exact x_rv hx hb hr hlk hQ (Nat.le_of_ble_eq_true rfl) (Nat.le_of_ble_eq_true rfl) hS dX11_putNumber_49 G46 ⟨(XFr.call XFr.rf hF46 (xm1 0 rfl xm0) (xm1 0 rfl xm0) xm0), (z_X11_putNumber_2 ((G.1 a 23).toInt) ((G46.1 a 23).toInt) t46)⟩ hT
      · refine lv_aload_n hx hb dX11_putNumber_27 rfl (lv_at hl 1 rfl) ?_
        refine lv_bipush (v := 48) hx hb dX11_putNumber_28 (by decide) ?_
        refine lv_iload_n hx hb dX11_putNumber_30 rfl (lv_at hl 0 rfl) ?_
        refine lv_bipush (v := 10) hx hb dX11_putNumber_31 (by decide) ?_
        refine xi_idiv hx hb (rfl : Int32.toInt p0 = p0.toInt) ((by decide) : Int32.toInt 10 = (10 : Int)) (by decide) dX11_putNumber_33 (fun x33 t33 => ?_)
        refine xi_iadd hx hb ((by decide) : Int32.toInt 48 = (48 : Int)) (rfl : Int32.toInt x33 = x33.toInt) dX11_putNumber_34 (fun x34 t34 => ?_)
        refine x_cv0 (x_runV (b := a) (As := [.int x34]) (rest := []) S (c_X11_puts l E K F G a x34 ha (z_X11_putNumber_1 ((G.1 a 23).toInt) w0)) mv_X11_puts km_X11_227 rfl rfl ⟨Nat.le_of_ble_eq_true rfl, Nat.le_of_ble_eq_true rfl⟩ (rc_13 hK hT ha) hK (fun _ => XP.blind) (fun U hU hW => XP.at hK hz hS hT hU hW) rfl hl.1 (Nat.le_of_ble_eq_true rfl) dX11_putNumber_35 ⟨Nat.le_of_ble_eq_true rfl, Nat.le_of_ble_eq_true rfl⟩) hS ?_
        rintro G35 H locs ⟨hF35, t35⟩ hT hS
        have t35 : ((G35.1 a 23).toInt) = ((G.1 a 23).toInt) + 1 := t35
        refine lv_aload_n hx hb dX11_putNumber_38 rfl (lv_at hl 1 rfl) ?_
        refine lv_bipush (v := 48) hx hb dX11_putNumber_39 (by decide) ?_
        refine lv_iload_n hx hb dX11_putNumber_41 rfl (lv_at hl 0 rfl) ?_
        refine lv_bipush (v := 10) hx hb dX11_putNumber_42 (by decide) ?_
        refine xi_irem hx hb (rfl : Int32.toInt p0 = p0.toInt) ((by decide) : Int32.toInt 10 = (10 : Int)) (by decide) dX11_putNumber_44 (fun x44 t44 => ?_)
        refine xi_iadd hx hb ((by decide) : Int32.toInt 48 = (48 : Int)) (rfl : Int32.toInt x44 = x44.toInt) dX11_putNumber_45 (fun x45 t45 => ?_)
        refine x_cv0 (x_runV (b := a) (As := [.int x45]) (rest := []) S (c_X11_puts l E K F G35 a x45 ha (z_X11_putNumber_4 ((G.1 a 23).toInt) ((G35.1 a 23).toInt) w0 t35)) mv_X11_puts km_X11_227 rfl rfl ⟨Nat.le_of_ble_eq_true rfl, Nat.le_of_ble_eq_true rfl⟩ (rc_13 hK hT ha) hK (fun _ => XP.blind) (fun U hU hW => XP.at hK hz hS hT hU hW) rfl hl.1 (Nat.le_of_ble_eq_true rfl) dX11_putNumber_46 ⟨Nat.le_of_ble_eq_true rfl, Nat.le_of_ble_eq_true rfl⟩) hS ?_
        rintro G46 H locs ⟨hF46, t46⟩ hT hS
        have t46 : ((G46.1 a 23).toInt) = ((G35.1 a 23).toInt) + 1 := t46
        exact x_rv hx hb hr hlk hQ (Nat.le_of_ble_eq_true rfl) (Nat.le_of_ble_eq_true rfl) hS dX11_putNumber_49 G46 ⟨(XFr.call (XFr.call XFr.rf hF35 (xm1 0 rfl xm0) (xm1 0 rfl xm0) xm0) hF46 (xm1 0 rfl xm0) (xm1 0 rfl xm0) xm0), (z_X11_putNumber_5 ((G.1 a 23).toInt) ((G35.1 a 23).toInt) ((G46.1 a 23).toInt) t35 t46)⟩ hT
    · refine lv_iload_n hx hb dX11_putNumber_14 rfl (lv_at hl 1 rfl) ?_
      refine xi_ineg hx hb (rfl : Int32.toInt p0 = p0.toInt) dX11_putNumber_15 (fun x15 t15 => ?_)
      refine lv_goto (tgt := 20) hx hb dX11_putNumber_16 (by decide) ?_
      refine lv_istore_n (lv' := [(2, .int x15), (0, .ref a), (1, .int p0)]) hx hb dX11_putNumber_20 rfl hl (by decide) rfl (fun ls hl => ?_)
      refine lv_iload_n hx hb dX11_putNumber_21 rfl (lv_at hl 0 rfl) ?_
      refine lv_bipush (v := 9) hx hb dX11_putNumber_22 (by decide) ?_
      refine xi_cle (tgt := 38) hx hb (rfl : Int32.toInt x15 = x15.toInt) ((by decide) : Int32.toInt 9 = (9 : Int)) dX11_putNumber_24 (by decide) (fun c24 => ?_) (fun c24 => ?_)
      · refine lv_aload_n hx hb dX11_putNumber_38 rfl (lv_at hl 1 rfl) ?_
        refine lv_bipush (v := 48) hx hb dX11_putNumber_39 (by decide) ?_
        refine lv_iload_n hx hb dX11_putNumber_41 rfl (lv_at hl 0 rfl) ?_
        refine lv_bipush (v := 10) hx hb dX11_putNumber_42 (by decide) ?_
        refine xi_irem hx hb (rfl : Int32.toInt x15 = x15.toInt) ((by decide) : Int32.toInt 10 = (10 : Int)) (by decide) dX11_putNumber_44 (fun x44 t44 => ?_)
        refine xi_iadd hx hb ((by decide) : Int32.toInt 48 = (48 : Int)) (rfl : Int32.toInt x44 = x44.toInt) dX11_putNumber_45 (fun x45 t45 => ?_)
        refine x_cv0 (x_runV (b := a) (As := [.int x45]) (rest := []) S (c_X11_puts l E K F G a x45 ha (z_X11_putNumber_1 ((G.1 a 23).toInt) w0)) mv_X11_puts km_X11_227 rfl rfl ⟨Nat.le_of_ble_eq_true rfl, Nat.le_of_ble_eq_true rfl⟩ (rc_13 hK hT ha) hK (fun _ => XP.blind) (fun U hU hW => XP.at hK hz hS hT hU hW) rfl hl.1 (Nat.le_of_ble_eq_true rfl) dX11_putNumber_46 ⟨Nat.le_of_ble_eq_true rfl, Nat.le_of_ble_eq_true rfl⟩) hS ?_
        rintro G46 H locs ⟨hF46, t46⟩ hT hS
        have t46 : ((G46.1 a 23).toInt) = ((G.1 a 23).toInt) + 1 := t46
        exact x_rv hx hb hr hlk hQ (Nat.le_of_ble_eq_true rfl) (Nat.le_of_ble_eq_true rfl) hS dX11_putNumber_49 G46 ⟨(XFr.call XFr.rf hF46 (xm1 0 rfl xm0) (xm1 0 rfl xm0) xm0), (z_X11_putNumber_2 ((G.1 a 23).toInt) ((G46.1 a 23).toInt) t46)⟩ hT
      · refine lv_aload_n hx hb dX11_putNumber_27 rfl (lv_at hl 1 rfl) ?_
        refine lv_bipush (v := 48) hx hb dX11_putNumber_28 (by decide) ?_
        refine lv_iload_n hx hb dX11_putNumber_30 rfl (lv_at hl 0 rfl) ?_
        refine lv_bipush (v := 10) hx hb dX11_putNumber_31 (by decide) ?_
        refine xi_idiv hx hb (rfl : Int32.toInt x15 = x15.toInt) ((by decide) : Int32.toInt 10 = (10 : Int)) (by decide) dX11_putNumber_33 (fun x33 t33 => ?_)
        refine xi_iadd hx hb ((by decide) : Int32.toInt 48 = (48 : Int)) (rfl : Int32.toInt x33 = x33.toInt) dX11_putNumber_34 (fun x34 t34 => ?_)
        refine x_cv0 (x_runV (b := a) (As := [.int x34]) (rest := []) S (c_X11_puts l E K F G a x34 ha (z_X11_putNumber_1 ((G.1 a 23).toInt) w0)) mv_X11_puts km_X11_227 rfl rfl ⟨Nat.le_of_ble_eq_true rfl, Nat.le_of_ble_eq_true rfl⟩ (rc_13 hK hT ha) hK (fun _ => XP.blind) (fun U hU hW => XP.at hK hz hS hT hU hW) rfl hl.1 (Nat.le_of_ble_eq_true rfl) dX11_putNumber_35 ⟨Nat.le_of_ble_eq_true rfl, Nat.le_of_ble_eq_true rfl⟩) hS ?_
        rintro G35 H locs ⟨hF35, t35⟩ hT hS
        have t35 : ((G35.1 a 23).toInt) = ((G.1 a 23).toInt) + 1 := t35
        refine lv_aload_n hx hb dX11_putNumber_38 rfl (lv_at hl 1 rfl) ?_
        refine lv_bipush (v := 48) hx hb dX11_putNumber_39 (by decide) ?_
        refine lv_iload_n hx hb dX11_putNumber_41 rfl (lv_at hl 0 rfl) ?_
        refine lv_bipush (v := 10) hx hb dX11_putNumber_42 (by decide) ?_
        refine xi_irem hx hb (rfl : Int32.toInt x15 = x15.toInt) ((by decide) : Int32.toInt 10 = (10 : Int)) (by decide) dX11_putNumber_44 (fun x44 t44 => ?_)
        refine xi_iadd hx hb ((by decide) : Int32.toInt 48 = (48 : Int)) (rfl : Int32.toInt x44 = x44.toInt) dX11_putNumber_45 (fun x45 t45 => ?_)
        refine x_cv0 (x_runV (b := a) (As := [.int x45]) (rest := []) S (c_X11_puts l E K F G35 a x45 ha (z_X11_putNumber_4 ((G.1 a 23).toInt) ((G35.1 a 23).toInt) w0 t35)) mv_X11_puts km_X11_227 rfl rfl ⟨Nat.le_of_ble_eq_true rfl, Nat.le_of_ble_eq_true rfl⟩ (rc_13 hK hT ha) hK (fun _ => XP.blind) (fun U hU hW => XP.at hK hz hS hT hU hW) rfl hl.1 (Nat.le_of_ble_eq_true rfl) dX11_putNumber_46 ⟨Nat.le_of_ble_eq_true rfl, Nat.le_of_ble_eq_true rfl⟩) hS ?_
        rintro G46 H locs ⟨hF46, t46⟩ hT hS
        have t46 : ((G46.1 a 23).toInt) = ((G35.1 a 23).toInt) + 1 := t46
        exact x_rv hx hb hr hlk hQ (Nat.le_of_ble_eq_true rfl) (Nat.le_of_ble_eq_true rfl) hS dX11_putNumber_49 G46 ⟨(XFr.call (XFr.call XFr.rf hF35 (xm1 0 rfl xm0) (xm1 0 rfl xm0) xm0) hF46 (xm1 0 rfl xm0) (xm1 0 rfl xm0) xm0), (z_X11_putNumber_5 ((G.1 a 23).toInt) ((G35.1 a 23).toInt) ((G46.1 a 23).toInt) t35 t46)⟩ hT
  · refine lv_aload_n hx hb dX11_putNumber_4 rfl (lv_at hl 0 rfl) ?_
    refine lv_bipush (v := 45) hx hb dX11_putNumber_5 (by decide) ?_
    refine x_cv0 (x_runV (b := a) (As := [.int 45]) (rest := []) S (c_X11_puts l E K F G a 45 ha (z_X11_putNumber_1 ((G.1 a 23).toInt) w0)) mv_X11_puts km_X11_227 rfl rfl ⟨Nat.le_of_ble_eq_true rfl, Nat.le_of_ble_eq_true rfl⟩ (rc_13 hK hT ha) hK (fun _ => XP.blind) (fun U hU hW => XP.at hK hz hS hT hU hW) rfl hl.1 (Nat.le_of_ble_eq_true rfl) dX11_putNumber_7 ⟨Nat.le_of_ble_eq_true rfl, Nat.le_of_ble_eq_true rfl⟩) hS ?_
    rintro G7 H locs ⟨hF7, t7⟩ hT hS
    have t7 : ((G7.1 a 23).toInt) = ((G.1 a 23).toInt) + 1 := t7
    refine lv_iload_n hx hb dX11_putNumber_10 rfl (lv_at hl 1 rfl) ?_
    refine xi_zge (tgt := 19) hx hb (rfl : Int32.toInt p0 = p0.toInt) dX11_putNumber_11 (by decide) (fun c11 => ?_) (fun c11 => ?_)
    · refine lv_iload_n hx hb dX11_putNumber_19 rfl (lv_at hl 1 rfl) ?_
      refine lv_istore_n (lv' := [(2, .int p0), (0, .ref a), (1, .int p0)]) hx hb dX11_putNumber_20 rfl hl (by decide) rfl (fun ls hl => ?_)
      refine lv_iload_n hx hb dX11_putNumber_21 rfl (lv_at hl 0 rfl) ?_
      refine lv_bipush (v := 9) hx hb dX11_putNumber_22 (by decide) ?_
      refine xi_cle (tgt := 38) hx hb (rfl : Int32.toInt p0 = p0.toInt) ((by decide) : Int32.toInt 9 = (9 : Int)) dX11_putNumber_24 (by decide) (fun c24 => ?_) (fun c24 => ?_)
      · refine lv_aload_n hx hb dX11_putNumber_38 rfl (lv_at hl 1 rfl) ?_
        refine lv_bipush (v := 48) hx hb dX11_putNumber_39 (by decide) ?_
        refine lv_iload_n hx hb dX11_putNumber_41 rfl (lv_at hl 0 rfl) ?_
        refine lv_bipush (v := 10) hx hb dX11_putNumber_42 (by decide) ?_
        refine xi_irem hx hb (rfl : Int32.toInt p0 = p0.toInt) ((by decide) : Int32.toInt 10 = (10 : Int)) (by decide) dX11_putNumber_44 (fun x44 t44 => ?_)
        refine xi_iadd hx hb ((by decide) : Int32.toInt 48 = (48 : Int)) (rfl : Int32.toInt x44 = x44.toInt) dX11_putNumber_45 (fun x45 t45 => ?_)
        refine x_cv0 (x_runV (b := a) (As := [.int x45]) (rest := []) S (c_X11_puts l E K F G7 a x45 ha (z_X11_putNumber_4 ((G.1 a 23).toInt) ((G7.1 a 23).toInt) w0 t7)) mv_X11_puts km_X11_227 rfl rfl ⟨Nat.le_of_ble_eq_true rfl, Nat.le_of_ble_eq_true rfl⟩ (rc_13 hK hT ha) hK (fun _ => XP.blind) (fun U hU hW => XP.at hK hz hS hT hU hW) rfl hl.1 (Nat.le_of_ble_eq_true rfl) dX11_putNumber_46 ⟨Nat.le_of_ble_eq_true rfl, Nat.le_of_ble_eq_true rfl⟩) hS ?_
        rintro G46 H locs ⟨hF46, t46⟩ hT hS
        have t46 : ((G46.1 a 23).toInt) = ((G7.1 a 23).toInt) + 1 := t46
        exact x_rv hx hb hr hlk hQ (Nat.le_of_ble_eq_true rfl) (Nat.le_of_ble_eq_true rfl) hS dX11_putNumber_49 G46 ⟨(XFr.call (XFr.call XFr.rf hF7 (xm1 0 rfl xm0) (xm1 0 rfl xm0) xm0) hF46 (xm1 0 rfl xm0) (xm1 0 rfl xm0) xm0), (z_X11_putNumber_13 ((G.1 a 23).toInt) ((G46.1 a 23).toInt) ((G7.1 a 23).toInt) t7 t46)⟩ hT
      · refine lv_aload_n hx hb dX11_putNumber_27 rfl (lv_at hl 1 rfl) ?_
        refine lv_bipush (v := 48) hx hb dX11_putNumber_28 (by decide) ?_
        refine lv_iload_n hx hb dX11_putNumber_30 rfl (lv_at hl 0 rfl) ?_
        refine lv_bipush (v := 10) hx hb dX11_putNumber_31 (by decide) ?_
        refine xi_idiv hx hb (rfl : Int32.toInt p0 = p0.toInt) ((by decide) : Int32.toInt 10 = (10 : Int)) (by decide) dX11_putNumber_33 (fun x33 t33 => ?_)
        refine xi_iadd hx hb ((by decide) : Int32.toInt 48 = (48 : Int)) (rfl : Int32.toInt x33 = x33.toInt) dX11_putNumber_34 (fun x34 t34 => ?_)
        refine x_cv0 (x_runV (b := a) (As := [.int x34]) (rest := []) S (c_X11_puts l E K F G7 a x34 ha (z_X11_putNumber_4 ((G.1 a 23).toInt) ((G7.1 a 23).toInt) w0 t7)) mv_X11_puts km_X11_227 rfl rfl ⟨Nat.le_of_ble_eq_true rfl, Nat.le_of_ble_eq_true rfl⟩ (rc_13 hK hT ha) hK (fun _ => XP.blind) (fun U hU hW => XP.at hK hz hS hT hU hW) rfl hl.1 (Nat.le_of_ble_eq_true rfl) dX11_putNumber_35 ⟨Nat.le_of_ble_eq_true rfl, Nat.le_of_ble_eq_true rfl⟩) hS ?_
        rintro G35 H locs ⟨hF35, t35⟩ hT hS
        have t35 : ((G35.1 a 23).toInt) = ((G7.1 a 23).toInt) + 1 := t35
        refine lv_aload_n hx hb dX11_putNumber_38 rfl (lv_at hl 1 rfl) ?_
        refine lv_bipush (v := 48) hx hb dX11_putNumber_39 (by decide) ?_
        refine lv_iload_n hx hb dX11_putNumber_41 rfl (lv_at hl 0 rfl) ?_
        refine lv_bipush (v := 10) hx hb dX11_putNumber_42 (by decide) ?_
        refine xi_irem hx hb (rfl : Int32.toInt p0 = p0.toInt) ((by decide) : Int32.toInt 10 = (10 : Int)) (by decide) dX11_putNumber_44 (fun x44 t44 => ?_)
        refine xi_iadd hx hb ((by decide) : Int32.toInt 48 = (48 : Int)) (rfl : Int32.toInt x44 = x44.toInt) dX11_putNumber_45 (fun x45 t45 => ?_)
        refine x_cv0 (x_runV (b := a) (As := [.int x45]) (rest := []) S (c_X11_puts l E K F G35 a x45 ha (z_X11_putNumber_15 ((G.1 a 23).toInt) ((G35.1 a 23).toInt) ((G7.1 a 23).toInt) w0 t7 t35)) mv_X11_puts km_X11_227 rfl rfl ⟨Nat.le_of_ble_eq_true rfl, Nat.le_of_ble_eq_true rfl⟩ (rc_13 hK hT ha) hK (fun _ => XP.blind) (fun U hU hW => XP.at hK hz hS hT hU hW) rfl hl.1 (Nat.le_of_ble_eq_true rfl) dX11_putNumber_46 ⟨Nat.le_of_ble_eq_true rfl, Nat.le_of_ble_eq_true rfl⟩) hS ?_
        rintro G46 H locs ⟨hF46, t46⟩ hT hS
        have t46 : ((G46.1 a 23).toInt) = ((G35.1 a 23).toInt) + 1 := t46
        exact x_rv hx hb hr hlk hQ (Nat.le_of_ble_eq_true rfl) (Nat.le_of_ble_eq_true rfl) hS dX11_putNumber_49 G46 ⟨(XFr.call (XFr.call (XFr.call XFr.rf hF7 (xm1 0 rfl xm0) (xm1 0 rfl xm0) xm0) hF35 (xm1 0 rfl xm0) (xm1 0 rfl xm0) xm0) hF46 (xm1 0 rfl xm0) (xm1 0 rfl xm0) xm0), (z_X11_putNumber_16 ((G.1 a 23).toInt) ((G35.1 a 23).toInt) ((G46.1 a 23).toInt) ((G7.1 a 23).toInt) t7 t35 t46)⟩ hT
    · refine lv_iload_n hx hb dX11_putNumber_14 rfl (lv_at hl 1 rfl) ?_
      refine xi_ineg hx hb (rfl : Int32.toInt p0 = p0.toInt) dX11_putNumber_15 (fun x15 t15 => ?_)
      refine lv_goto (tgt := 20) hx hb dX11_putNumber_16 (by decide) ?_
      refine lv_istore_n (lv' := [(2, .int x15), (0, .ref a), (1, .int p0)]) hx hb dX11_putNumber_20 rfl hl (by decide) rfl (fun ls hl => ?_)
      refine lv_iload_n hx hb dX11_putNumber_21 rfl (lv_at hl 0 rfl) ?_
      refine lv_bipush (v := 9) hx hb dX11_putNumber_22 (by decide) ?_
      refine xi_cle (tgt := 38) hx hb (rfl : Int32.toInt x15 = x15.toInt) ((by decide) : Int32.toInt 9 = (9 : Int)) dX11_putNumber_24 (by decide) (fun c24 => ?_) (fun c24 => ?_)
      · refine lv_aload_n hx hb dX11_putNumber_38 rfl (lv_at hl 1 rfl) ?_
        refine lv_bipush (v := 48) hx hb dX11_putNumber_39 (by decide) ?_
        refine lv_iload_n hx hb dX11_putNumber_41 rfl (lv_at hl 0 rfl) ?_
        refine lv_bipush (v := 10) hx hb dX11_putNumber_42 (by decide) ?_
        refine xi_irem hx hb (rfl : Int32.toInt x15 = x15.toInt) ((by decide) : Int32.toInt 10 = (10 : Int)) (by decide) dX11_putNumber_44 (fun x44 t44 => ?_)
        refine xi_iadd hx hb ((by decide) : Int32.toInt 48 = (48 : Int)) (rfl : Int32.toInt x44 = x44.toInt) dX11_putNumber_45 (fun x45 t45 => ?_)
        refine x_cv0 (x_runV (b := a) (As := [.int x45]) (rest := []) S (c_X11_puts l E K F G7 a x45 ha (z_X11_putNumber_4 ((G.1 a 23).toInt) ((G7.1 a 23).toInt) w0 t7)) mv_X11_puts km_X11_227 rfl rfl ⟨Nat.le_of_ble_eq_true rfl, Nat.le_of_ble_eq_true rfl⟩ (rc_13 hK hT ha) hK (fun _ => XP.blind) (fun U hU hW => XP.at hK hz hS hT hU hW) rfl hl.1 (Nat.le_of_ble_eq_true rfl) dX11_putNumber_46 ⟨Nat.le_of_ble_eq_true rfl, Nat.le_of_ble_eq_true rfl⟩) hS ?_
        rintro G46 H locs ⟨hF46, t46⟩ hT hS
        have t46 : ((G46.1 a 23).toInt) = ((G7.1 a 23).toInt) + 1 := t46
        exact x_rv hx hb hr hlk hQ (Nat.le_of_ble_eq_true rfl) (Nat.le_of_ble_eq_true rfl) hS dX11_putNumber_49 G46 ⟨(XFr.call (XFr.call XFr.rf hF7 (xm1 0 rfl xm0) (xm1 0 rfl xm0) xm0) hF46 (xm1 0 rfl xm0) (xm1 0 rfl xm0) xm0), (z_X11_putNumber_13 ((G.1 a 23).toInt) ((G46.1 a 23).toInt) ((G7.1 a 23).toInt) t7 t46)⟩ hT
      · refine lv_aload_n hx hb dX11_putNumber_27 rfl (lv_at hl 1 rfl) ?_
        refine lv_bipush (v := 48) hx hb dX11_putNumber_28 (by decide) ?_
        refine lv_iload_n hx hb dX11_putNumber_30 rfl (lv_at hl 0 rfl) ?_
        refine lv_bipush (v := 10) hx hb dX11_putNumber_31 (by decide) ?_
        refine xi_idiv hx hb (rfl : Int32.toInt x15 = x15.toInt) ((by decide) : Int32.toInt 10 = (10 : Int)) (by decide) dX11_putNumber_33 (fun x33 t33 => ?_)
        refine xi_iadd hx hb ((by decide) : Int32.toInt 48 = (48 : Int)) (rfl : Int32.toInt x33 = x33.toInt) dX11_putNumber_34 (fun x34 t34 => ?_)
        refine x_cv0 (x_runV (b := a) (As := [.int x34]) (rest := []) S (c_X11_puts l E K F G7 a x34 ha (z_X11_putNumber_4 ((G.1 a 23).toInt) ((G7.1 a 23).toInt) w0 t7)) mv_X11_puts km_X11_227 rfl rfl ⟨Nat.le_of_ble_eq_true rfl, Nat.le_of_ble_eq_true rfl⟩ (rc_13 hK hT ha) hK (fun _ => XP.blind) (fun U hU hW => XP.at hK hz hS hT hU hW) rfl hl.1 (Nat.le_of_ble_eq_true rfl) dX11_putNumber_35 ⟨Nat.le_of_ble_eq_true rfl, Nat.le_of_ble_eq_true rfl⟩) hS ?_
        rintro G35 H locs ⟨hF35, t35⟩ hT hS
        have t35 : ((G35.1 a 23).toInt) = ((G7.1 a 23).toInt) + 1 := t35
        refine lv_aload_n hx hb dX11_putNumber_38 rfl (lv_at hl 1 rfl) ?_
        refine lv_bipush (v := 48) hx hb dX11_putNumber_39 (by decide) ?_
        refine lv_iload_n hx hb dX11_putNumber_41 rfl (lv_at hl 0 rfl) ?_
        refine lv_bipush (v := 10) hx hb dX11_putNumber_42 (by decide) ?_
        refine xi_irem hx hb (rfl : Int32.toInt x15 = x15.toInt) ((by decide) : Int32.toInt 10 = (10 : Int)) (by decide) dX11_putNumber_44 (fun x44 t44 => ?_)
        refine xi_iadd hx hb ((by decide) : Int32.toInt 48 = (48 : Int)) (rfl : Int32.toInt x44 = x44.toInt) dX11_putNumber_45 (fun x45 t45 => ?_)
        refine x_cv0 (x_runV (b := a) (As := [.int x45]) (rest := []) S (c_X11_puts l E K F G35 a x45 ha (z_X11_putNumber_15 ((G.1 a 23).toInt) ((G35.1 a 23).toInt) ((G7.1 a 23).toInt) w0 t7 t35)) mv_X11_puts km_X11_227 rfl rfl ⟨Nat.le_of_ble_eq_true rfl, Nat.le_of_ble_eq_true rfl⟩ (rc_13 hK hT ha) hK (fun _ => XP.blind) (fun U hU hW => XP.at hK hz hS hT hU hW) rfl hl.1 (Nat.le_of_ble_eq_true rfl) dX11_putNumber_46 ⟨Nat.le_of_ble_eq_true rfl, Nat.le_of_ble_eq_true rfl⟩) hS ?_
        rintro G46 H locs ⟨hF46, t46⟩ hT hS
        have t46 : ((G46.1 a 23).toInt) = ((G35.1 a 23).toInt) + 1 := t46
        exact x_rv hx hb hr hlk hQ (Nat.le_of_ble_eq_true rfl) (Nat.le_of_ble_eq_true rfl) hS dX11_putNumber_49 G46 ⟨(XFr.call (XFr.call (XFr.call XFr.rf hF7 (xm1 0 rfl xm0) (xm1 0 rfl xm0) xm0) hF35 (xm1 0 rfl xm0) (xm1 0 rfl xm0) xm0) hF46 (xm1 0 rfl xm0) (xm1 0 rfl xm0) xm0), (z_X11_putNumber_16 ((G.1 a 23).toInt) ((G35.1 a 23).toInt) ((G46.1 a 23).toInt) ((G7.1 a 23).toInt) t7 t35 t46)⟩ hT

theorem z_X11_wordOf_1 (a0 : Int) : (a0 < 0 ∨ 4 < a0) ∨ (a0 = 0) ∨ (a0 = 1) ∨ (a0 = 2) ∨ (a0 = 3) ∨ (a0 = 4) := by omega
abbrev rm_X11_wordOf : Room := { frames := 0, cells := 0, slots := 0, locals := 0 }
set_option maxHeartbeats 4000000 in
set_option maxRecDepth 100000 in
theorem c_X11_wordOf (l : Launch) (E : XE) (K : Nat → Nat) (F : Nat → Nat → Nat) (G : XG) (h0 : Heap) (a : Nat) (p0 : Int32) (ha : K a = 13) : Met l yX11_wordOf (xw yX11_wordOf cX11_wordOf 2 (some (.array .char))) rm_X11_wordOf (va_Pc [.ref a, .int p0] (XPh E K F G h0)) (XQ E (fun v (u : Unit) => ∃ r n : Nat, v = .ref r ∧ XWd K r n ∧ ((n : Nat) : Int) ≤ 6) (fun _ H => H = h0)) 0 0 (xA E) := by
  refine x_enter (by decide) (Nat.le_of_ble_eq_true rfl) ?_
  intro p e s m args below meth c Q S hr hlk hnm hQ hP ls hl
  obtain ⟨⟨hz, hK, hT⟩, hh⟩ := hP
  obtain ⟨hx, hb, -, -, -⟩ := id S
  have hS : va_S (xA E) s.heap s.heap [] := va_S.rf
  have hl : lv_has ls 2 [(0, .ref a), (1, .int p0)] := hl
  refine lv_iload_n hx hb dX11_wordOf_0 rfl (lv_at hl 1 rfl) ?_
  rcases ((z_X11_wordOf_1 p0.toInt) : (p0.toInt < 0 ∨ 4 < p0.toInt) ∨ (p0.toInt = 0) ∨ (p0.toInt = 1) ∨ (p0.toInt = 2) ∨ (p0.toInt = 3) ∨ (p0.toInt = 4)) with c1 | c1 | c1 | c1 | c1 | c1
  · refine lv_tableOut (tgt := 61) hx hb dX11_wordOf_1 c1 (by decide) ?_
    refine lv_aload_n hx hb dX11_wordOf_61 rfl (lv_at hl 0 rfl) ?_
    obtain ⟨hk62, hj62⟩ := fkX11_30 hT ha
    refine gX11_30 S hK hT ha kf_X11_88 dX11_wordOf_62 (fun _ _ => ?_)
    exact x_ra hx hb hr (by first | exact Or.inl ⟨_, rfl⟩ | exact Or.inr ⟨_, rfl⟩) (by first | exact Or.inl rfl | exact Or.inr ⟨_, rfl⟩) hlk hQ (Nat.le_of_ble_eq_true rfl) (Nat.le_of_ble_eq_true rfl) hS dX11_wordOf_65 () ⟨_, _, rfl, XWd.k47 hk62, by decide⟩ hh
  · refine lv_tableIn (off := 35) (tgt := 36) hx hb dX11_wordOf_1 (by rw [c1]; decide) (by rw [c1]; decide) (by rw [c1]; rfl) (by decide) ?_
    refine lv_aload_n hx hb dX11_wordOf_36 rfl (lv_at hl 0 rfl) ?_
    obtain ⟨hk37, hj37⟩ := fkX11_25 hT ha
    refine gX11_25 S hK hT ha kf_X11_73 dX11_wordOf_37 (fun _ _ => ?_)
    exact x_ra hx hb hr (by first | exact Or.inl ⟨_, rfl⟩ | exact Or.inr ⟨_, rfl⟩) (by first | exact Or.inl rfl | exact Or.inr ⟨_, rfl⟩) hlk hQ (Nat.le_of_ble_eq_true rfl) (Nat.le_of_ble_eq_true rfl) hS dX11_wordOf_40 () ⟨_, _, rfl, XWd.k49 hk37, by decide⟩ hh
  · refine lv_tableIn (off := 40) (tgt := 41) hx hb dX11_wordOf_1 (by rw [c1]; decide) (by rw [c1]; decide) (by rw [c1]; rfl) (by decide) ?_
    refine lv_aload_n hx hb dX11_wordOf_41 rfl (lv_at hl 0 rfl) ?_
    obtain ⟨hk42, hj42⟩ := fkX11_26 hT ha
    refine gX11_26 S hK hT ha kf_X11_76 dX11_wordOf_42 (fun _ _ => ?_)
    exact x_ra hx hb hr (by first | exact Or.inl ⟨_, rfl⟩ | exact Or.inr ⟨_, rfl⟩) (by first | exact Or.inl rfl | exact Or.inr ⟨_, rfl⟩) hlk hQ (Nat.le_of_ble_eq_true rfl) (Nat.le_of_ble_eq_true rfl) hS dX11_wordOf_45 () ⟨_, _, rfl, XWd.k49 hk42, by decide⟩ hh
  · refine lv_tableIn (off := 45) (tgt := 46) hx hb dX11_wordOf_1 (by rw [c1]; decide) (by rw [c1]; decide) (by rw [c1]; rfl) (by decide) ?_
    refine lv_aload_n hx hb dX11_wordOf_46 rfl (lv_at hl 0 rfl) ?_
    obtain ⟨hk47, hj47⟩ := fkX11_27 hT ha
    refine gX11_27 S hK hT ha kf_X11_79 dX11_wordOf_47 (fun _ _ => ?_)
    exact x_ra hx hb hr (by first | exact Or.inl ⟨_, rfl⟩ | exact Or.inr ⟨_, rfl⟩) (by first | exact Or.inl rfl | exact Or.inr ⟨_, rfl⟩) hlk hQ (Nat.le_of_ble_eq_true rfl) (Nat.le_of_ble_eq_true rfl) hS dX11_wordOf_50 () ⟨_, _, rfl, XWd.k48 hk47, by decide⟩ hh
  · refine lv_tableIn (off := 50) (tgt := 51) hx hb dX11_wordOf_1 (by rw [c1]; decide) (by rw [c1]; decide) (by rw [c1]; rfl) (by decide) ?_
    refine lv_aload_n hx hb dX11_wordOf_51 rfl (lv_at hl 0 rfl) ?_
    obtain ⟨hk52, hj52⟩ := fkX11_28 hT ha
    refine gX11_28 S hK hT ha kf_X11_82 dX11_wordOf_52 (fun _ _ => ?_)
    exact x_ra hx hb hr (by first | exact Or.inl ⟨_, rfl⟩ | exact Or.inr ⟨_, rfl⟩) (by first | exact Or.inl rfl | exact Or.inr ⟨_, rfl⟩) hlk hQ (Nat.le_of_ble_eq_true rfl) (Nat.le_of_ble_eq_true rfl) hS dX11_wordOf_55 () ⟨_, _, rfl, XWd.k46 hk52, by decide⟩ hh
  · refine lv_tableIn (off := 55) (tgt := 56) hx hb dX11_wordOf_1 (by rw [c1]; decide) (by rw [c1]; decide) (by rw [c1]; rfl) (by decide) ?_
    refine lv_aload_n hx hb dX11_wordOf_56 rfl (lv_at hl 0 rfl) ?_
    obtain ⟨hk57, hj57⟩ := fkX11_29 hT ha
    refine gX11_29 S hK hT ha kf_X11_85 dX11_wordOf_57 (fun _ _ => ?_)
    exact x_ra hx hb hr (by first | exact Or.inl ⟨_, rfl⟩ | exact Or.inr ⟨_, rfl⟩) (by first | exact Or.inl rfl | exact Or.inr ⟨_, rfl⟩) hlk hQ (Nat.le_of_ble_eq_true rfl) (Nat.le_of_ble_eq_true rfl) hS dX11_wordOf_60 () ⟨_, _, rfl, XWd.k48 hk57, by decide⟩ hh

theorem z_X11_putWord_1 (a0 : Int) (h0 : -2147483648 ≤ a0 ∧ a0 < 2147483648) : ¬ (2147483648 - a0 < ((0 : Nat) : Int)) := by omega
theorem z_X11_putWord_2 (a0 : Int) (a1 : Int) (a2 : Nat) (a3 : Int) (a4 : Int) (h0 : a4 = a3 + a0) (h1 : 0 ≤ a0 ∧ a0 ≤ ((a2 : Nat) : Int)) (h2 : a1 = ((a2 : Nat) : Int)) (h3 : a1 ≤ a0) : a4 = a3 + ((a2 : Nat) : Int) := by omega
theorem z_X11_putWord_3 (a0 : Int) (a1 : Int) (a2 : Nat) (h0 : 0 ≤ a0 ∧ a0 ≤ ((a2 : Nat) : Int)) (h1 : a1 = ((a2 : Nat) : Int)) (h2 : ¬ (a1 ≤ a0)) : 0 ≤ a0 ∧ a0 < ((a2 : Nat) : Int) := by omega
theorem z_X11_putWord_4 (a0 : Int) (a1 : Int) (a2 : Nat) (a3 : Int) (a4 : Int) (h0 : 0 ≤ a3 ∧ a3 + ((a2 : Nat) : Int) ≤ 24) (h1 : a4 = a3 + a0) (h2 : 0 ≤ a0 ∧ a0 ≤ ((a2 : Nat) : Int)) (h3 : a1 = ((a2 : Nat) : Int)) (h4 : ¬ (a1 ≤ a0)) : 0 ≤ a4 ∧ a4 ≤ 23 := by omega
theorem z_X11_putWord_5 (a0 : Int) (a1 : Int) (a2 : Nat) (a3 : Int) (h0 : 0 ≤ a3 ∧ a3 + ((a2 : Nat) : Int) ≤ 24) (h1 : 0 ≤ a0 ∧ a0 ≤ ((a2 : Nat) : Int)) (h2 : a1 = (a0 + 1) ∨ (a0 + 1) < -2147483648 ∨ 2147483648 ≤ (a0 + 1)) : a1 = (a0 + 1) := by omega
theorem z_X11_putWord_6 (a0 : Int) (a1 : Int) (a2 : Int) (a3 : Int) (h0 : a3 = a1 + a0) (h1 : a2 = a3 + 1) : a2 = a1 + (a0 + 1) := by omega
theorem z_X11_putWord_7 (a0 : Int) (a1 : Int) (a2 : Nat) (h0 : 0 ≤ a0 ∧ a0 ≤ ((a2 : Nat) : Int)) (h1 : a1 = ((a2 : Nat) : Int)) (h2 : ¬ (a1 ≤ a0)) : 0 ≤ (a0 + 1) ∧ (a0 + 1) ≤ ((a2 : Nat) : Int) := by omega
theorem z_X11_putWord_8 (a0 : Int) (a1 : Nat) (h0 : 0 ≤ a0 ∧ a0 ≤ ((a1 : Nat) : Int)) : (0 : Int) ≤ (a0 + 1) := by omega
theorem z_X11_putWord_9 (a0 : Int) (a1 : Nat) (h0 : 2147483648 - a0 < ((a1 + 1 : Nat) : Int)) : 2147483648 - (a0 + 1) < ((a1 : Nat) : Int) := by omega
theorem z_X11_putWord_10 (a0 : Int) : a0 = a0 + (0 : Int) := by omega
theorem z_X11_putWord_11 (a0 : Nat) : 0 ≤ (0 : Int) ∧ (0 : Int) ≤ ((a0 : Nat) : Int) := by omega
abbrev rm_X11_putWord : Room := { frames := 1, cells := 0, slots := 0, locals := 21 }
set_option maxHeartbeats 4000000 in
set_option maxRecDepth 100000 in
theorem c_X11_putWord (l : Launch) (E : XE) (K : Nat → Nat) (F : Nat → Nat → Nat) (G : XG) (a : Nat) (p0 : Nat) (n0 : Nat) (ha : K a = 13) (hp0 : XWd K p0 n0) (w0 : 0 ≤ ((G.1 a 23).toInt) ∧ ((G.1 a 23).toInt) + (((n0) : Nat) : Int) ≤ 24) : Met l yX11_putWord (xw yX11_putWord cX11_putWord 3 none) rm_X11_putWord (va_Pc [.ref a, .ref p0] (XP E K F G)) (XQv E (fun (u : XG) => XFr [(a, 23)] [F a 22] [] G u ∧ (((u.1 a 23).toInt) = ((G.1 a 23).toInt) + (((n0) : Nat) : Int))) (fun u H => TW E K F u H)) 0 0 (xA E) := by
  refine x_enter (by decide) (Nat.le_of_ble_eq_true rfl) ?_
  intro p e s m args below meth c Q S hr hlk hnm hQ hP ls hl
  obtain ⟨hz, hK, hT⟩ := hP
  obtain ⟨hx, hb, -, -, -⟩ := id S
  obtain ⟨H, hT, hS, hgo⟩ : ∃ H : Heap, TW E K F G H ∧ va_S (xA E) s.heap H [] ∧ H = s.heap := ⟨_, hT, va_S.rf, rfl⟩
  rw [← hgo]
  have hl : lv_has ls 3 [(0, .ref a), (1, .ref p0)] := hl
  obtain ⟨hk9999, hj9999⟩ := fkX11_22 hT ha
  refine lv_iconst (v := 0) hx hb dX11_putWord_0 (by decide) ?_
  refine lv_istore_n (lv' := [(2, .int 0), (0, .ref a), (1, .ref p0)]) hx hb dX11_putWord_1 rfl hl (by decide) rfl (fun ls hl => ?_)
  have L2 : ∀ (N2 : Nat) (l2_2 : Int32) (G_2 : XG) (H : Heap) (locs : List Loc) (ls : Array Slot), XFr [(a, 23)] [F a 22] [] G G_2 → ((G_2.1 a 23).toInt) = ((G.1 a 23).toInt) + l2_2.toInt → 0 ≤ l2_2.toInt ∧ l2_2.toInt ≤ (((n0) : Nat) : Int) → (0 : Int) ≤ l2_2.toInt → 2147483648 - l2_2.toInt < ((N2 : Nat) : Int) → TW E K F G_2 H → va_S (xA E) s.heap H locs → lv_has ls 3 [(0, .ref a), (1, .ref p0), (2, .int l2_2)] → W p l e rm_X11_putWord s m args below meth c H locs 0 0 Q (F0 m 2 ls []) := by
    intro N2
    induction N2 with
    | zero =>
      intro l2_2 G_2 H locs ls hF_2 I2_0 I2_1 I2_2 hm2
      exact absurd hm2 (z_X11_putWord_1 l2_2.toInt (xr l2_2))
    | succ N2 ih2 =>
      intro l2_2 G_2 H locs ls hF_2 I2_0 I2_1 I2_2 hm2 hT hS hl
      refine lv_iload_n hx hb dX11_putWord_2 rfl (lv_at hl 2 rfl) ?_
      refine lv_aload_n hx hb dX11_putWord_3 rfl (lv_at hl 1 rfl) ?_
      refine len_wd S hK hT hp0 dX11_putWord_4 (fun x4 t4 => ?_)
      refine xi_cge (tgt := 21) hx hb (rfl : Int32.toInt l2_2 = l2_2.toInt) (rfl : Int32.toInt x4 = x4.toInt) dX11_putWord_5 (by decide) (fun c5 => ?_) (fun c5 => ?_)
      · exact x_rv hx hb hr hlk hQ (Nat.le_of_ble_eq_true rfl) (Nat.le_of_ble_eq_true rfl) hS dX11_putWord_21 G_2 ⟨(XFr.call XFr.rf hF_2 (xm1 0 rfl xm0) (xm1 0 rfl xm0) xm0), (z_X11_putWord_2 l2_2.toInt x4.toInt n0 ((G.1 a 23).toInt) ((G_2.1 a 23).toInt) I2_0 I2_1 t4 c5)⟩ hT
      · refine lv_aload_n hx hb dX11_putWord_8 rfl (lv_at hl 0 rfl) ?_
        refine lv_aload_n hx hb dX11_putWord_9 rfl (lv_at hl 1 rfl) ?_
        refine lv_iload_n hx hb dX11_putWord_10 rfl (lv_at hl 2 rfl) ?_
        refine ald_wd S hK hT hp0 (z_X11_putWord_3 l2_2.toInt x4.toInt n0 I2_1 t4 c5) dX11_putWord_11 (fun x11 hv11 o11 => ?_)
        refine x_cv0 (x_runV (b := a) (As := [.int x11]) (rest := []) S (c_X11_puts l E K F G_2 a x11 ha (z_X11_putWord_4 l2_2.toInt x4.toInt n0 ((G.1 a 23).toInt) ((G_2.1 a 23).toInt) w0 I2_0 I2_1 t4 c5)) mv_X11_puts km_X11_227 rfl rfl ⟨Nat.le_of_ble_eq_true rfl, Nat.le_of_ble_eq_true rfl⟩ (rc_13 hK hT ha) hK (fun _ => XP.blind) (fun U hU hW => XP.at hK hz hS hT hU hW) rfl hl.1 (Nat.le_of_ble_eq_true rfl) dX11_putWord_12 ⟨Nat.le_of_ble_eq_true rfl, Nat.le_of_ble_eq_true rfl⟩) hS ?_
        rintro G12 H locs ⟨hF12, t12⟩ hT hS
        have t12 : ((G12.1 a 23).toInt) = ((G_2.1 a 23).toInt) + 1 := t12
        refine xi_iinc (n := 1) (lv' := fun z9 => [(2, .int z9), (0, .ref a), (1, .ref p0)]) (k := 2) hx hb (rfl : Int32.toInt l2_2 = l2_2.toInt) (by decide) dX11_putWord_15 hl rfl (by decide) (fun _ => rfl) (fun x15 ls t15 hl => ?_)
        have e15 : x15.toInt = (l2_2.toInt + 1) := (z_X11_putWord_5 l2_2.toInt x15.toInt n0 ((G.1 a 23).toInt) w0 I2_1 t15)
        have hl : lv_has ls 3 [(2, .int x15), (0, .ref a), (1, .ref p0)] := hl
        refine lv_goto (tgt := 2) hx hb dX11_putWord_18 (by decide) ?_
        exact ih2 x15 G12 _ _ _ (XFr.call (XFr.call XFr.rf hF_2 (xm1 0 rfl xm0) (xm1 0 rfl xm0) xm0) hF12 (xm1 0 rfl xm0) (xm1 0 rfl xm0) xm0) (by rw [(e15 : Int32.toInt x15 = (l2_2.toInt + 1))] <;> exact (z_X11_putWord_6 l2_2.toInt ((G.1 a 23).toInt) ((G12.1 a 23).toInt) ((G_2.1 a 23).toInt) I2_0 t12)) (by rw [(e15 : Int32.toInt x15 = (l2_2.toInt + 1))] <;> exact (z_X11_putWord_7 l2_2.toInt x4.toInt n0 I2_1 t4 c5)) (by rw [(e15 : Int32.toInt x15 = (l2_2.toInt + 1))] <;> exact (z_X11_putWord_8 l2_2.toInt n0 I2_1)) (by rw [(e15 : Int32.toInt x15 = (l2_2.toInt + 1))] <;> exact (z_X11_putWord_9 l2_2.toInt N2 hm2)) hT hS (lv_sub hl [1, 2, 0] rfl)
  exact L2 4294967297 0 G _ _ _ XFr.rf (z_X11_putWord_10 ((G.1 a 23).toInt)) (z_X11_putWord_11 n0) (by decide) (by decide) hT hS (lv_sub hl [1, 2, 0] rfl)

theorem z_X11_failed_1 (a0 : Int) (a1 : Int) (a2 : Int) (h0 : a0 = -2147483648 ∧ a1 = -2147483648 ∧ a2 = 0) : 0 ≤ a2 ∧ a2 + 4 ≤ 24 := by omega
theorem z_X11_failed_2 (a0 : Int) (a1 : Int) (a2 : Int) (a3 : Int) (h0 : a0 = -2147483648 ∧ a1 = -2147483648 ∧ a2 = 0) (h1 : a3 = a2 + 4) : 0 ≤ a3 ∧ a3 ≤ 23 := by omega
theorem z_X11_failed_3 (a0 : Int) (a1 : Int) (a2 : Int) (a3 : Int) (a4 : Int) (h0 : a0 = -2147483648 ∧ a1 = -2147483648 ∧ a2 = 0) (h1 : a3 = a2 + 4) (h2 : a4 = a3 + 1) : 0 ≤ a4 ∧ a4 ≤ 20 := by omega
theorem z_X11_failed_4 (a0 : Int) (h0 : 0 ≤ a0 ∧ a0 ≤ 11) : -99 ≤ a0 ∧ a0 ≤ 99 := by omega
theorem z_X11_failed_5 (a0 : Int) (a1 : Int) (a2 : Int) (a3 : Int) (a4 : Int) (a5 : Int) (h0 : a0 = -2147483648 ∧ a1 = -2147483648 ∧ a2 = 0) (h1 : a3 = a2 + 4) (h2 : a4 = a3 + 1) (h3 : a4 + 1 ≤ a5 ∧ a5 ≤ a4 + 3) : 0 ≤ a5 ∧ a5 ≤ 23 := by omega
theorem z_X11_failed_7 (a0 : Nat) (a1 : Int) (a2 : Int) (a3 : Int) (a4 : Int) (a5 : Int) (a6 : Int) (a7 : Int) (h0 : a1 = -2147483648 ∧ a2 = -2147483648 ∧ a3 = 0) (h1 : a4 = a3 + 4) (h2 : a5 = a4 + 1) (h3 : a5 + 1 ≤ a6 ∧ a6 ≤ a5 + 3) (h4 : a7 = a6 + 1) (h5 : ((a0 : Nat) : Int) ≤ 6) : 0 ≤ a7 ∧ a7 + ((a0 : Nat) : Int) ≤ 24 := by omega
theorem z_X11_failed_8 (a0 : Nat) (a1 : Int) (a2 : Int) (a3 : Int) (a4 : Int) (a5 : Int) (a6 : Int) (a7 : Int) (a8 : Int) (h0 : a1 = -2147483648 ∧ a2 = -2147483648 ∧ a3 = 0) (h1 : a4 = a3 + 4) (h2 : a5 = a4 + 1) (h3 : a5 + 1 ≤ a6 ∧ a6 ≤ a5 + 3) (h4 : a7 = a6 + 1) (h5 : ((a0 : Nat) : Int) ≤ 6) (h6 : a8 = a7 + ((a0 : Nat) : Int)) : 0 ≤ a8 ∧ a8 ≤ 23 := by omega
theorem z_X11_failed_9 (a0 : Nat) (a1 : Int) (a2 : Int) (a3 : Int) (a4 : Int) (a5 : Int) (a6 : Int) (a7 : Int) (a8 : Int) (a9 : Int) (h0 : a1 = -2147483648 ∧ a2 = -2147483648 ∧ a3 = 0) (h1 : a4 = a3 + 4) (h2 : a5 = a4 + 1) (h3 : a5 + 1 ≤ a6 ∧ a6 ≤ a5 + 3) (h4 : a7 = a6 + 1) (h5 : ((a0 : Nat) : Int) ≤ 6) (h6 : a8 = a7 + ((a0 : Nat) : Int)) (h7 : a9 = a8 + 1) : 0 ≤ a9 ∧ a9 ≤ 20 := by omega
theorem z_X11_failed_11 (a0 : Int) (a1 : Int) (a2 : Nat) (a3 : Int) (a4 : Int) (a5 : Int) (a6 : Int) (a7 : Int) (a8 : Int) (a9 : Int) (a10 : Int) (a11 : Int) (a12 : Int) (h0 : a3 = -2147483648 ∧ a4 = -2147483648 ∧ a5 = 0) (h1 : a6 = a5 + 4) (h2 : a7 = a6 + 1) (h3 : a7 + 1 ≤ a8 ∧ a8 ≤ a7 + 3) (h4 : a9 = a8 + 1) (h5 : 3 ≤ ((a2 : Nat) : Int) ∧ ((a2 : Nat) : Int) ≤ 7) (h6 : a10 = a9 + ((a2 : Nat) : Int)) (h7 : a11 = a10 + 1) (h8 : a11 + 1 ≤ a12 ∧ a12 ≤ a11 + 3) : a0 = a0 ∧ a1 = a1 ∧ 0 ≤ a12 ∧ a12 ≤ 24 := by omega
abbrev rm_X11_failed : Room := { frames := 2, cells := 0, slots := 0, locals := 43 }
set_option maxHeartbeats 4000000 in
set_option maxRecDepth 100000 in
theorem c_X11_failed (l : Launch) (E : XE) (K : Nat → Nat) (F : Nat → Nat → Nat) (G : XG) (a : Nat) (p0 : Int32) (p1 : Int32) (ha : K a = 13) (e0 : 0 ≤ p0.toInt ∧ p0.toInt ≤ 11) (e1 : -99 ≤ p1.toInt ∧ p1.toInt ≤ 99) : Met l yX11_failed (xw yX11_failed cX11_failed 3 none) rm_X11_failed (va_Pc [.ref a, .int p0, .int p1] (XP E K F G)) (XQv E (fun (u : XG) => XFr [(a, 20), (a, 21), (a, 23)] [F a 22] [] G u ∧ (((u.1 a 20).toInt) = p0.toInt ∧ ((u.1 a 21).toInt) = p1.toInt ∧ 0 ≤ ((u.1 a 23).toInt) ∧ ((u.1 a 23).toInt) ≤ 24)) (fun u H => TW E K F u H)) 0 0 (xA E) := by
  refine x_enter (by decide) (Nat.le_of_ble_eq_true rfl) ?_
  intro p e s m args below meth c Q S hr hlk hnm hQ hP ls hl
  obtain ⟨hz, hK, hT⟩ := hP
  obtain ⟨hx, hb, -, -, -⟩ := id S
  obtain ⟨H, hT, hS, hgo⟩ : ∃ H : Heap, TW E K F G H ∧ va_S (xA E) s.heap H [] ∧ H = s.heap := ⟨_, hT, va_S.rf, rfl⟩
  rw [← hgo]
  have hl : lv_has ls 3 [(0, .ref a), (1, .int p0), (2, .int p1)] := hl
  obtain ⟨hk9999, hj9999⟩ := fkX11_22 hT ha
  refine lv_aload_n hx hb dX11_failed_0 rfl (lv_at hl 0 rfl) ?_
  refine x_cv0 (x_runV (b := a) (As := []) (rest := []) S (c_X11_nothing l E K F G a ha) mv_X11_nothing km_X11_231 rfl rfl ⟨Nat.le_of_ble_eq_true rfl, Nat.le_of_ble_eq_true rfl⟩ (rc_13 hK hT ha) hK (fun _ => XP.blind) (fun U hU hW => XP.at hK hz hS hT hU hW) rfl hl.1 (Nat.le_of_ble_eq_true rfl) dX11_failed_1 ⟨Nat.le_of_ble_eq_true rfl, Nat.le_of_ble_eq_true rfl⟩) hS ?_
  rintro G1 H locs ⟨hF1, t1⟩ hT hS
  have t1 : ((G1.1 a 20).toInt) = -2147483648 ∧ ((G1.1 a 21).toInt) = -2147483648 ∧ ((G1.1 a 23).toInt) = 0 := t1
  refine lv_aload_n hx hb dX11_failed_4 rfl (lv_at hl 0 rfl) ?_
  refine lv_iload_n hx hb dX11_failed_5 rfl (lv_at hl 1 rfl) ?_
  refine pX11_20 (v := p0) S hK hT hS ha kf_X11_58 dX11_failed_6 (fun H locs hT hS => ?_)
  obtain ⟨G6, hG6⟩ : ∃ GG : XG, GG = dput G1 a 20 p0 := ⟨_, rfl⟩
  rw [← hG6] at hT
  refine lv_aload_n hx hb dX11_failed_9 rfl (lv_at hl 0 rfl) ?_
  refine lv_iload_n hx hb dX11_failed_10 rfl (lv_at hl 2 rfl) ?_
  refine pX11_21 (v := p1) S hK hT hS ha kf_X11_62 dX11_failed_11 (fun H locs hT hS => ?_)
  obtain ⟨G11, hG11⟩ : ∃ GG : XG, GG = dput G6 a 21 p1 := ⟨_, rfl⟩
  rw [← hG11] at hT
  refine lv_aload_n hx hb dX11_failed_14 rfl (lv_at hl 0 rfl) ?_
  refine lv_aload_n hx hb dX11_failed_15 rfl (lv_at hl 0 rfl) ?_
  obtain ⟨hk16, hj16⟩ := fkX11_24 hT ha
  refine gX11_24 S hK hT ha kf_X11_69 dX11_failed_16 (fun _ _ => ?_)
  refine x_cv0 (x_runV (b := a) (As := [.ref (F a 24)]) (rest := []) S (c_X11_putWord l E K F G11 a (F a 24) 4 ha (XWd.k47 hk16) (by rw [(show (G11.1 a 23).toInt = ((G1.1 a 23).toInt) from (congrArg Int32.toInt ((ld_j hG11 (by decide)).trans (ld_j hG6 (by decide)))).trans (rfl : Int32.toInt (G1.1 a 23) = ((G1.1 a 23).toInt)))] <;> exact (z_X11_failed_1 ((G1.1 a 20).toInt) ((G1.1 a 21).toInt) ((G1.1 a 23).toInt) t1))) mv_X11_putWord km_X11_234 rfl rfl ⟨Nat.le_of_ble_eq_true rfl, Nat.le_of_ble_eq_true rfl⟩ (rc_13 hK hT ha) hK (fun _ => XP.blind) (fun U hU hW => XP.at hK hz hS hT hU hW) rfl hl.1 (Nat.le_of_ble_eq_true rfl) dX11_failed_19 ⟨Nat.le_of_ble_eq_true rfl, Nat.le_of_ble_eq_true rfl⟩) hS ?_
  rintro G19 H locs ⟨hF19, t19⟩ hT hS
  have t19 : ((G19.1 a 23).toInt) = ((G1.1 a 23).toInt) + 4 := by rw [(show (G11.1 a 23).toInt = ((G1.1 a 23).toInt) from (congrArg Int32.toInt ((ld_j hG11 (by decide)).trans (ld_j hG6 (by decide)))).trans (rfl : Int32.toInt (G1.1 a 23) = ((G1.1 a 23).toInt)))] at t19; exact t19
  refine lv_aload_n hx hb dX11_failed_22 rfl (lv_at hl 0 rfl) ?_
  refine lv_bipush (v := 32) hx hb dX11_failed_23 (by decide) ?_
  refine x_cv0 (x_runV (b := a) (As := [.int 32]) (rest := []) S (c_X11_puts l E K F G19 a 32 ha (z_X11_failed_2 ((G1.1 a 20).toInt) ((G1.1 a 21).toInt) ((G1.1 a 23).toInt) ((G19.1 a 23).toInt) t1 t19)) mv_X11_puts km_X11_227 rfl rfl ⟨Nat.le_of_ble_eq_true rfl, Nat.le_of_ble_eq_true rfl⟩ (rc_13 hK hT ha) hK (fun _ => XP.blind) (fun U hU hW => XP.at hK hz hS hT hU hW) rfl hl.1 (Nat.le_of_ble_eq_true rfl) dX11_failed_25 ⟨Nat.le_of_ble_eq_true rfl, Nat.le_of_ble_eq_true rfl⟩) hS ?_
  rintro G25 H locs ⟨hF25, t25⟩ hT hS
  have t25 : ((G25.1 a 23).toInt) = ((G19.1 a 23).toInt) + 1 := t25
  refine lv_aload_n hx hb dX11_failed_28 rfl (lv_at hl 0 rfl) ?_
  refine lv_iload_n hx hb dX11_failed_29 rfl (lv_at hl 1 rfl) ?_
  refine x_cv0 (x_runV (b := a) (As := [.int p0]) (rest := []) S (c_X11_putNumber l E K F G25 a p0 ha (z_X11_failed_3 ((G1.1 a 20).toInt) ((G1.1 a 21).toInt) ((G1.1 a 23).toInt) ((G19.1 a 23).toInt) ((G25.1 a 23).toInt) t1 t19 t25) (z_X11_failed_4 p0.toInt e0)) mv_X11_putNumber km_X11_238 rfl rfl ⟨Nat.le_of_ble_eq_true rfl, Nat.le_of_ble_eq_true rfl⟩ (rc_13 hK hT ha) hK (fun _ => XP.blind) (fun U hU hW => XP.at hK hz hS hT hU hW) rfl hl.1 (Nat.le_of_ble_eq_true rfl) dX11_failed_30 ⟨Nat.le_of_ble_eq_true rfl, Nat.le_of_ble_eq_true rfl⟩) hS ?_
  rintro G30 H locs ⟨hF30, t30⟩ hT hS
  have t30 : ((G25.1 a 23).toInt) + 1 ≤ ((G30.1 a 23).toInt) ∧ ((G30.1 a 23).toInt) ≤ ((G25.1 a 23).toInt) + 3 := t30
  refine lv_aload_n hx hb dX11_failed_33 rfl (lv_at hl 0 rfl) ?_
  refine lv_bipush (v := 32) hx hb dX11_failed_34 (by decide) ?_
  refine x_cv0 (x_runV (b := a) (As := [.int 32]) (rest := []) S (c_X11_puts l E K F G30 a 32 ha (z_X11_failed_5 ((G1.1 a 20).toInt) ((G1.1 a 21).toInt) ((G1.1 a 23).toInt) ((G19.1 a 23).toInt) ((G25.1 a 23).toInt) ((G30.1 a 23).toInt) t1 t19 t25 t30)) mv_X11_puts km_X11_227 rfl rfl ⟨Nat.le_of_ble_eq_true rfl, Nat.le_of_ble_eq_true rfl⟩ (rc_13 hK hT ha) hK (fun _ => XP.blind) (fun U hU hW => XP.at hK hz hS hT hU hW) rfl hl.1 (Nat.le_of_ble_eq_true rfl) dX11_failed_36 ⟨Nat.le_of_ble_eq_true rfl, Nat.le_of_ble_eq_true rfl⟩) hS ?_
  rintro G36 H locs ⟨hF36, t36⟩ hT hS
  have t36 : ((G36.1 a 23).toInt) = ((G30.1 a 23).toInt) + 1 := t36
  refine lv_aload_n hx hb dX11_failed_39 rfl (lv_at hl 0 rfl) ?_
  refine lv_aload_n hx hb dX11_failed_40 rfl (lv_at hl 0 rfl) ?_
  refine lv_aload_n hx hb dX11_failed_41 rfl (lv_at hl 0 rfl) ?_
  refine lv_iload_n hx hb dX11_failed_42 rfl (lv_at hl 1 rfl) ?_
  refine lv_iconst (v := 0) hx hb dX11_failed_43 (by decide) ?_
  refine x_clp (x_runV (b := a) (As := [.int p0, .int 0]) (rest := [.ref a, .ref a]) S (c_X11_of l E K F G36 H a p0 0 ha (e0) (by decide)) mv_X11_of km_X11_165 rfl rfl ⟨Nat.le_of_ble_eq_true rfl, Nat.le_of_ble_eq_true rfl⟩ (rc_13 hK hT ha) hK (fun _ => XPh.blind) (fun U hU hW => XPh.at hK hz hS hT hU hW) rfl hl.1 (Nat.le_of_ble_eq_true rfl) dX11_failed_44 ⟨Nat.le_of_ble_eq_true rfl, Nat.le_of_ble_eq_true rfl⟩) hS ?_
  rintro _ _ locs ⟨x44, rfl, t44⟩ hS
  obtain ⟨hk44, hj44⟩ := fkX11_10 hT ha
  have t44 : x44.toInt = (aI (G.2.1 (F a 10)) (10 * p0.toInt + 0)) := by rw [(show G36.2.1 (F a 10) = G.2.1 (F a 10) from ((hF36.2.1 _ (xn1 (xne_k hk44 hk9999 (by decide)) xn0)).trans ((hF30.2.1 _ (xn1 (xne_k hk44 hk9999 (by decide)) xn0)).trans ((hF25.2.1 _ (xn1 (xne_k hk44 hk9999 (by decide)) xn0)).trans ((hF19.2.1 _ (xn1 (xne_k hk44 hk9999 (by decide)) xn0)).trans ((ld_c hG11).trans ((ld_c hG6).trans (hF1.2.1 _ xn0))))))))] at t44; exact t44
  refine x_clp (x_runV (b := a) (As := [.int x44]) (rest := [.ref a]) S (c_X11_wordOf l E K F G36 H a x44 ha) mv_X11_wordOf km_X11_241 rfl rfl ⟨Nat.le_of_ble_eq_true rfl, Nat.le_of_ble_eq_true rfl⟩ (rc_13 hK hT ha) hK (fun _ => XPh.blind) (fun U hU hW => XPh.at hK hz hS hT hU hW) rfl hl.1 (Nat.le_of_ble_eq_true rfl) dX11_failed_47 ⟨Nat.le_of_ble_eq_true rfl, Nat.le_of_ble_eq_true rfl⟩) hS ?_
  rintro _ _ locs ⟨q47, n47, rfl, hw47, hl47⟩ hS
  refine x_cv0 (x_runV (b := a) (As := [.ref q47]) (rest := []) S (c_X11_putWord l E K F G36 a q47 n47 ha hw47 (z_X11_failed_7 n47 ((G1.1 a 20).toInt) ((G1.1 a 21).toInt) ((G1.1 a 23).toInt) ((G19.1 a 23).toInt) ((G25.1 a 23).toInt) ((G30.1 a 23).toInt) ((G36.1 a 23).toInt) t1 t19 t25 t30 t36 hl47)) mv_X11_putWord km_X11_234 rfl rfl ⟨Nat.le_of_ble_eq_true rfl, Nat.le_of_ble_eq_true rfl⟩ (rc_13 hK hT ha) hK (fun _ => XP.blind) (fun U hU hW => XP.at hK hz hS hT hU hW) rfl hl.1 (Nat.le_of_ble_eq_true rfl) dX11_failed_50 ⟨Nat.le_of_ble_eq_true rfl, Nat.le_of_ble_eq_true rfl⟩) hS ?_
  rintro G50 H locs ⟨hF50, t50⟩ hT hS
  have t50 : ((G50.1 a 23).toInt) = ((G36.1 a 23).toInt) + (((n47) : Nat) : Int) := t50
  refine lv_aload_n hx hb dX11_failed_53 rfl (lv_at hl 0 rfl) ?_
  refine lv_bipush (v := 32) hx hb dX11_failed_54 (by decide) ?_
  refine x_cv0 (x_runV (b := a) (As := [.int 32]) (rest := []) S (c_X11_puts l E K F G50 a 32 ha (z_X11_failed_8 n47 ((G1.1 a 20).toInt) ((G1.1 a 21).toInt) ((G1.1 a 23).toInt) ((G19.1 a 23).toInt) ((G25.1 a 23).toInt) ((G30.1 a 23).toInt) ((G36.1 a 23).toInt) ((G50.1 a 23).toInt) t1 t19 t25 t30 t36 hl47 t50)) mv_X11_puts km_X11_227 rfl rfl ⟨Nat.le_of_ble_eq_true rfl, Nat.le_of_ble_eq_true rfl⟩ (rc_13 hK hT ha) hK (fun _ => XP.blind) (fun U hU hW => XP.at hK hz hS hT hU hW) rfl hl.1 (Nat.le_of_ble_eq_true rfl) dX11_failed_56 ⟨Nat.le_of_ble_eq_true rfl, Nat.le_of_ble_eq_true rfl⟩) hS ?_
  rintro G56 H locs ⟨hF56, t56⟩ hT hS
  have t56 : ((G56.1 a 23).toInt) = ((G50.1 a 23).toInt) + 1 := t56
  refine lv_aload_n hx hb dX11_failed_59 rfl (lv_at hl 0 rfl) ?_
  refine lv_iload_n hx hb dX11_failed_60 rfl (lv_at hl 2 rfl) ?_
  refine x_cv0 (x_runV (b := a) (As := [.int p1]) (rest := []) S (c_X11_putNumber l E K F G56 a p1 ha (z_X11_failed_9 n47 ((G1.1 a 20).toInt) ((G1.1 a 21).toInt) ((G1.1 a 23).toInt) ((G19.1 a 23).toInt) ((G25.1 a 23).toInt) ((G30.1 a 23).toInt) ((G36.1 a 23).toInt) ((G50.1 a 23).toInt) ((G56.1 a 23).toInt) t1 t19 t25 t30 t36 hl47 t50 t56) (e1)) mv_X11_putNumber km_X11_238 rfl rfl ⟨Nat.le_of_ble_eq_true rfl, Nat.le_of_ble_eq_true rfl⟩ (rc_13 hK hT ha) hK (fun _ => XP.blind) (fun U hU hW => XP.at hK hz hS hT hU hW) rfl hl.1 (Nat.le_of_ble_eq_true rfl) dX11_failed_61 ⟨Nat.le_of_ble_eq_true rfl, Nat.le_of_ble_eq_true rfl⟩) hS ?_
  rintro G61 H locs ⟨hF61, t61⟩ hT hS
  have t61 : ((G56.1 a 23).toInt) + 1 ≤ ((G61.1 a 23).toInt) ∧ ((G61.1 a 23).toInt) ≤ ((G56.1 a 23).toInt) + 3 := t61
  exact x_rv hx hb hr hlk hQ (Nat.le_of_ble_eq_true rfl) (Nat.le_of_ble_eq_true rfl) hS dX11_failed_64 G61 ⟨(XFr.call (XFr.call (XFr.call (XFr.call (XFr.call (XFr.call (XFr.call (by rw [hG11]; exact XFr.dput (by rw [hG6]; exact XFr.dput (XFr.call XFr.rf hF1 (xm1 0 rfl (xm1 1 rfl (xm1 2 rfl xm0))) xm0 xm0) (List.mem_of_getElem? (i := 0) rfl)) (List.mem_of_getElem? (i := 1) rfl)) hF19 (xm1 2 rfl xm0) (xm1 0 rfl xm0) xm0) hF25 (xm1 2 rfl xm0) (xm1 0 rfl xm0) xm0) hF30 (xm1 2 rfl xm0) (xm1 0 rfl xm0) xm0) hF36 (xm1 2 rfl xm0) (xm1 0 rfl xm0) xm0) hF50 (xm1 2 rfl xm0) (xm1 0 rfl xm0) xm0) hF56 (xm1 2 rfl xm0) (xm1 0 rfl xm0) xm0) hF61 (xm1 2 rfl xm0) (xm1 0 rfl xm0) xm0), (by rw [(show (G61.1 a 20).toInt = p0.toInt from (congrArg Int32.toInt ((hF61.1 _ _ (xnj (by decide) xn0)).trans ((hF56.1 _ _ (xnj (by decide) xn0)).trans ((hF50.1 _ _ (xnj (by decide) xn0)).trans ((hF36.1 _ _ (xnj (by decide) xn0)).trans ((hF30.1 _ _ (xnj (by decide) xn0)).trans ((hF25.1 _ _ (xnj (by decide) xn0)).trans ((hF19.1 _ _ (xnj (by decide) xn0)).trans ((ld_j hG11 (by decide)).trans (ld_at hG6)))))))))).trans (rfl : Int32.toInt p0 = p0.toInt)), (show (G61.1 a 21).toInt = p1.toInt from (congrArg Int32.toInt ((hF61.1 _ _ (xnj (by decide) xn0)).trans ((hF56.1 _ _ (xnj (by decide) xn0)).trans ((hF50.1 _ _ (xnj (by decide) xn0)).trans ((hF36.1 _ _ (xnj (by decide) xn0)).trans ((hF30.1 _ _ (xnj (by decide) xn0)).trans ((hF25.1 _ _ (xnj (by decide) xn0)).trans ((hF19.1 _ _ (xnj (by decide) xn0)).trans (ld_at hG11))))))))).trans (rfl : Int32.toInt p1 = p1.toInt))] <;> exact (z_X11_failed_11 p0.toInt p1.toInt n47 ((G1.1 a 20).toInt) ((G1.1 a 21).toInt) ((G1.1 a 23).toInt) ((G19.1 a 23).toInt) ((G25.1 a 23).toInt) ((G30.1 a 23).toInt) ((G36.1 a 23).toInt) ((G50.1 a 23).toInt) ((G56.1 a 23).toInt) ((G61.1 a 23).toInt) t1 t19 t25 t30 t36 (XWd.lim hw47) t50 t56 t61))⟩ hT
theorem sFLb (kd : Int) : (sF kd = 0 ∨ sF kd = -99) ∧ (sL kd = 29 ∨ sL kd = 99) := by
  have := sFL kd
  omega
theorem v_X11_goesBack_10_1 {K : Nat → Nat} {F : Nat → Nat → Nat} (a : Nat) (G : XG)
    (ha : K a = 13)
    (hk9999 : K (F a 1) = 30)
    (hj9999 : F (F a 1) 99 = 1)
    (hk9999a : K (F a 8) = 35)
    (hj9999a : F (F a 8) 99 = 8)
    (hk9999b : K (F a 22) = 45)
    (hj9999b : F (F a 22) 99 = 22)
    (hk9999c : K (F a 17) = 43)
    (hj9999c : F (F a 17) 99 = 17)
    (hk9999d : K (F a 18) = 44)
    (hj9999d : F (F a 18) 99 = 18)
    (hk9999e : K (F a 10) = 37)
    (hj9999e : F (F a 10) 99 = 10)
    (hk9999f : K (F a 4) = 31)
    (hj9999f : F (F a 4) 99 = 4)
    (hv : PV (G.2.1 (F a 10)) (pL G F a))
    (hA : RM (G.2.1 (F a 4)) 0)
    (s0 : 0 ≤ ((G.1 a 46).toInt) ∧ ((G.1 a 46).toInt) < ((G.1 a 19).toInt) ∧ ((G.1 a 19).toInt) ≤ 2388)
    (z0 : (0 ≤ (aI (G.2.1 (F a 17)) ((G.1 a 46).toInt)) ∧ (aI (G.2.1 (F a 17)) ((G.1 a 46).toInt)) ≤ 11) ∧ (aI (G.2.1 (F a 10)) (10 * (aI (G.2.1 (F a 17)) ((G.1 a 46).toInt)) + 0)) ≠ -1 ∧ ((sF (aI (G.2.1 (F a 10)) (10 * (aI (G.2.1 (F a 17)) ((G.1 a 46).toInt)) + 0))) ≤ (aI (G.2.1 (F a 18)) ((G.1 a 46).toInt)) ∧ (aI (G.2.1 (F a 18)) ((G.1 a 46).toInt)) ≤ (sL (aI (G.2.1 (F a 10)) (10 * (aI (G.2.1 (F a 17)) ((G.1 a 46).toInt)) + 0)))))
    (z0a : ((sF (aI (G.2.1 (F a 10)) (10 * (aI (G.2.1 (F a 17)) ((G.1 a 46).toInt)) + 0))) = 0 ∨ (sF (aI (G.2.1 (F a 10)) (10 * (aI (G.2.1 (F a 17)) ((G.1 a 46).toInt)) + 0))) = -99) ∧ ((sL (aI (G.2.1 (F a 10)) (10 * (aI (G.2.1 (F a 17)) ((G.1 a 46).toInt)) + 0))) = 29 ∨ (sL (aI (G.2.1 (F a 10)) (10 * (aI (G.2.1 (F a 17)) ((G.1 a 46).toInt)) + 0))) = 99)) :
    (F a 4) ≠ (F a 1) := by
  intro e
  have h1 : K (F a 1) = 30 := by assumption
  have h2 : K (F a 4) = 31 := by assumption
  rw [← e, h2] at h1
  exact absurd h1 (by decide)
theorem v_X11_goesBack_41_2 {F : Nat → Nat → Nat} (a : Nat) (G : XG) (G10 : XG) (G38 : XG)
    (oq10 : CPd (G.2.1 (F a 4)) (G.2.1 (F a 1)) (G10.2.1 (F a 1)) (0 : Int) (0 : Int) 360)
    (c_G38_F_a_1 : G38.2.1 (F a 1) = G10.2.1 (F a 1)) :
    mw (G38.2.1 (F a 1)) 0 = mw (G.2.1 (F a 4)) 0 := by
  rw [c_G38_F_a_1]; exact CPd.vwm oq10 (by decide)
theorem v_X11_goesBack_41_3 {F : Nat → Nat → Nat} (a : Nat) (G : XG) (G10 : XG) (G38 : XG)
    (hA : RM (G.2.1 (F a 4)) 0)
    (oq10 : CPd (G.2.1 (F a 4)) (G.2.1 (F a 1)) (G10.2.1 (F a 1)) (0 : Int) (0 : Int) 360)
    (c_G38_F_a_1 : G38.2.1 (F a 1) = G10.2.1 (F a 1)) :
    RM (G38.2.1 (F a 1)) 0 := by
  rw [c_G38_F_a_1]; exact CPd.rm oq10 (by decide) hA
theorem v_X11_goesBack_41_4 {K : Nat → Nat} {F : Nat → Nat → Nat} (a : Nat) (G : XG) (G32 : XG) (G38 : XG)
    (ha : K a = 13)
    (s0 : 0 ≤ ((G.1 a 46).toInt) ∧ ((G.1 a 46).toInt) < ((G.1 a 19).toInt) ∧ ((G.1 a 19).toInt) ≤ 2388)
    (z0 : (0 ≤ (aI (G.2.1 (F a 17)) ((G.1 a 46).toInt)) ∧ (aI (G.2.1 (F a 17)) ((G.1 a 46).toInt)) ≤ 11) ∧ (aI (G.2.1 (F a 10)) (10 * (aI (G.2.1 (F a 17)) ((G.1 a 46).toInt)) + 0)) ≠ -1 ∧ ((sF (aI (G.2.1 (F a 10)) (10 * (aI (G.2.1 (F a 17)) ((G.1 a 46).toInt)) + 0))) ≤ (aI (G.2.1 (F a 18)) ((G.1 a 46).toInt)) ∧ (aI (G.2.1 (F a 18)) ((G.1 a 46).toInt)) ≤ (sL (aI (G.2.1 (F a 10)) (10 * (aI (G.2.1 (F a 17)) ((G.1 a 46).toInt)) + 0)))))
    (z0a : ((sF (aI (G.2.1 (F a 10)) (10 * (aI (G.2.1 (F a 17)) ((G.1 a 46).toInt)) + 0))) = 0 ∨ (sF (aI (G.2.1 (F a 10)) (10 * (aI (G.2.1 (F a 17)) ((G.1 a 46).toInt)) + 0))) = -99) ∧ ((sL (aI (G.2.1 (F a 10)) (10 * (aI (G.2.1 (F a 17)) ((G.1 a 46).toInt)) + 0))) = 29 ∨ (sL (aI (G.2.1 (F a 10)) (10 * (aI (G.2.1 (F a 17)) ((G.1 a 46).toInt)) + 0))) = 99))
    (t32 : ((G32.1 a 20).toInt) = (aI (G.2.1 (F a 17)) ((G.1 a 46).toInt)) ∧ ((G32.1 a 21).toInt) = (aI (G.2.1 (F a 18)) ((G.1 a 46).toInt)) ∧ 0 ≤ ((G32.1 a 23).toInt) ∧ ((G32.1 a 23).toInt) ≤ 24)
    (d_G38_a_23 : G38.1 a 23 = G32.1 a 23) :
    0 ≤ ((G38.1 a 23).toInt) ∧ ((G38.1 a 23).toInt) ≤ 24 := by
  rw [d_G38_a_23]; omega
theorem z_X11_goesBack_1 (a0 : Int) (a1 : Int) (h0 : 0 ≤ a1 ∧ a1 < a0 ∧ a0 ≤ 2388) : 0 ≤ a1 ∧ a1 < a0 := by omega
theorem z_X11_goesBack_2 (a0 : Int) (a1 : Int) (h0 : 0 ≤ a1 ∧ a1 < a0 ∧ a0 ≤ 2388) : 0 ≤ a1 ∧ a1 < ((2400 : Nat) : Int) := by omega
theorem z_X11_goesBack_5 (a0 : Int) (a1 : Int) (a2 : Int) (h0 : a1 ≤ a0 ∧ a0 ≤ a2) (h1 : a1 = 0 ∨ a1 = -99) (h2 : a2 = 29 ∨ a2 = 99) : -99 ≤ a0 ∧ a0 ≤ 99 := by omega
abbrev rm_X11_goesBack : Room := { frames := 3, cells := 0, slots := 0, locals := 65 }
set_option maxHeartbeats 4000000 in
set_option maxRecDepth 100000 in
theorem c_X11_goesBack (l : Launch) (E : XE) (K : Nat → Nat) (F : Nat → Nat → Nat) (G : XG) (a : Nat) (ha : K a = 13) (s0 : 0 ≤ ((G.1 a 46).toInt) ∧ ((G.1 a 46).toInt) < ((G.1 a 19).toInt) ∧ ((G.1 a 19).toInt) ≤ 2388) (hv : PV (G.2.1 (F a 10)) (pL G F a)) (hA : RM (G.2.1 (F a 4)) 0) : Met l yX11_goesBack (xw yX11_goesBack cX11_goesBack 1 (some .int)) rm_X11_goesBack (va_Pc [.ref a] (XP E K F G)) (XQ E (fun v (u : XG) => ∃ r : Int32, v = .int r ∧ XFr [(a, 20), (a, 21), (a, 23)] [F a 1, F a 8, F a 22] [] G u ∧ (r.toInt = -5) ∧ (mw (u.2.1 (F a 1)) 0 = mw (G.2.1 (F a 4)) 0) ∧ (RM (u.2.1 (F a 1)) 0) ∧ (0 ≤ ((u.1 a 23).toInt) ∧ ((u.1 a 23).toInt) ≤ 24)) (fun u H => TW E K F u H)) 0 0 (xA E) := by
  refine x_enter (by decide) (Nat.le_of_ble_eq_true rfl) ?_
  intro p e s m args below meth c Q S hr hlk hnm hQ hP ls hl
  obtain ⟨hz, hK, hT⟩ := hP
  obtain ⟨hx, hb, -, -, -⟩ := id S
  obtain ⟨H, hT, hS, hgo⟩ : ∃ H : Heap, TW E K F G H ∧ va_S (xA E) s.heap H [] ∧ H = s.heap := ⟨_, hT, va_S.rf, rfl⟩
  rw [← hgo]
  have hl : lv_has ls 1 [(0, .ref a)] := hl
  obtain ⟨hk9999, hj9999⟩ := fkX11_1 hT ha
  obtain ⟨hk9999a, hj9999a⟩ := fkX11_8 hT ha
  obtain ⟨hk9999b, hj9999b⟩ := fkX11_22 hT ha
  obtain ⟨hk9999c, hj9999c⟩ := fkX11_17 hT ha
  obtain ⟨hk9999d, hj9999d⟩ := fkX11_18 hT ha
  obtain ⟨hk9999e, hj9999e⟩ := fkX11_10 hT ha
  obtain ⟨hk9999f, hj9999f⟩ := fkX11_4 hT ha
  have z0 : (0 ≤ (aI (G.2.1 (F a 17)) ((G.1 a 46).toInt)) ∧ (aI (G.2.1 (F a 17)) ((G.1 a 46).toInt)) ≤ 11) ∧ (aI (G.2.1 (F a 10)) (10 * (aI (G.2.1 (F a 17)) ((G.1 a 46).toInt)) + 0)) ≠ -1 ∧ ((sF (aI (G.2.1 (F a 10)) (10 * (aI (G.2.1 (F a 17)) ((G.1 a 46).toInt)) + 0))) ≤ (aI (G.2.1 (F a 18)) ((G.1 a 46).toInt)) ∧ (aI (G.2.1 (F a 18)) ((G.1 a 46).toInt)) ≤ (sL (aI (G.2.1 (F a 10)) (10 * (aI (G.2.1 (F a 17)) ((G.1 a 46).toInt)) + 0)))) := pv_at hv (z_X11_goesBack_1 ((G.1 a 19).toInt) ((G.1 a 46).toInt) s0)
  have z0a : ((sF (aI (G.2.1 (F a 10)) (10 * (aI (G.2.1 (F a 17)) ((G.1 a 46).toInt)) + 0))) = 0 ∨ (sF (aI (G.2.1 (F a 10)) (10 * (aI (G.2.1 (F a 17)) ((G.1 a 46).toInt)) + 0))) = -99) ∧ ((sL (aI (G.2.1 (F a 10)) (10 * (aI (G.2.1 (F a 17)) ((G.1 a 46).toInt)) + 0))) = 29 ∨ (sL (aI (G.2.1 (F a 10)) (10 * (aI (G.2.1 (F a 17)) ((G.1 a 46).toInt)) + 0))) = 99) := sFLb _
  refine lv_aload_n hx hb dX11_goesBack_0 rfl (lv_at hl 0 rfl) ?_
  refine gX11_4 S hK hT ha kf_X11_21 dX11_goesBack_1 (fun _ _ => ?_)
  refine lv_iconst (v := 0) hx hb dX11_goesBack_4 (by decide) ?_
  refine lv_aload_n hx hb dX11_goesBack_5 rfl (lv_at hl 0 rfl) ?_
  refine gX11_1 S hK hT ha kf_X11_9 dX11_goesBack_6 (fun _ _ => ?_)
  refine lv_iconst (v := 0) hx hb dX11_goesBack_9 (by decide) ?_
  refine x_cv0 (x_runS (As := [.ref (F a 4), .int 0, .ref (F a 1), .int 0]) (rest := []) S (c_X11_copy l E K F G (F a 4) 0 (F a 1) 0 (XO.b hk9999f (by decide)) (XO.a hk9999 (by decide)) (v_X11_goesBack_10_1 (K := K) (F := F) a G ha hk9999 hj9999 hk9999a hj9999a hk9999b hj9999b hk9999c hj9999c hk9999d hj9999d hk9999e hj9999e hk9999f hj9999f hv hA s0 z0 z0a)) ms_X11_copy km_X11_309 rfl rfl ⟨Nat.le_of_ble_eq_true rfl, Nat.le_of_ble_eq_true rfl⟩ hK (fun _ => XP.blind) (fun U hU hW => XP.at hK hz hS hT hU hW) rfl hl.1 (Nat.le_of_ble_eq_true rfl) dX11_goesBack_10 ⟨Nat.le_of_ble_eq_true rfl, Nat.le_of_ble_eq_true rfl⟩) hS ?_
  rintro G10 H locs ⟨hF10, oq10⟩ hT hS
  refine lv_aload_n hx hb dX11_goesBack_13 rfl (lv_at hl 0 rfl) ?_
  refine lv_aload_n hx hb dX11_goesBack_14 rfl (lv_at hl 0 rfl) ?_
  refine gX11_17 S hK hT ha kf_X11_51 dX11_goesBack_15 (fun _ _ => ?_)
  refine lv_aload_n hx hb dX11_goesBack_18 rfl (lv_at hl 0 rfl) ?_
  refine gX11_46 S hK hT ha kf_X11_322 dX11_goesBack_19 (v := (G.1 a 46)) (hF10.1 _ _ xn0) (?_)
  refine al_0 S hK hT hk9999c ar_43 (by decide) (z_X11_goesBack_2 ((G.1 a 19).toInt) ((G.1 a 46).toInt) s0) dX11_goesBack_22 (fun x22 hv22 o22 => ?_)
  have hv22 : x22.toInt = (aI (G.2.1 (F a 17)) ((G.1 a 46).toInt)) := hv22.trans (by rw [(rfl : Int32.toInt (G.1 a 46) = ((G.1 a 46).toInt)), ((hF10.2.1 _ (xn1 (xne_k hk9999c hk9999 (by decide)) xn0)) : G10.2.1 (F a 17) = G.2.1 (F a 17))])
  refine lv_aload_n hx hb dX11_goesBack_23 rfl (lv_at hl 0 rfl) ?_
  refine gX11_18 S hK hT ha kf_X11_54 dX11_goesBack_24 (fun _ _ => ?_)
  refine lv_aload_n hx hb dX11_goesBack_27 rfl (lv_at hl 0 rfl) ?_
  refine gX11_46 S hK hT ha kf_X11_322 dX11_goesBack_28 (v := (G.1 a 46)) (hF10.1 _ _ xn0) (?_)
  refine al_0 S hK hT hk9999d ar_44 (by decide) (z_X11_goesBack_2 ((G.1 a 19).toInt) ((G.1 a 46).toInt) s0) dX11_goesBack_31 (fun x31 hv31 o31 => ?_)
  have hv31 : x31.toInt = (aI (G.2.1 (F a 18)) ((G.1 a 46).toInt)) := hv31.trans (by rw [(rfl : Int32.toInt (G.1 a 46) = ((G.1 a 46).toInt)), ((hF10.2.1 _ (xn1 (xne_k hk9999d hk9999 (by decide)) xn0)) : G10.2.1 (F a 18) = G.2.1 (F a 18))])
  refine x_cv0 (x_runV (b := a) (As := [.int x22, .int x31]) (rest := []) S (c_X11_failed l E K F G10 a x22 x31 ha (by rw [(hv22 : Int32.toInt x22 = (aI (G.2.1 (F a 17)) ((G.1 a 46).toInt)))] <;> exact ((z0).1)) (by rw [(hv31 : Int32.toInt x31 = (aI (G.2.1 (F a 18)) ((G.1 a 46).toInt)))] <;> exact (z_X11_goesBack_5 (aI (G.2.1 (F a 18)) ((G.1 a 46).toInt)) (sF (aI (G.2.1 (F a 10)) (10 * (aI (G.2.1 (F a 17)) ((G.1 a 46).toInt)) + 0))) (sL (aI (G.2.1 (F a 10)) (10 * (aI (G.2.1 (F a 17)) ((G.1 a 46).toInt)) + 0))) (z0).2.2 (z0a).1 (z0a).2))) mv_X11_failed km_X11_299 rfl rfl ⟨Nat.le_of_ble_eq_true rfl, Nat.le_of_ble_eq_true rfl⟩ (rc_13 hK hT ha) hK (fun _ => XP.blind) (fun U hU hW => XP.at hK hz hS hT hU hW) rfl hl.1 (Nat.le_of_ble_eq_true rfl) dX11_goesBack_32 ⟨Nat.le_of_ble_eq_true rfl, Nat.le_of_ble_eq_true rfl⟩) hS ?_
  rintro G32 H locs ⟨hF32, t32⟩ hT hS
  have t32 : ((G32.1 a 20).toInt) = (aI (G.2.1 (F a 17)) ((G.1 a 46).toInt)) ∧ ((G32.1 a 21).toInt) = (aI (G.2.1 (F a 18)) ((G.1 a 46).toInt)) ∧ 0 ≤ ((G32.1 a 23).toInt) ∧ ((G32.1 a 23).toInt) ≤ 24 := by rw [(hv22 : Int32.toInt x22 = (aI (G.2.1 (F a 17)) ((G.1 a 46).toInt)))] at t32; rw [(hv31 : Int32.toInt x31 = (aI (G.2.1 (F a 18)) ((G.1 a 46).toInt)))] at t32; exact t32
  refine lv_aload_n hx hb dX11_goesBack_35 rfl (lv_at hl 0 rfl) ?_
  refine lv_bipush (v := (-5)) hx hb dX11_goesBack_36 (by decide) ?_
  refine x_cl0 (x_runV (b := a) (As := [.int (-5)]) (rest := []) S (c_X11_refuses l E K F G32 a (-5) ha) mv_X11_refuses km_X11_325 rfl rfl ⟨Nat.le_of_ble_eq_true rfl, Nat.le_of_ble_eq_true rfl⟩ (rc_13 hK hT ha) hK (fun _ => XP.blind) (fun U hU hW => XP.at hK hz hS hT hU hW) rfl hl.1 (Nat.le_of_ble_eq_true rfl) dX11_goesBack_38 ⟨Nat.le_of_ble_eq_true rfl, Nat.le_of_ble_eq_true rfl⟩) hS ?_
  rintro _ G38 H locs ⟨x38, rfl, hF38, t38⟩ hT hS
  have t38 : x38.toInt = (-5 : Int) := by rw [((by decide) : Int32.toInt (-5) = (-5 : Int))] at t38; exact t38
  exact x_ri hx hb hr hlk hQ (Nat.le_of_ble_eq_true rfl) (Nat.le_of_ble_eq_true rfl) hS dX11_goesBack_41 G38 ⟨_, rfl, (XFr.call (XFr.call (XFr.call XFr.rf hF10 xm0 (xm1 0 rfl xm0) xm0) hF32 (xm1 0 rfl (xm1 1 rfl (xm1 2 rfl xm0))) (xm1 2 rfl xm0) xm0) hF38 xm0 (xm1 1 rfl xm0) xm0), (by rw [(t38 : Int32.toInt x38 = (-5 : Int))] <;> exact (by decide)), (v_X11_goesBack_41_2 (F := F) a G G10 G38 oq10 ((hF38.2.1 _ (xn1 (xne_k hk9999 hk9999a (by decide)) xn0)).trans (hF32.2.1 _ (xn1 (xne_k hk9999 hk9999b (by decide)) xn0)))), (v_X11_goesBack_41_3 (F := F) a G G10 G38 hA oq10 ((hF38.2.1 _ (xn1 (xne_k hk9999 hk9999a (by decide)) xn0)).trans (hF32.2.1 _ (xn1 (xne_k hk9999 hk9999b (by decide)) xn0)))), (v_X11_goesBack_41_4 (K := K) (F := F) a G G32 G38 ha s0 z0 z0a t32 (hF38.1 _ _ xn0))⟩ hT
theorem v_X11_settles_1_1 {F : Nat → Nat → Nat} (a : Nat) (G : XG)
    (hR : RV (G.2.1 (F a 10))) :
    RV (G.2.1 (F a 10)) := by exact hR
theorem v_X11_settles_1_2 {F : Nat → Nat → Nat} (a : Nat) (G : XG)
    (hM : RM (G.2.1 (F a 1)) (0)) :
    RM (G.2.1 (F a 1)) (0) := by exact hM
theorem v_X11_settles_1_3 {F : Nat → Nat → Nat} (a : Nat) (G : XG) (r1 : Int → Int)
    (h1 : LSt (G.2.1 (F a 10)) (G.2.1 (F a 12)) r1 12) :
    LSt (G.2.1 (F a 10)) (G.2.1 (F a 12)) r1 12 := by exact h1
theorem v_X11_settles_92_4 {F : Nat → Nat → Nat} (a : Nat) (G : XG) (G40 : XG)
    (hR : RV (G.2.1 (F a 10)))
    (c_G40_F_a_10 : G40.2.1 (F a 10) = G.2.1 (F a 10)) :
    RV (G40.2.1 (F a 10)) := by simp only [c_G40_F_a_10]; assumption
theorem v_X11_settles_92_5 {F : Nat → Nat → Nat} (a : Nat) (G : XG) (G40 : XG)
    (hM : RM (G.2.1 (F a 1)) (0))
    (hA : RM (G.2.1 (F a 4)) 0)
    (hB : RM (G.2.1 (F a 2)) 0)
    (c_G40_F_a_1 : G40.2.1 (F a 1) = G.2.1 (F a 1)) :
    RM (G40.2.1 (F a 1)) (0) := by simp only [c_G40_F_a_1]; assumption
theorem v_X11_settles_92_6 {F : Nat → Nat → Nat} (a : Nat) (G : XG) (G1 : XG) (G40 : XG) (r1 : Int → Int)
    (h1 : LSt (G.2.1 (F a 10)) (G.2.1 (F a 12)) r1 12)
    (oq1d : LSt (G.2.1 (F a 10)) (G1.2.1 (F a 11)) (mw (G.2.1 (F a 1)) 0) 12)
    (c_G40_F_a_10 : G40.2.1 (F a 10) = G.2.1 (F a 10))
    (c_G40_F_a_12 : G40.2.1 (F a 12) = G.2.1 (F a 12)) :
    LSt (G40.2.1 (F a 10)) (G40.2.1 (F a 12)) r1 12 := by simp only [c_G40_F_a_10, c_G40_F_a_12]; assumption
theorem v_X11_settles_92_7 {F : Nat → Nat → Nat} (a : Nat) (G : XG) (G1 : XG) (G40 : XG)
    (oq1d : LSt (G.2.1 (F a 10)) (G1.2.1 (F a 11)) (mw (G.2.1 (F a 1)) 0) 12)
    (c_G40_F_a_1 : G40.2.1 (F a 1) = G.2.1 (F a 1))
    (c_G40_F_a_10 : G40.2.1 (F a 10) = G.2.1 (F a 10))
    (c_G40_F_a_11 : G40.2.1 (F a 11) = G1.2.1 (F a 11)) :
    LSt (G40.2.1 (F a 10)) (G40.2.1 (F a 11)) (mw (G40.2.1 (F a 1)) 0) 12 := by
  rw [c_G40_F_a_10, c_G40_F_a_1, c_G40_F_a_11]; exact oq1d
theorem v_X11_settles_139_8 {K : Nat → Nat} {F : Nat → Nat → Nat} (a : Nat) (G : XG) (G1 : XG) (G92 : XG) (G95 : XG) (x92 : Int32) (G99 : XG) (G134 : XG) (r1 : Int → Int) (x1 : Int32)
    (ha : K a = 13)
    (oq1 : ((G1.1 a 45).toInt) = (((fuO (G.2.1 (F a 10)) r1 (mw (G.2.1 (F a 1)) 0) 2).length : Nat) : Int))
    (oq1b : x1.toInt = ffP (G.2.1 (F a 10)) (mw (G.2.1 (F a 1)) 0) (fuO (G.2.1 (F a 10)) r1 (mw (G.2.1 (F a 1)) 0) 0))
    (oq1c : ((G1.1 a 46).toInt) = x1.toInt)
    (oq1e : 0 ≤ ((G1.1 a 19).toInt) ∧ ((G1.1 a 19).toInt) ≤ 2388 ∧ -1 ≤ x1.toInt ∧ x1.toInt < ((G1.1 a 19).toInt))
    (oq92 : pL G92 F a = fuO (G.2.1 (F a 10)) r1 (mw (G.2.1 (F a 1)) 0) (1 : Int))
    (oq92a : x92.toInt = ffP (G.2.1 (F a 10)) (mw (G.2.1 (F a 1)) 0) (pL G92 F a))
    (oq92b : 0 ≤ ((G92.1 a 19).toInt) ∧ ((G92.1 a 19).toInt) ≤ 2388 ∧ x92.toInt < ((G92.1 a 19).toInt))
    (oq99 : ((G95.1 a 46).toInt) < ((G92.1 a 19).toInt) → aL G99 F a = (pL G95 F a).take ((G99.1 a 43).toInt).toNat)
    (wm : 0 ≤ ((G.1 a 23).toInt) ∧ ((G.1 a 23).toInt) ≤ 24)
    (am : 0 ≤ ((G.1 a 43).toInt) ∧ ((G.1 a 43).toInt) ≤ 2388)
    (c5 : x1.toInt = (-1 : Int))
    (f58 : ((G.1 a 6).toInt) = 0 ∨ ((G.1 a 6).toInt) = 1)
    (c45 : ((G.1 a 6).toInt) = 0)
    (t92 : -1 ≤ x92.toInt)
    (t99 : 0 ≤ ((G99.1 a 43).toInt) ∧ ((G99.1 a 43).toInt) ≤ 2388 ∧ ((G99.1 a 44).toInt) = x92.toInt ∧ ((x92.toInt = -1 ∧ ((G99.1 a 43).toInt) = ((G92.1 a 19).toInt)) ∨ (x92.toInt ≠ -1 ∧ ((G99.1 a 43).toInt) = x92.toInt + 1)))
    (c107 : x92.toInt = (-1 : Int))
    (c_G134_F_a_1 : G134.2.1 (F a 1) = G.2.1 (F a 1)) :
    ((ffP (G.2.1 (F a 10)) (mw (G.2.1 (F a 1)) 0) (fuO (G.2.1 (F a 10)) r1 (mw (G.2.1 (F a 1)) 0) 0) ≠ -1 ∨ (((G.1 a 6).toInt) = 0 ∧ ffP (G.2.1 (F a 10)) (mw (G.2.1 (F a 1)) 0) (fuO (G.2.1 (F a 10)) r1 (mw (G.2.1 (F a 1)) 0) 1) ≠ -1)) ∧ ((G1.1 a 45).toInt) = -5 ∧ mw (G134.2.1 (F a 1)) 0 = mw (G.2.1 (F a 4)) 0) ∨ (ffP (G.2.1 (F a 10)) (mw (G.2.1 (F a 1)) 0) (fuO (G.2.1 (F a 10)) r1 (mw (G.2.1 (F a 1)) 0) 0) = -1 ∧ (((G.1 a 6).toInt) = 0 → ffP (G.2.1 (F a 10)) (mw (G.2.1 (F a 1)) 0) (fuO (G.2.1 (F a 10)) r1 (mw (G.2.1 (F a 1)) 0) 1) = -1) ∧ ((G1.1 a 45).toInt) = (((fuO (G.2.1 (F a 10)) r1 (mw (G.2.1 (F a 1)) 0) 2).length : Nat) : Int) ∧ mw (G134.2.1 (F a 1)) 0 = mw (G.2.1 (F a 1)) 0) := by
  rw [oq92] at oq92a
  refine Or.inr ⟨by rw [← oq1b]; omega, fun h => by rw [← oq92a]; omega, ?_, ?_⟩
  · exact oq1
  · rw [c_G134_F_a_1]
theorem v_X11_settles_139_9 {F : Nat → Nat → Nat} (a : Nat) (G : XG) (G134 : XG)
    (hM : RM (G.2.1 (F a 1)) (0))
    (c_G134_F_a_1 : G134.2.1 (F a 1) = G.2.1 (F a 1)) :
    RM (G134.2.1 (F a 1)) 0 := by
  rw [c_G134_F_a_1]; exact hM
theorem v_X11_settles_121_10 {F : Nat → Nat → Nat} (a : Nat) (G : XG) (G92 : XG) (G119 : XG) (r1 : Int → Int)
    (oq92 : pL G92 F a = fuO (G.2.1 (F a 10)) r1 (mw (G.2.1 (F a 1)) 0) (1 : Int))
    (c_G119_F_a_10 : G119.2.1 (F a 10) = G.2.1 (F a 10))
    (c_G119_F_a_17 : G119.2.1 (F a 17) = G92.2.1 (F a 17))
    (c_G119_F_a_18 : G119.2.1 (F a 18) = G92.2.1 (F a 18))
    (d_G119_a_19 : G119.1 a 19 = G92.1 a 19) :
    PV (G119.2.1 (F a 10)) (pL G119 F a) := by
  rw [show pL G119 F a = pL G92 F a from pL_cg d_G119_a_19 c_G119_F_a_17 c_G119_F_a_18, oq92, c_G119_F_a_10]; exact fuO_pv _ _ _ _
theorem v_X11_settles_121_11 {F : Nat → Nat → Nat} (a : Nat) (G : XG) (G119 : XG)
    (hM : RM (G.2.1 (F a 1)) (0))
    (hA : RM (G.2.1 (F a 4)) 0)
    (hB : RM (G.2.1 (F a 2)) 0)
    (c_G119_F_a_4 : G119.2.1 (F a 4) = G.2.1 (F a 4)) :
    RM (G119.2.1 (F a 4)) 0 := by simp only [c_G119_F_a_4]; assumption
theorem v_X11_settles_124_12 {K : Nat → Nat} {F : Nat → Nat → Nat} (a : Nat) (G : XG) (G1 : XG) (G92 : XG) (G95 : XG) (x92 : Int32) (G99 : XG) (G121 : XG) (r1 : Int → Int) (x1 : Int32)
    (ha : K a = 13)
    (oq1 : ((G1.1 a 45).toInt) = (((fuO (G.2.1 (F a 10)) r1 (mw (G.2.1 (F a 1)) 0) 2).length : Nat) : Int))
    (oq1b : x1.toInt = ffP (G.2.1 (F a 10)) (mw (G.2.1 (F a 1)) 0) (fuO (G.2.1 (F a 10)) r1 (mw (G.2.1 (F a 1)) 0) 0))
    (oq1c : ((G1.1 a 46).toInt) = x1.toInt)
    (oq1e : 0 ≤ ((G1.1 a 19).toInt) ∧ ((G1.1 a 19).toInt) ≤ 2388 ∧ -1 ≤ x1.toInt ∧ x1.toInt < ((G1.1 a 19).toInt))
    (oq92 : pL G92 F a = fuO (G.2.1 (F a 10)) r1 (mw (G.2.1 (F a 1)) 0) (1 : Int))
    (oq92a : x92.toInt = ffP (G.2.1 (F a 10)) (mw (G.2.1 (F a 1)) 0) (pL G92 F a))
    (oq92b : 0 ≤ ((G92.1 a 19).toInt) ∧ ((G92.1 a 19).toInt) ≤ 2388 ∧ x92.toInt < ((G92.1 a 19).toInt))
    (oq99 : ((G95.1 a 46).toInt) < ((G92.1 a 19).toInt) → aL G99 F a = (pL G95 F a).take ((G99.1 a 43).toInt).toNat)
    (oq121 : mw (G121.2.1 (F a 1)) 0 = mw (G.2.1 (F a 4)) 0)
    (oq121b : 0 ≤ ((G121.1 a 23).toInt) ∧ ((G121.1 a 23).toInt) ≤ 24)
    (wm : 0 ≤ ((G.1 a 23).toInt) ∧ ((G.1 a 23).toInt) ≤ 24)
    (am : 0 ≤ ((G.1 a 43).toInt) ∧ ((G.1 a 43).toInt) ≤ 2388)
    (c5 : x1.toInt = (-1 : Int))
    (f63 : ((G.1 a 6).toInt) = 0 ∨ ((G.1 a 6).toInt) = 1)
    (c45 : ((G.1 a 6).toInt) = 0)
    (t92 : -1 ≤ x92.toInt)
    (t99 : 0 ≤ ((G99.1 a 43).toInt) ∧ ((G99.1 a 43).toInt) ≤ 2388 ∧ ((G99.1 a 44).toInt) = x92.toInt ∧ ((x92.toInt = -1 ∧ ((G99.1 a 43).toInt) = ((G92.1 a 19).toInt)) ∨ (x92.toInt ≠ -1 ∧ ((G99.1 a 43).toInt) = x92.toInt + 1)))
    (c107 : ¬ (x92.toInt = (-1 : Int))) :
    ((ffP (G.2.1 (F a 10)) (mw (G.2.1 (F a 1)) 0) (fuO (G.2.1 (F a 10)) r1 (mw (G.2.1 (F a 1)) 0) 0) ≠ -1 ∨ (((G.1 a 6).toInt) = 0 ∧ ffP (G.2.1 (F a 10)) (mw (G.2.1 (F a 1)) 0) (fuO (G.2.1 (F a 10)) r1 (mw (G.2.1 (F a 1)) 0) 1) ≠ -1)) ∧ -5 = -5 ∧ mw (G121.2.1 (F a 1)) 0 = mw (G.2.1 (F a 4)) 0) ∨ (ffP (G.2.1 (F a 10)) (mw (G.2.1 (F a 1)) 0) (fuO (G.2.1 (F a 10)) r1 (mw (G.2.1 (F a 1)) 0) 0) = -1 ∧ (((G.1 a 6).toInt) = 0 → ffP (G.2.1 (F a 10)) (mw (G.2.1 (F a 1)) 0) (fuO (G.2.1 (F a 10)) r1 (mw (G.2.1 (F a 1)) 0) 1) = -1) ∧ -5 = (((fuO (G.2.1 (F a 10)) r1 (mw (G.2.1 (F a 1)) 0) 2).length : Nat) : Int) ∧ mw (G121.2.1 (F a 1)) 0 = mw (G.2.1 (F a 1)) 0) := by
  rw [oq92] at oq92a
  refine Or.inl ⟨Or.inr ⟨by omega, by rw [← oq92a]; omega⟩, by omega, ?_⟩
  exact oq121
theorem v_X11_settles_124_13 {F : Nat → Nat → Nat} (a : Nat) (G121 : XG)
    (oq121a : RM (G121.2.1 (F a 1)) 0) :
    RM (G121.2.1 (F a 1)) 0 := by
  exact oq121a
theorem v_X11_settles_68_14 {F : Nat → Nat → Nat} (a : Nat) (G : XG) (G57 : XG)
    (hR : RV (G.2.1 (F a 10)))
    (c_G57_F_a_10 : G57.2.1 (F a 10) = G.2.1 (F a 10)) :
    RV (G57.2.1 (F a 10)) := by simp only [c_G57_F_a_10]; assumption
theorem v_X11_settles_68_15 {F : Nat → Nat → Nat} (a : Nat) (G : XG) (G57 : XG)
    (hM : RM (G.2.1 (F a 1)) (0))
    (hA : RM (G.2.1 (F a 4)) 0)
    (hB : RM (G.2.1 (F a 2)) 0)
    (c_G57_F_a_2 : G57.2.1 (F a 2) = G.2.1 (F a 2)) :
    RM (G57.2.1 (F a 2)) (0 : Int) := by simp only [c_G57_F_a_2]; assumption
theorem v_X11_settles_81_16 {F : Nat → Nat → Nat} (a : Nat) (G : XG) (G68 : XG)
    (hR : RV (G.2.1 (F a 10)))
    (c_G68_F_a_10 : G68.2.1 (F a 10) = G.2.1 (F a 10)) :
    RV (G68.2.1 (F a 10)) := by simp only [c_G68_F_a_10]; assumption
theorem v_X11_settles_88_17 {K : Nat → Nat} {F : Nat → Nat → Nat} (a : Nat) (G : XG) (G1 : XG) (G57 : XG) (G68 : XG) (G81 : XG) (r1 : Int → Int) (x1 : Int32)
    (ha : K a = 13)
    (oq1 : ((G1.1 a 45).toInt) = (((fuO (G.2.1 (F a 10)) r1 (mw (G.2.1 (F a 1)) 0) 2).length : Nat) : Int))
    (oq1b : x1.toInt = ffP (G.2.1 (F a 10)) (mw (G.2.1 (F a 1)) 0) (fuO (G.2.1 (F a 10)) r1 (mw (G.2.1 (F a 1)) 0) 0))
    (oq1c : ((G1.1 a 46).toInt) = x1.toInt)
    (oq1e : 0 ≤ ((G1.1 a 19).toInt) ∧ ((G1.1 a 19).toInt) ≤ 2388 ∧ -1 ≤ x1.toInt ∧ x1.toInt < ((G1.1 a 19).toInt))
    (oq68a : G68.2.2.2 = G57.2.2.2)
    (wm : 0 ≤ ((G.1 a 23).toInt) ∧ ((G.1 a 23).toInt) ≤ 24)
    (am : 0 ≤ ((G.1 a 43).toInt) ∧ ((G.1 a 43).toInt) ≤ 2388)
    (c5 : x1.toInt = (-1 : Int))
    (f55 : ((G.1 a 6).toInt) = 0 ∨ ((G.1 a 6).toInt) = 1)
    (c45 : ¬ (((G.1 a 6).toInt) = 0))
    (c_G81_F_a_1 : G81.2.1 (F a 1) = G.2.1 (F a 1)) :
    ((ffP (G.2.1 (F a 10)) (mw (G.2.1 (F a 1)) 0) (fuO (G.2.1 (F a 10)) r1 (mw (G.2.1 (F a 1)) 0) 0) ≠ -1 ∨ (((G.1 a 6).toInt) = 0 ∧ ffP (G.2.1 (F a 10)) (mw (G.2.1 (F a 1)) 0) (fuO (G.2.1 (F a 10)) r1 (mw (G.2.1 (F a 1)) 0) 1) ≠ -1)) ∧ ((G1.1 a 45).toInt) = -5 ∧ mw (G81.2.1 (F a 1)) 0 = mw (G.2.1 (F a 4)) 0) ∨ (ffP (G.2.1 (F a 10)) (mw (G.2.1 (F a 1)) 0) (fuO (G.2.1 (F a 10)) r1 (mw (G.2.1 (F a 1)) 0) 0) = -1 ∧ (((G.1 a 6).toInt) = 0 → ffP (G.2.1 (F a 10)) (mw (G.2.1 (F a 1)) 0) (fuO (G.2.1 (F a 10)) r1 (mw (G.2.1 (F a 1)) 0) 1) = -1) ∧ ((G1.1 a 45).toInt) = (((fuO (G.2.1 (F a 10)) r1 (mw (G.2.1 (F a 1)) 0) 2).length : Nat) : Int) ∧ mw (G81.2.1 (F a 1)) 0 = mw (G.2.1 (F a 1)) 0) := by
  refine Or.inr ⟨by rw [← oq1b]; omega, fun h => absurd h (by omega), ?_, ?_⟩
  · exact oq1
  · rw [c_G81_F_a_1]
theorem v_X11_settles_88_18 {F : Nat → Nat → Nat} (a : Nat) (G : XG) (G81 : XG)
    (hM : RM (G.2.1 (F a 1)) (0))
    (c_G81_F_a_1 : G81.2.1 (F a 1) = G.2.1 (F a 1)) :
    RM (G81.2.1 (F a 1)) 0 := by
  rw [c_G81_F_a_1]; exact hM
theorem v_X11_settles_24_19 {F : Nat → Nat → Nat} (a : Nat) (G : XG) (G1 : XG) (G22 : XG) (r1 : Int → Int)
    (oq1a : pL G1 F a = fuO (G.2.1 (F a 10)) r1 (mw (G.2.1 (F a 1)) 0) 0)
    (c_G22_F_a_10 : G22.2.1 (F a 10) = G.2.1 (F a 10))
    (c_G22_F_a_17 : G22.2.1 (F a 17) = G1.2.1 (F a 17))
    (c_G22_F_a_18 : G22.2.1 (F a 18) = G1.2.1 (F a 18))
    (d_G22_a_19 : G22.1 a 19 = G1.1 a 19) :
    PV (G22.2.1 (F a 10)) (pL G22 F a) := by
  rw [show pL G22 F a = pL G1 F a from pL_cg d_G22_a_19 c_G22_F_a_17 c_G22_F_a_18, oq1a, c_G22_F_a_10]; exact fuO_pv _ _ _ _
theorem v_X11_settles_24_20 {F : Nat → Nat → Nat} (a : Nat) (G : XG) (G22 : XG)
    (hM : RM (G.2.1 (F a 1)) (0))
    (hA : RM (G.2.1 (F a 4)) 0)
    (hB : RM (G.2.1 (F a 2)) 0)
    (c_G22_F_a_4 : G22.2.1 (F a 4) = G.2.1 (F a 4)) :
    RM (G22.2.1 (F a 4)) 0 := by simp only [c_G22_F_a_4]; assumption
theorem v_X11_settles_27_21 {K : Nat → Nat} {F : Nat → Nat → Nat} (a : Nat) (G : XG) (G1 : XG) (G24 : XG) (r1 : Int → Int) (x1 : Int32)
    (ha : K a = 13)
    (oq1 : ((G1.1 a 45).toInt) = (((fuO (G.2.1 (F a 10)) r1 (mw (G.2.1 (F a 1)) 0) 2).length : Nat) : Int))
    (oq1b : x1.toInt = ffP (G.2.1 (F a 10)) (mw (G.2.1 (F a 1)) 0) (fuO (G.2.1 (F a 10)) r1 (mw (G.2.1 (F a 1)) 0) 0))
    (oq1c : ((G1.1 a 46).toInt) = x1.toInt)
    (oq1e : 0 ≤ ((G1.1 a 19).toInt) ∧ ((G1.1 a 19).toInt) ≤ 2388 ∧ -1 ≤ x1.toInt ∧ x1.toInt < ((G1.1 a 19).toInt))
    (oq24 : mw (G24.2.1 (F a 1)) 0 = mw (G.2.1 (F a 4)) 0)
    (oq24b : 0 ≤ ((G24.1 a 23).toInt) ∧ ((G24.1 a 23).toInt) ≤ 24)
    (wm : 0 ≤ ((G.1 a 23).toInt) ∧ ((G.1 a 23).toInt) ≤ 24)
    (am : 0 ≤ ((G.1 a 43).toInt) ∧ ((G.1 a 43).toInt) ≤ 2388)
    (c5 : ¬ (x1.toInt = (-1 : Int))) :
    ((ffP (G.2.1 (F a 10)) (mw (G.2.1 (F a 1)) 0) (fuO (G.2.1 (F a 10)) r1 (mw (G.2.1 (F a 1)) 0) 0) ≠ -1 ∨ (((G.1 a 6).toInt) = 0 ∧ ffP (G.2.1 (F a 10)) (mw (G.2.1 (F a 1)) 0) (fuO (G.2.1 (F a 10)) r1 (mw (G.2.1 (F a 1)) 0) 1) ≠ -1)) ∧ -5 = -5 ∧ mw (G24.2.1 (F a 1)) 0 = mw (G.2.1 (F a 4)) 0) ∨ (ffP (G.2.1 (F a 10)) (mw (G.2.1 (F a 1)) 0) (fuO (G.2.1 (F a 10)) r1 (mw (G.2.1 (F a 1)) 0) 0) = -1 ∧ (((G.1 a 6).toInt) = 0 → ffP (G.2.1 (F a 10)) (mw (G.2.1 (F a 1)) 0) (fuO (G.2.1 (F a 10)) r1 (mw (G.2.1 (F a 1)) 0) 1) = -1) ∧ -5 = (((fuO (G.2.1 (F a 10)) r1 (mw (G.2.1 (F a 1)) 0) 2).length : Nat) : Int) ∧ mw (G24.2.1 (F a 1)) 0 = mw (G.2.1 (F a 1)) 0) := by
  refine Or.inl ⟨Or.inl (by rw [← oq1b]; omega), by omega, ?_⟩
  exact oq24
theorem v_X11_settles_27_22 {F : Nat → Nat → Nat} (a : Nat) (G24 : XG)
    (oq24a : RM (G24.2.1 (F a 1)) 0) :
    RM (G24.2.1 (F a 1)) 0 := by
  exact oq24a
theorem z_X11_settles_1 (a0 : Int) (a1 : Int) (h0 : -1 ≤ a0) (h1 : 0 ≤ a1 ∧ a1 ≤ 2388 ∧ a0 < a1) : 0 ≤ a1 ∧ a1 ≤ 2388 ∧ -1 ≤ a0 ∧ a0 < 2388 := by omega
theorem z_X11_settles_2 (a0 : Int) (a1 : Int) (h0 : 0 ≤ a0 ∧ a0 ≤ 24) (h1 : 0 ≤ a1) (h2 : a1 ≤ 2388) : (0 ≤ a0 ∧ a0 ≤ 24) ∧ (0 ≤ a1 ∧ a1 ≤ 2388) := by omega
theorem z_X11_settles_3 (a0 : Int) (a1 : Int) (h0 : -1 ≤ a0) (h1 : 0 ≤ a1 ∧ a1 ≤ 2388 ∧ a0 < a1) (h2 : ¬ (a0 = (-1 : Int))) : 0 ≤ a0 ∧ a0 < a1 ∧ a1 ≤ 2388 := by omega
theorem z_X11_settles_4 (a0 : Int) (a1 : Int) (h0 : 0 ≤ a1) (h1 : a1 ≤ 2388) (h2 : 0 ≤ a0 ∧ a0 ≤ 24) : (0 ≤ a0 ∧ a0 ≤ 24) ∧ (0 ≤ a1 ∧ a1 ≤ 2388) := by omega
theorem z_X11_settles_5 (a0 : Int) (a1 : Int) (h0 : 0 ≤ a0 ∧ a0 ≤ 24) (h1 : 0 ≤ a1 ∧ a1 ≤ 2388) : (0 ≤ a0 ∧ a0 ≤ 24) ∧ (0 ≤ a1 ∧ a1 ≤ 2388) := by omega
theorem z_X11_settles_6 (a0 : Int) (a1 : Int) (a2 : Int) (a3 : Int) (h0 : 0 ≤ a2 ∧ a2 ≤ 2388 ∧ -1 ≤ a0 ∧ a0 < a2) (h1 : a3 = a0) (h2 : a1 = (a3 + (1 : Int)) ∨ (a3 + (1 : Int)) < -2147483648 ∨ 2147483648 ≤ (a3 + (1 : Int))) : a1 = (a3 + (1 : Int)) := by omega
theorem z_X11_settles_7 (a0 : Int) (a1 : Int) (a2 : Int) (h0 : 0 ≤ a1 ∧ a1 ≤ 2388 ∧ -1 ≤ a0 ∧ a0 < a1) (h1 : a2 = a0) (h2 : ¬ (a0 = (-1 : Int))) : 0 ≤ a2 ∧ a2 < a1 ∧ a1 ≤ 2388 := by omega
theorem z_X11_settles_8 (a0 : Int) (a1 : Int) (h0 : 0 ≤ a0 ∧ a0 ≤ 2388) (h1 : 0 ≤ a1 ∧ a1 ≤ 24) : (0 ≤ a1 ∧ a1 ≤ 24) ∧ (0 ≤ a0 ∧ a0 ≤ 2388) := by omega
abbrev rm_X11_settles : Room := { frames := 7, cells := 0, slots := 0, locals := 166 }
set_option maxHeartbeats 4000000 in
set_option maxRecDepth 100000 in
theorem c_X11_settles (l : Launch) (E : XE) (K : Nat → Nat) (F : Nat → Nat → Nat) (G : XG) (a : Nat) (r1 : Int → Int) (ha : K a = 13) (wm : 0 ≤ ((G.1 a 23).toInt) ∧ ((G.1 a 23).toInt) ≤ 24) (am : 0 ≤ ((G.1 a 43).toInt) ∧ ((G.1 a 43).toInt) ≤ 2388) (hR : RV (G.2.1 (F a 10))) (hM : RM (G.2.1 (F a 1)) (0)) (hA : RM (G.2.1 (F a 4)) 0) (hB : RM (G.2.1 (F a 2)) 0) (h1 : LSt (G.2.1 (F a 10)) (G.2.1 (F a 12)) r1 12) : Met l yX11_settles (xw yX11_settles cX11_settles 1 (some .int)) rm_X11_settles (va_Pc [.ref a] (XP E K F G)) (XQ E (fun v (u : XG) => ∃ r : Int32, v = .int r ∧ XFr [(a, 16), (a, 19), (a, 20), (a, 21), (a, 23), (a, 45), (a, 46), (a, 43), (a, 44)] [F a 15, F a 17, F a 18, F a 1, F a 8, F a 22, F a 11, F a 13, F a 9, F a 41, F a 42] [] G u ∧ ((0 ≤ ((u.1 a 23).toInt) ∧ ((u.1 a 23).toInt) ≤ 24) ∧ (0 ≤ ((u.1 a 43).toInt) ∧ ((u.1 a 43).toInt) ≤ 2388)) ∧ (((ffP (G.2.1 (F a 10)) (mw (G.2.1 (F a 1)) 0) (fuO (G.2.1 (F a 10)) r1 (mw (G.2.1 (F a 1)) 0) 0) ≠ -1 ∨ (((G.1 a 6).toInt) = 0 ∧ ffP (G.2.1 (F a 10)) (mw (G.2.1 (F a 1)) 0) (fuO (G.2.1 (F a 10)) r1 (mw (G.2.1 (F a 1)) 0) 1) ≠ -1)) ∧ r.toInt = -5 ∧ mw (u.2.1 (F a 1)) 0 = mw (G.2.1 (F a 4)) 0) ∨ (ffP (G.2.1 (F a 10)) (mw (G.2.1 (F a 1)) 0) (fuO (G.2.1 (F a 10)) r1 (mw (G.2.1 (F a 1)) 0) 0) = -1 ∧ (((G.1 a 6).toInt) = 0 → ffP (G.2.1 (F a 10)) (mw (G.2.1 (F a 1)) 0) (fuO (G.2.1 (F a 10)) r1 (mw (G.2.1 (F a 1)) 0) 1) = -1) ∧ r.toInt = (((fuO (G.2.1 (F a 10)) r1 (mw (G.2.1 (F a 1)) 0) 2).length : Nat) : Int) ∧ mw (u.2.1 (F a 1)) 0 = mw (G.2.1 (F a 1)) 0)) ∧ (RM (u.2.1 (F a 1)) 0)) (fun u H => TW E K F u H)) 0 0 (xA E) := by
  refine x_enter (by decide) (Nat.le_of_ble_eq_true rfl) ?_
  intro p e s m args below meth c Q S hr hlk hnm hQ hP ls hl
  obtain ⟨hz, hK, hT⟩ := hP
  obtain ⟨hx, hb, -, -, -⟩ := id S
  obtain ⟨H, hT, hS, hgo⟩ : ∃ H : Heap, TW E K F G H ∧ va_S (xA E) s.heap H [] ∧ H = s.heap := ⟨_, hT, va_S.rf, rfl⟩
  rw [← hgo]
  have hl : lv_has ls 1 [(0, .ref a)] := hl
  obtain ⟨hk9999, hj9999⟩ := fkX11_15 hT ha
  obtain ⟨hk9999a, hj9999a⟩ := fkX11_17 hT ha
  obtain ⟨hk9999b, hj9999b⟩ := fkX11_18 hT ha
  obtain ⟨hk9999c, hj9999c⟩ := fkX11_1 hT ha
  obtain ⟨hk9999d, hj9999d⟩ := fkX11_8 hT ha
  obtain ⟨hk9999e, hj9999e⟩ := fkX11_22 hT ha
  obtain ⟨hk9999f, hj9999f⟩ := fkX11_11 hT ha
  obtain ⟨hk9999g, hj9999g⟩ := fkX11_13 hT ha
  obtain ⟨hk9999h, hj9999h⟩ := fkX11_9 hT ha
  obtain ⟨hk9999i, hj9999i⟩ := fkX11_41 hT ha
  obtain ⟨hk9999j, hj9999j⟩ := fkX11_42 hT ha
  obtain ⟨hk9999k, hj9999k⟩ := fkX11_10 hT ha
  obtain ⟨hk9999l, hj9999l⟩ := fkX11_4 hT ha
  obtain ⟨hk9999m, hj9999m⟩ := fkX11_2 hT ha
  obtain ⟨hk9999n, hj9999n⟩ := fkX11_12 hT ha
  refine lv_aload_n hx hb dX11_settles_0 rfl (lv_at hl 0 rfl) ?_
  refine x_cl0 (x_runV (b := a) (As := []) (rest := []) S (c_X11_look l E K F G a r1 ha (v_X11_settles_1_1 (F := F) a G hR) (v_X11_settles_1_2 (F := F) a G hM) (v_X11_settles_1_3 (F := F) a G r1 h1)) mv_X11_look km_X11_328 rfl rfl ⟨Nat.le_of_ble_eq_true rfl, Nat.le_of_ble_eq_true rfl⟩ (rc_13 hK hT ha) hK (fun _ => XP.blind) (fun U hU hW => XP.at hK hz hS hT hU hW) rfl hl.1 (Nat.le_of_ble_eq_true rfl) dX11_settles_1 ⟨Nat.le_of_ble_eq_true rfl, Nat.le_of_ble_eq_true rfl⟩) hS ?_
  rintro _ G1 H locs ⟨x1, rfl, hF1, oq1, oq1a, oq1b, oq1c, oq1d, oq1e⟩ hT hS
  have z4 : 0 ≤ ((G1.1 a 19).toInt) ∧ ((G1.1 a 19).toInt) ≤ 2388 ∧ -1 ≤ x1.toInt ∧ x1.toInt < ((G1.1 a 19).toInt) := oq1e
  have z4a : ((G1.1 a 46).toInt) = x1.toInt := oq1c
  refine lv_iconst (v := (-1)) hx hb dX11_settles_4 (by decide) ?_
  refine xi_ceq (tgt := 28) hx hb (rfl : Int32.toInt x1 = x1.toInt) ((by decide) : Int32.toInt (-1) = (-1 : Int)) dX11_settles_5 (by decide) (fun c5 => ?_) (fun c5 => ?_)
  · refine lv_aload_n hx hb dX11_settles_28 rfl (lv_at hl 0 rfl) ?_
    refine gX11_9 S hK hT ha kf_X11_30 dX11_settles_29 (fun _ _ => ?_)
    refine lv_iconst (v := 0) hx hb dX11_settles_32 (by decide) ?_
    refine lv_dup2_11 hx hb dX11_settles_33 rfl rfl ?_
    refine al_0 S hK hT hk9999h ar_36 (by decide) (by decide) dX11_settles_34 (fun x34 hv34 o34 => ?_)
    have hv34 : x34.toInt = (aI (G.2.1 (F a 9)) 0) := hv34.trans (by rw [((by decide) : Int32.toInt 0 = (0 : Int)), ((hF1.2.1 _ (xn1 (xne_k hk9999h hk9999 (by decide)) (xn1 (xne_k hk9999h hk9999a (by decide)) (xn1 (xne_k hk9999h hk9999b (by decide)) (xn1 (xne_k hk9999h hk9999f (by decide)) xn0))))) : G1.2.1 (F a 9) = G.2.1 (F a 9))])
    refine lv_aload_n hx hb dX11_settles_35 rfl (lv_at hl 0 rfl) ?_
    refine gX11_19 S hK hT ha kf_X11_203 dX11_settles_36 (v := (G1.1 a 19)) rfl (?_)
    refine xi_iadd hx hb (hv34 : Int32.toInt x34 = (aI (G.2.1 (F a 9)) 0)) (rfl : Int32.toInt (G1.1 a 19) = ((G1.1 a 19).toInt)) dX11_settles_39 (fun x39 t39 => ?_)
    refine as_0 (x := x39) S hK hT hS hk9999h ar_36 aw_36 (by decide) (by decide) dX11_settles_40 (fun H locs hT hS => ?_)
    obtain ⟨G40, hG40⟩ : ∃ GG : XG, GG = cput G1 (F a 9) (0 : Int32).toNatClampNeg x39 := ⟨_, rfl⟩
    rw [← hG40] at hT
    refine lv_aload_n hx hb dX11_settles_41 rfl (lv_at hl 0 rfl) ?_
    refine gX11_6 S hK hT ha kf_X11_206 dX11_settles_42 (v := (G.1 a 6)) ((lc_d hG40).trans (hF1.1 _ _ (xnj (by decide) (xnj (by decide) (xnj (by decide) (xnj (by decide) xn0)))))) (fun hz42 => ?_)
    refine xi_zeq (tgt := 89) hx hb (rfl : Int32.toInt (G.1 a 6) = ((G.1 a 6).toInt)) dX11_settles_45 (by decide) (fun c45 => ?_) (fun c45 => ?_)
    · refine lv_aload_n hx hb dX11_settles_89 rfl (lv_at hl 0 rfl) ?_
      refine lv_aload_n hx hb dX11_settles_90 rfl (lv_at hl 0 rfl) ?_
      refine lv_iconst (v := 1) hx hb dX11_settles_91 (by decide) ?_
      refine x_cl0 (x_runV (b := a) (As := [.int 1]) (rest := [.ref a]) S (c_X11_asks l E K F G40 a 1 r1 ha (v_X11_settles_92_4 (F := F) a G G40 hR ((lc_c hG40 (xne_k hk9999k hk9999h (by decide))).trans (hF1.2.1 _ (xn1 (xne_k hk9999k hk9999 (by decide)) (xn1 (xne_k hk9999k hk9999a (by decide)) (xn1 (xne_k hk9999k hk9999b (by decide)) (xn1 (xne_k hk9999k hk9999f (by decide)) xn0))))))) (v_X11_settles_92_5 (F := F) a G G40 hM hA hB ((lc_c hG40 (xne_k hk9999c hk9999h (by decide))).trans (hF1.2.1 _ (xn1 (xne_k hk9999c hk9999 (by decide)) (xn1 (xne_k hk9999c hk9999a (by decide)) (xn1 (xne_k hk9999c hk9999b (by decide)) (xn1 (xne_k hk9999c hk9999f (by decide)) xn0))))))) (v_X11_settles_92_6 (F := F) a G G1 G40 r1 h1 oq1d ((lc_c hG40 (xne_k hk9999k hk9999h (by decide))).trans (hF1.2.1 _ (xn1 (xne_k hk9999k hk9999 (by decide)) (xn1 (xne_k hk9999k hk9999a (by decide)) (xn1 (xne_k hk9999k hk9999b (by decide)) (xn1 (xne_k hk9999k hk9999f (by decide)) xn0)))))) ((lc_c hG40 (xne_k hk9999n hk9999h (by decide))).trans (hF1.2.1 _ (xn1 (xne_k hk9999n hk9999 (by decide)) (xn1 (xne_k hk9999n hk9999a (by decide)) (xn1 (xne_k hk9999n hk9999b (by decide)) (xn1 (xne_j hj9999n hj9999f (by first | decide | omega)) xn0))))))) (v_X11_settles_92_7 (F := F) a G G1 G40 oq1d ((lc_c hG40 (xne_k hk9999c hk9999h (by decide))).trans (hF1.2.1 _ (xn1 (xne_k hk9999c hk9999 (by decide)) (xn1 (xne_k hk9999c hk9999a (by decide)) (xn1 (xne_k hk9999c hk9999b (by decide)) (xn1 (xne_k hk9999c hk9999f (by decide)) xn0)))))) ((lc_c hG40 (xne_k hk9999k hk9999h (by decide))).trans (hF1.2.1 _ (xn1 (xne_k hk9999k hk9999 (by decide)) (xn1 (xne_k hk9999k hk9999a (by decide)) (xn1 (xne_k hk9999k hk9999b (by decide)) (xn1 (xne_k hk9999k hk9999f (by decide)) xn0)))))) (lc_c hG40 (xne_k hk9999f hk9999h (by decide))))) mv_X11_asks km_X11_319 rfl rfl ⟨Nat.le_of_ble_eq_true rfl, Nat.le_of_ble_eq_true rfl⟩ (rc_13 hK hT ha) hK (fun _ => XP.blind) (fun U hU hW => XP.at hK hz hS hT hU hW) rfl hl.1 (Nat.le_of_ble_eq_true rfl) dX11_settles_92 ⟨Nat.le_of_ble_eq_true rfl, Nat.le_of_ble_eq_true rfl⟩) hS ?_
      rintro _ G92 H locs ⟨x92, rfl, hF92, t92, oq92, oq92a, oq92b⟩ hT hS
      have t92 : -1 ≤ x92.toInt := t92
      have oq92 : pL G92 F a = fuO (G.2.1 (F a 10)) r1 (mw (G.2.1 (F a 1)) 0) (1 : Int) := by simp only [(show G40.2.1 (F a 10) = G.2.1 (F a 10) from ((lc_c hG40 (xne_k hk9999k hk9999h (by decide))).trans (hF1.2.1 _ (xn1 (xne_k hk9999k hk9999 (by decide)) (xn1 (xne_k hk9999k hk9999a (by decide)) (xn1 (xne_k hk9999k hk9999b (by decide)) (xn1 (xne_k hk9999k hk9999f (by decide)) xn0))))))), (show G40.2.1 (F a 1) = G.2.1 (F a 1) from ((lc_c hG40 (xne_k hk9999c hk9999h (by decide))).trans (hF1.2.1 _ (xn1 (xne_k hk9999c hk9999 (by decide)) (xn1 (xne_k hk9999c hk9999a (by decide)) (xn1 (xne_k hk9999c hk9999b (by decide)) (xn1 (xne_k hk9999c hk9999f (by decide)) xn0)))))))] at oq92; exact oq92
      have oq92a : x92.toInt = ffP (G.2.1 (F a 10)) (mw (G.2.1 (F a 1)) 0) (pL G92 F a) := by simp only [(show G40.2.1 (F a 10) = G.2.1 (F a 10) from ((lc_c hG40 (xne_k hk9999k hk9999h (by decide))).trans (hF1.2.1 _ (xn1 (xne_k hk9999k hk9999 (by decide)) (xn1 (xne_k hk9999k hk9999a (by decide)) (xn1 (xne_k hk9999k hk9999b (by decide)) (xn1 (xne_k hk9999k hk9999f (by decide)) xn0))))))), (show G40.2.1 (F a 1) = G.2.1 (F a 1) from ((lc_c hG40 (xne_k hk9999c hk9999h (by decide))).trans (hF1.2.1 _ (xn1 (xne_k hk9999c hk9999 (by decide)) (xn1 (xne_k hk9999c hk9999a (by decide)) (xn1 (xne_k hk9999c hk9999b (by decide)) (xn1 (xne_k hk9999c hk9999f (by decide)) xn0)))))))] at oq92a; exact oq92a
      have z95 : 0 ≤ ((G92.1 a 19).toInt) ∧ ((G92.1 a 19).toInt) ≤ 2388 ∧ x92.toInt < ((G92.1 a 19).toInt) := oq92b
      refine pX11_46 (v := x92) S hK hT hS ha kf_X11_322 dX11_settles_95 (fun H locs hT hS => ?_)
      obtain ⟨G95, hG95⟩ : ∃ GG : XG, GG = dput G92 a 46 x92 := ⟨_, rfl⟩
      rw [← hG95] at hT
      refine lv_aload_n hx hb dX11_settles_98 rfl (lv_at hl 0 rfl) ?_
      refine x_cv0 (x_runV (b := a) (As := []) (rest := []) S (c_X11_takeAsked l E K F G95 a ha (by rw [(show (G95.1 a 19).toInt = ((G92.1 a 19).toInt) from (congrArg Int32.toInt (ld_j hG95 (by decide))).trans (rfl : Int32.toInt (G92.1 a 19) = ((G92.1 a 19).toInt))), (show (G95.1 a 46).toInt = x92.toInt from (congrArg Int32.toInt (ld_at hG95)).trans (rfl : Int32.toInt x92 = x92.toInt))] <;> exact (z_X11_settles_1 x92.toInt ((G92.1 a 19).toInt) t92 z95))) mv_X11_takeAsked km_X11_337 rfl rfl ⟨Nat.le_of_ble_eq_true rfl, Nat.le_of_ble_eq_true rfl⟩ (rc_13 hK hT ha) hK (fun _ => XP.blind) (fun U hU hW => XP.at hK hz hS hT hU hW) rfl hl.1 (Nat.le_of_ble_eq_true rfl) dX11_settles_99 ⟨Nat.le_of_ble_eq_true rfl, Nat.le_of_ble_eq_true rfl⟩) hS ?_
      rintro G99 H locs ⟨hF99, t99, oq99⟩ hT hS
      have t99 : 0 ≤ ((G99.1 a 43).toInt) ∧ ((G99.1 a 43).toInt) ≤ 2388 ∧ ((G99.1 a 44).toInt) = x92.toInt ∧ ((x92.toInt = -1 ∧ ((G99.1 a 43).toInt) = ((G92.1 a 19).toInt)) ∨ (x92.toInt ≠ -1 ∧ ((G99.1 a 43).toInt) = x92.toInt + 1)) := by rw [(show (G95.1 a 46).toInt = x92.toInt from (congrArg Int32.toInt (ld_at hG95)).trans (rfl : Int32.toInt x92 = x92.toInt))] at t99; rw [(show (G95.1 a 19).toInt = ((G92.1 a 19).toInt) from (congrArg Int32.toInt (ld_j hG95 (by decide))).trans (rfl : Int32.toInt (G92.1 a 19) = ((G92.1 a 19).toInt)))] at t99; exact t99
      have oq99 : ((G95.1 a 46).toInt) < ((G92.1 a 19).toInt) → aL G99 F a = (pL G95 F a).take ((G99.1 a 43).toInt).toNat := by simp only [(show G95.1 a 19 = G92.1 a 19 from (ld_j hG95 (by decide)))] at oq99; exact oq99
      refine lv_aload_n hx hb dX11_settles_102 rfl (lv_at hl 0 rfl) ?_
      refine gX11_46 S hK hT ha kf_X11_322 dX11_settles_103 (v := x92) ((hF99.1 _ _ (xnj (by decide) (xnj (by decide) xn0))).trans (ld_at hG95)) (?_)
      refine lv_iconst (v := (-1)) hx hb dX11_settles_106 (by decide) ?_
      refine xi_ceq (tgt := 125) hx hb (rfl : Int32.toInt x92 = x92.toInt) ((by decide) : Int32.toInt (-1) = (-1 : Int)) dX11_settles_107 (by decide) (fun c107 => ?_) (fun c107 => ?_)
      · refine lv_aload_n hx hb dX11_settles_125 rfl (lv_at hl 0 rfl) ?_
        refine gX11_9 S hK hT ha kf_X11_30 dX11_settles_126 (fun _ _ => ?_)
        refine lv_iconst (v := 1) hx hb dX11_settles_129 (by decide) ?_
        refine lv_dup2_11 hx hb dX11_settles_130 rfl rfl ?_
        refine al_0 S hK hT hk9999h ar_36 (by decide) (by decide) dX11_settles_131 (fun x131 hv131 o131 => ?_)
        have hv131 : x131.toInt = (aI (G99.2.1 (F a 9)) 1) := hv131.trans (by rw [((by decide) : Int32.toInt 1 = (1 : Int))])
        refine lv_iconst (v := 1) hx hb dX11_settles_132 (by decide) ?_
        refine xi_iadd hx hb (hv131 : Int32.toInt x131 = (aI (G99.2.1 (F a 9)) 1)) ((by decide) : Int32.toInt 1 = (1 : Int)) dX11_settles_133 (fun x133 t133 => ?_)
        refine as_0 (x := x133) S hK hT hS hk9999h ar_36 aw_36 (by decide) (by decide) dX11_settles_134 (fun H locs hT hS => ?_)
        obtain ⟨G134, hG134⟩ : ∃ GG : XG, GG = cput G99 (F a 9) (1 : Int32).toNatClampNeg x133 := ⟨_, rfl⟩
        rw [← hG134] at hT
        refine lv_aload_n hx hb dX11_settles_135 rfl (lv_at hl 0 rfl) ?_
        refine gX11_45 S hK hT ha kf_X11_316 dX11_settles_136 (v := (G1.1 a 45)) ((lc_d hG134).trans ((hF99.1 _ _ (xnj (by decide) (xnj (by decide) xn0))).trans ((ld_j hG95 (by decide)).trans ((hF92.1 _ _ (xnj (by decide) (xnj (by decide) xn0))).trans (lc_d hG40))))) (?_)
        exact x_ri hx hb hr hlk hQ (Nat.le_of_ble_eq_true rfl) (Nat.le_of_ble_eq_true rfl) hS dX11_settles_139 G134 ⟨_, rfl, (by rw [hG134]; exact XFr.cput (XFr.call (by rw [hG95]; exact XFr.dput (XFr.call (by rw [hG40]; exact XFr.cput (XFr.call XFr.rf hF1 (xm1 0 rfl (xm1 1 rfl (xm1 5 rfl (xm1 6 rfl xm0)))) (xm1 0 rfl (xm1 1 rfl (xm1 2 rfl (xm1 6 rfl xm0)))) xm0) (List.mem_of_getElem? (i := 8) rfl)) hF92 (xm1 0 rfl (xm1 1 rfl xm0)) (xm1 0 rfl (xm1 1 rfl (xm1 2 rfl xm0))) xm0) (List.mem_of_getElem? (i := 6) rfl)) hF99 (xm1 7 rfl (xm1 8 rfl xm0)) (xm1 9 rfl (xm1 10 rfl (xm1 8 rfl xm0))) xm0) (List.mem_of_getElem? (i := 8) rfl)), (by rw [(show (G134.1 a 23).toInt = ((G.1 a 23).toInt) from (congrArg Int32.toInt ((lc_d hG134).trans ((hF99.1 _ _ (xnj (by decide) (xnj (by decide) xn0))).trans ((ld_j hG95 (by decide)).trans ((hF92.1 _ _ (xnj (by decide) (xnj (by decide) xn0))).trans ((lc_d hG40).trans (hF1.1 _ _ (xnj (by decide) (xnj (by decide) (xnj (by decide) (xnj (by decide) xn0))))))))))).trans (rfl : Int32.toInt (G.1 a 23) = ((G.1 a 23).toInt))), (show (G134.1 a 43).toInt = ((G99.1 a 43).toInt) from (congrArg Int32.toInt (lc_d hG134)).trans (rfl : Int32.toInt (G99.1 a 43) = ((G99.1 a 43).toInt)))] <;> exact (z_X11_settles_2 ((G.1 a 23).toInt) ((G99.1 a 43).toInt) wm (t99).1 (t99).2.1)), (v_X11_settles_139_8 (K := K) (F := F) a G G1 G92 G95 x92 G99 G134 r1 x1 ha oq1 oq1b oq1c oq1e oq92 oq92a oq92b oq99 wm am c5 (xzi hz42) c45 t92 t99 c107 ((lc_c hG134 (xne_k hk9999c hk9999h (by decide))).trans ((hF99.2.1 _ (xn1 (xne_k hk9999c hk9999i (by decide)) (xn1 (xne_k hk9999c hk9999j (by decide)) (xn1 (xne_k hk9999c hk9999h (by decide)) xn0)))).trans ((ld_c hG95).trans ((hF92.2.1 _ (xn1 (xne_k hk9999c hk9999 (by decide)) (xn1 (xne_k hk9999c hk9999a (by decide)) (xn1 (xne_k hk9999c hk9999b (by decide)) xn0)))).trans ((lc_c hG40 (xne_k hk9999c hk9999h (by decide))).trans (hF1.2.1 _ (xn1 (xne_k hk9999c hk9999 (by decide)) (xn1 (xne_k hk9999c hk9999a (by decide)) (xn1 (xne_k hk9999c hk9999b (by decide)) (xn1 (xne_k hk9999c hk9999f (by decide)) xn0))))))))))), (v_X11_settles_139_9 (F := F) a G G134 hM ((lc_c hG134 (xne_k hk9999c hk9999h (by decide))).trans ((hF99.2.1 _ (xn1 (xne_k hk9999c hk9999i (by decide)) (xn1 (xne_k hk9999c hk9999j (by decide)) (xn1 (xne_k hk9999c hk9999h (by decide)) xn0)))).trans ((ld_c hG95).trans ((hF92.2.1 _ (xn1 (xne_k hk9999c hk9999 (by decide)) (xn1 (xne_k hk9999c hk9999a (by decide)) (xn1 (xne_k hk9999c hk9999b (by decide)) xn0)))).trans ((lc_c hG40 (xne_k hk9999c hk9999h (by decide))).trans (hF1.2.1 _ (xn1 (xne_k hk9999c hk9999 (by decide)) (xn1 (xne_k hk9999c hk9999a (by decide)) (xn1 (xne_k hk9999c hk9999b (by decide)) (xn1 (xne_k hk9999c hk9999f (by decide)) xn0)))))))))))⟩ hT
      · refine lv_aload_n hx hb dX11_settles_110 rfl (lv_at hl 0 rfl) ?_
        refine gX11_9 S hK hT ha kf_X11_30 dX11_settles_111 (fun _ _ => ?_)
        refine lv_iconst (v := 2) hx hb dX11_settles_114 (by decide) ?_
        refine lv_dup2_11 hx hb dX11_settles_115 rfl rfl ?_
        refine al_0 S hK hT hk9999h ar_36 (by decide) (by decide) dX11_settles_116 (fun x116 hv116 o116 => ?_)
        have hv116 : x116.toInt = (aI (G99.2.1 (F a 9)) 2) := hv116.trans (by rw [((by decide) : Int32.toInt 2 = (2 : Int))])
        refine lv_iconst (v := 1) hx hb dX11_settles_117 (by decide) ?_
        refine xi_iadd hx hb (hv116 : Int32.toInt x116 = (aI (G99.2.1 (F a 9)) 2)) ((by decide) : Int32.toInt 1 = (1 : Int)) dX11_settles_118 (fun x118 t118 => ?_)
        refine as_0 (x := x118) S hK hT hS hk9999h ar_36 aw_36 (by decide) (by decide) dX11_settles_119 (fun H locs hT hS => ?_)
        obtain ⟨G119, hG119⟩ : ∃ GG : XG, GG = cput G99 (F a 9) (2 : Int32).toNatClampNeg x118 := ⟨_, rfl⟩
        rw [← hG119] at hT
        refine lv_aload_n hx hb dX11_settles_120 rfl (lv_at hl 0 rfl) ?_
        refine x_cl0 (x_runV (b := a) (As := []) (rest := []) S (c_X11_goesBack l E K F G119 a ha (by rw [(show (G119.1 a 46).toInt = x92.toInt from (congrArg Int32.toInt ((lc_d hG119).trans ((hF99.1 _ _ (xnj (by decide) (xnj (by decide) xn0))).trans (ld_at hG95)))).trans (rfl : Int32.toInt x92 = x92.toInt)), (show (G119.1 a 19).toInt = ((G92.1 a 19).toInt) from (congrArg Int32.toInt ((lc_d hG119).trans ((hF99.1 _ _ (xnj (by decide) (xnj (by decide) xn0))).trans (ld_j hG95 (by decide))))).trans (rfl : Int32.toInt (G92.1 a 19) = ((G92.1 a 19).toInt)))] <;> exact (z_X11_settles_3 x92.toInt ((G92.1 a 19).toInt) t92 z95 c107)) (v_X11_settles_121_10 (F := F) a G G92 G119 r1 oq92 ((lc_c hG119 (xne_k hk9999k hk9999h (by decide))).trans ((hF99.2.1 _ (xn1 (xne_k hk9999k hk9999i (by decide)) (xn1 (xne_k hk9999k hk9999j (by decide)) (xn1 (xne_k hk9999k hk9999h (by decide)) xn0)))).trans ((ld_c hG95).trans ((hF92.2.1 _ (xn1 (xne_k hk9999k hk9999 (by decide)) (xn1 (xne_k hk9999k hk9999a (by decide)) (xn1 (xne_k hk9999k hk9999b (by decide)) xn0)))).trans ((lc_c hG40 (xne_k hk9999k hk9999h (by decide))).trans (hF1.2.1 _ (xn1 (xne_k hk9999k hk9999 (by decide)) (xn1 (xne_k hk9999k hk9999a (by decide)) (xn1 (xne_k hk9999k hk9999b (by decide)) (xn1 (xne_k hk9999k hk9999f (by decide)) xn0)))))))))) ((lc_c hG119 (xne_k hk9999a hk9999h (by decide))).trans ((hF99.2.1 _ (xn1 (xne_k hk9999a hk9999i (by decide)) (xn1 (xne_k hk9999a hk9999j (by decide)) (xn1 (xne_k hk9999a hk9999h (by decide)) xn0)))).trans (ld_c hG95))) ((lc_c hG119 (xne_k hk9999b hk9999h (by decide))).trans ((hF99.2.1 _ (xn1 (xne_k hk9999b hk9999i (by decide)) (xn1 (xne_k hk9999b hk9999j (by decide)) (xn1 (xne_k hk9999b hk9999h (by decide)) xn0)))).trans (ld_c hG95))) ((lc_d hG119).trans ((hF99.1 _ _ (xnj (by decide) (xnj (by decide) xn0))).trans (ld_j hG95 (by decide))))) (v_X11_settles_121_11 (F := F) a G G119 hM hA hB ((lc_c hG119 (xne_k hk9999l hk9999h (by decide))).trans ((hF99.2.1 _ (xn1 (xne_k hk9999l hk9999i (by decide)) (xn1 (xne_k hk9999l hk9999j (by decide)) (xn1 (xne_k hk9999l hk9999h (by decide)) xn0)))).trans ((ld_c hG95).trans ((hF92.2.1 _ (xn1 (xne_k hk9999l hk9999 (by decide)) (xn1 (xne_k hk9999l hk9999a (by decide)) (xn1 (xne_k hk9999l hk9999b (by decide)) xn0)))).trans ((lc_c hG40 (xne_k hk9999l hk9999h (by decide))).trans (hF1.2.1 _ (xn1 (xne_k hk9999l hk9999 (by decide)) (xn1 (xne_k hk9999l hk9999a (by decide)) (xn1 (xne_k hk9999l hk9999b (by decide)) (xn1 (xne_k hk9999l hk9999f (by decide)) xn0)))))))))))) mv_X11_goesBack km_X11_331 rfl rfl ⟨Nat.le_of_ble_eq_true rfl, Nat.le_of_ble_eq_true rfl⟩ (rc_13 hK hT ha) hK (fun _ => XP.blind) (fun U hU hW => XP.at hK hz hS hT hU hW) rfl hl.1 (Nat.le_of_ble_eq_true rfl) dX11_settles_121 ⟨Nat.le_of_ble_eq_true rfl, Nat.le_of_ble_eq_true rfl⟩) hS ?_
        rintro _ G121 H locs ⟨x121, rfl, hF121, t121, oq121, oq121a, oq121b⟩ hT hS
        have t121 : x121.toInt = -5 := t121
        have oq121 : mw (G121.2.1 (F a 1)) 0 = mw (G.2.1 (F a 4)) 0 := by simp only [(show G119.2.1 (F a 4) = G.2.1 (F a 4) from ((lc_c hG119 (xne_k hk9999l hk9999h (by decide))).trans ((hF99.2.1 _ (xn1 (xne_k hk9999l hk9999i (by decide)) (xn1 (xne_k hk9999l hk9999j (by decide)) (xn1 (xne_k hk9999l hk9999h (by decide)) xn0)))).trans ((ld_c hG95).trans ((hF92.2.1 _ (xn1 (xne_k hk9999l hk9999 (by decide)) (xn1 (xne_k hk9999l hk9999a (by decide)) (xn1 (xne_k hk9999l hk9999b (by decide)) xn0)))).trans ((lc_c hG40 (xne_k hk9999l hk9999h (by decide))).trans (hF1.2.1 _ (xn1 (xne_k hk9999l hk9999 (by decide)) (xn1 (xne_k hk9999l hk9999a (by decide)) (xn1 (xne_k hk9999l hk9999b (by decide)) (xn1 (xne_k hk9999l hk9999f (by decide)) xn0)))))))))))] at oq121; exact oq121
        have z124 : 0 ≤ ((G121.1 a 23).toInt) ∧ ((G121.1 a 23).toInt) ≤ 24 := oq121b
        exact x_ri hx hb hr hlk hQ (Nat.le_of_ble_eq_true rfl) (Nat.le_of_ble_eq_true rfl) hS dX11_settles_124 G121 ⟨_, rfl, (XFr.call (by rw [hG119]; exact XFr.cput (XFr.call (by rw [hG95]; exact XFr.dput (XFr.call (by rw [hG40]; exact XFr.cput (XFr.call XFr.rf hF1 (xm1 0 rfl (xm1 1 rfl (xm1 5 rfl (xm1 6 rfl xm0)))) (xm1 0 rfl (xm1 1 rfl (xm1 2 rfl (xm1 6 rfl xm0)))) xm0) (List.mem_of_getElem? (i := 8) rfl)) hF92 (xm1 0 rfl (xm1 1 rfl xm0)) (xm1 0 rfl (xm1 1 rfl (xm1 2 rfl xm0))) xm0) (List.mem_of_getElem? (i := 6) rfl)) hF99 (xm1 7 rfl (xm1 8 rfl xm0)) (xm1 9 rfl (xm1 10 rfl (xm1 8 rfl xm0))) xm0) (List.mem_of_getElem? (i := 8) rfl)) hF121 (xm1 2 rfl (xm1 3 rfl (xm1 4 rfl xm0))) (xm1 3 rfl (xm1 4 rfl (xm1 5 rfl xm0))) xm0), (by rw [(show (G121.1 a 43).toInt = ((G99.1 a 43).toInt) from (congrArg Int32.toInt ((hF121.1 _ _ (xnj (by decide) (xnj (by decide) (xnj (by decide) xn0)))).trans (lc_d hG119))).trans (rfl : Int32.toInt (G99.1 a 43) = ((G99.1 a 43).toInt)))] <;> exact (z_X11_settles_4 ((G121.1 a 23).toInt) ((G99.1 a 43).toInt) (t99).1 (t99).2.1 z124)), (by rw [(t121 : Int32.toInt x121 = -5)] <;> exact (v_X11_settles_124_12 (K := K) (F := F) a G G1 G92 G95 x92 G99 G121 r1 x1 ha oq1 oq1b oq1c oq1e oq92 oq92a oq92b oq99 oq121 oq121b wm am c5 (xzi hz42) c45 t92 t99 c107)), (v_X11_settles_124_13 (F := F) a G121 oq121a)⟩ hT
    · refine lv_aload_n hx hb dX11_settles_48 rfl (lv_at hl 0 rfl) ?_
      refine gX11_8 S hK hT ha kf_X11_27 dX11_settles_49 (fun _ _ => ?_)
      refine lv_iconst (v := 4) hx hb dX11_settles_52 (by decide) ?_
      refine lv_dup2_11 hx hb dX11_settles_53 rfl rfl ?_
      refine al_0 S hK hT hk9999d ar_35 (by decide) (by decide) dX11_settles_54 (fun x54 hv54 o54 => ?_)
      have hv54 : x54.toInt = (aI (G.2.1 (F a 8)) 4) := hv54.trans (by rw [((by decide) : Int32.toInt 4 = (4 : Int)), (((lc_c hG40 (xne_k hk9999d hk9999h (by decide))).trans (hF1.2.1 _ (xn1 (xne_k hk9999d hk9999 (by decide)) (xn1 (xne_k hk9999d hk9999a (by decide)) (xn1 (xne_k hk9999d hk9999b (by decide)) (xn1 (xne_k hk9999d hk9999f (by decide)) xn0)))))) : G40.2.1 (F a 8) = G.2.1 (F a 8))])
      refine lv_iconst (v := 1) hx hb dX11_settles_55 (by decide) ?_
      refine xi_iadd hx hb (hv54 : Int32.toInt x54 = (aI (G.2.1 (F a 8)) 4)) ((by decide) : Int32.toInt 1 = (1 : Int)) dX11_settles_56 (fun x56 t56 => ?_)
      refine as_0 (x := x56) S hK hT hS hk9999d ar_35 aw_35 (by decide) (by decide) dX11_settles_57 (fun H locs hT hS => ?_)
      obtain ⟨G57, hG57⟩ : ∃ GG : XG, GG = cput G40 (F a 8) (4 : Int32).toNatClampNeg x56 := ⟨_, rfl⟩
      rw [← hG57] at hT
      refine lv_aload_n hx hb dX11_settles_58 rfl (lv_at hl 0 rfl) ?_
      refine lv_aload_n hx hb dX11_settles_59 rfl (lv_at hl 0 rfl) ?_
      refine gX11_13 S hK hT ha kf_X11_42 dX11_settles_60 (fun _ _ => ?_)
      refine lv_aload_n hx hb dX11_settles_63 rfl (lv_at hl 0 rfl) ?_
      refine gX11_2 S hK hT ha kf_X11_15 dX11_settles_64 (fun _ _ => ?_)
      refine lv_iconst (v := 0) hx hb dX11_settles_67 (by decide) ?_
      refine x_cv0 (x_runV (b := a) (As := [.ref (F a 13), .ref (F a 2), .int 0]) (rest := []) S (c_X11_layStates l E K F G57 a (F a 13) (F a 2) 0 ha hk9999g (XO.b hk9999m (by decide)) (v_X11_settles_68_14 (F := F) a G G57 hR ((lc_c hG57 (xne_k hk9999k hk9999d (by decide))).trans ((lc_c hG40 (xne_k hk9999k hk9999h (by decide))).trans (hF1.2.1 _ (xn1 (xne_k hk9999k hk9999 (by decide)) (xn1 (xne_k hk9999k hk9999a (by decide)) (xn1 (xne_k hk9999k hk9999b (by decide)) (xn1 (xne_k hk9999k hk9999f (by decide)) xn0)))))))) (v_X11_settles_68_15 (F := F) a G G57 hM hA hB ((lc_c hG57 (xne_k hk9999m hk9999d (by decide))).trans ((lc_c hG40 (xne_k hk9999m hk9999h (by decide))).trans (hF1.2.1 _ (xn1 (xne_k hk9999m hk9999 (by decide)) (xn1 (xne_k hk9999m hk9999a (by decide)) (xn1 (xne_k hk9999m hk9999b (by decide)) (xn1 (xne_k hk9999m hk9999f (by decide)) xn0))))))))) mv_X11_layStates km_X11_210 rfl rfl ⟨Nat.le_of_ble_eq_true rfl, Nat.le_of_ble_eq_true rfl⟩ (rc_13 hK hT ha) hK (fun _ => XP.blind) (fun U hU hW => XP.at hK hz hS hT hU hW) rfl hl.1 (Nat.le_of_ble_eq_true rfl) dX11_settles_68 ⟨Nat.le_of_ble_eq_true rfl, Nat.le_of_ble_eq_true rfl⟩) hS ?_
      rintro G68 H locs ⟨hF68, oq68, oq68a⟩ hT hS
      have oq68 : LSt (G.2.1 (F a 10)) (G68.2.1 (F a 13)) (mw (G.2.1 (F a 2)) (0 : Int)) 12 := by simp only [(show G57.2.1 (F a 10) = G.2.1 (F a 10) from ((lc_c hG57 (xne_k hk9999k hk9999d (by decide))).trans ((lc_c hG40 (xne_k hk9999k hk9999h (by decide))).trans (hF1.2.1 _ (xn1 (xne_k hk9999k hk9999 (by decide)) (xn1 (xne_k hk9999k hk9999a (by decide)) (xn1 (xne_k hk9999k hk9999b (by decide)) (xn1 (xne_k hk9999k hk9999f (by decide)) xn0)))))))), (show G57.2.1 (F a 2) = G.2.1 (F a 2) from ((lc_c hG57 (xne_k hk9999m hk9999d (by decide))).trans ((lc_c hG40 (xne_k hk9999m hk9999h (by decide))).trans (hF1.2.1 _ (xn1 (xne_k hk9999m hk9999 (by decide)) (xn1 (xne_k hk9999m hk9999a (by decide)) (xn1 (xne_k hk9999m hk9999b (by decide)) (xn1 (xne_k hk9999m hk9999f (by decide)) xn0))))))))] at oq68; exact oq68
      refine lv_aload_n hx hb dX11_settles_71 rfl (lv_at hl 0 rfl) ?_
      refine lv_aload_n hx hb dX11_settles_72 rfl (lv_at hl 0 rfl) ?_
      refine gX11_12 S hK hT ha kf_X11_39 dX11_settles_73 (fun _ _ => ?_)
      refine lv_aload_n hx hb dX11_settles_76 rfl (lv_at hl 0 rfl) ?_
      refine gX11_11 S hK hT ha kf_X11_36 dX11_settles_77 (fun _ _ => ?_)
      refine lv_iconst (v := 1) hx hb dX11_settles_80 (by decide) ?_
      refine x_cv0 (x_runV (b := a) (As := [.ref (F a 12), .ref (F a 11), .int 1]) (rest := []) S (c_X11_moves l E K F G68 a (F a 12) (F a 11) 1 ha hk9999n hk9999f (by decide) (v_X11_settles_81_16 (F := F) a G G68 hR ((hF68.2.1 _ (xn1 (xne_k hk9999k hk9999g (by decide)) xn0)).trans ((lc_c hG57 (xne_k hk9999k hk9999d (by decide))).trans ((lc_c hG40 (xne_k hk9999k hk9999h (by decide))).trans (hF1.2.1 _ (xn1 (xne_k hk9999k hk9999 (by decide)) (xn1 (xne_k hk9999k hk9999a (by decide)) (xn1 (xne_k hk9999k hk9999b (by decide)) (xn1 (xne_k hk9999k hk9999f (by decide)) xn0)))))))))) mv_X11_moves km_X11_334 rfl rfl ⟨Nat.le_of_ble_eq_true rfl, Nat.le_of_ble_eq_true rfl⟩ (rc_13 hK hT ha) hK (fun _ => XP.blind) (fun U hU hW => XP.at hK hz hS hT hU hW) rfl hl.1 (Nat.le_of_ble_eq_true rfl) dX11_settles_81 ⟨Nat.le_of_ble_eq_true rfl, Nat.le_of_ble_eq_true rfl⟩) hS ?_
      rintro G81 H locs hF81 hT hS
      refine lv_aload_n hx hb dX11_settles_84 rfl (lv_at hl 0 rfl) ?_
      refine gX11_45 S hK hT ha kf_X11_316 dX11_settles_85 (v := (G1.1 a 45)) ((hF81.1 _ _ xn0).trans ((hF68.1 _ _ xn0).trans ((lc_d hG57).trans (lc_d hG40)))) (?_)
      exact x_ri hx hb hr hlk hQ (Nat.le_of_ble_eq_true rfl) (Nat.le_of_ble_eq_true rfl) hS dX11_settles_88 G81 ⟨_, rfl, (XFr.call (XFr.call (by rw [hG57]; exact XFr.cput (by rw [hG40]; exact XFr.cput (XFr.call XFr.rf hF1 (xm1 0 rfl (xm1 1 rfl (xm1 5 rfl (xm1 6 rfl xm0)))) (xm1 0 rfl (xm1 1 rfl (xm1 2 rfl (xm1 6 rfl xm0)))) xm0) (List.mem_of_getElem? (i := 8) rfl)) (List.mem_of_getElem? (i := 4) rfl)) hF68 xm0 (xm1 7 rfl xm0) xm0) hF81 xm0 (xm1 4 rfl xm0) xm0), (by rw [(show (G81.1 a 23).toInt = ((G.1 a 23).toInt) from (congrArg Int32.toInt ((hF81.1 _ _ xn0).trans ((hF68.1 _ _ xn0).trans ((lc_d hG57).trans ((lc_d hG40).trans (hF1.1 _ _ (xnj (by decide) (xnj (by decide) (xnj (by decide) (xnj (by decide) xn0)))))))))).trans (rfl : Int32.toInt (G.1 a 23) = ((G.1 a 23).toInt))), (show (G81.1 a 43).toInt = ((G.1 a 43).toInt) from (congrArg Int32.toInt ((hF81.1 _ _ xn0).trans ((hF68.1 _ _ xn0).trans ((lc_d hG57).trans ((lc_d hG40).trans (hF1.1 _ _ (xnj (by decide) (xnj (by decide) (xnj (by decide) (xnj (by decide) xn0)))))))))).trans (rfl : Int32.toInt (G.1 a 43) = ((G.1 a 43).toInt)))] <;> exact (z_X11_settles_5 ((G.1 a 23).toInt) ((G.1 a 43).toInt) wm am)), (v_X11_settles_88_17 (K := K) (F := F) a G G1 G57 G68 G81 r1 x1 ha oq1 oq1b oq1c oq1e oq68a wm am c5 (xzi hz42) c45 ((hF81.2.1 _ (xn1 (xne_k hk9999c hk9999d (by decide)) xn0)).trans ((hF68.2.1 _ (xn1 (xne_k hk9999c hk9999g (by decide)) xn0)).trans ((lc_c hG57 (xne_k hk9999c hk9999d (by decide))).trans ((lc_c hG40 (xne_k hk9999c hk9999h (by decide))).trans (hF1.2.1 _ (xn1 (xne_k hk9999c hk9999 (by decide)) (xn1 (xne_k hk9999c hk9999a (by decide)) (xn1 (xne_k hk9999c hk9999b (by decide)) (xn1 (xne_k hk9999c hk9999f (by decide)) xn0)))))))))), (v_X11_settles_88_18 (F := F) a G G81 hM ((hF81.2.1 _ (xn1 (xne_k hk9999c hk9999d (by decide)) xn0)).trans ((hF68.2.1 _ (xn1 (xne_k hk9999c hk9999g (by decide)) xn0)).trans ((lc_c hG57 (xne_k hk9999c hk9999d (by decide))).trans ((lc_c hG40 (xne_k hk9999c hk9999h (by decide))).trans (hF1.2.1 _ (xn1 (xne_k hk9999c hk9999 (by decide)) (xn1 (xne_k hk9999c hk9999a (by decide)) (xn1 (xne_k hk9999c hk9999b (by decide)) (xn1 (xne_k hk9999c hk9999f (by decide)) xn0))))))))))⟩ hT
  · refine lv_aload_n hx hb dX11_settles_8 rfl (lv_at hl 0 rfl) ?_
    refine gX11_9 S hK hT ha kf_X11_30 dX11_settles_9 (fun _ _ => ?_)
    refine lv_iconst (v := 0) hx hb dX11_settles_12 (by decide) ?_
    refine lv_dup2_11 hx hb dX11_settles_13 rfl rfl ?_
    refine al_0 S hK hT hk9999h ar_36 (by decide) (by decide) dX11_settles_14 (fun x14 hv14 o14 => ?_)
    have hv14 : x14.toInt = (aI (G.2.1 (F a 9)) 0) := hv14.trans (by rw [((by decide) : Int32.toInt 0 = (0 : Int)), ((hF1.2.1 _ (xn1 (xne_k hk9999h hk9999 (by decide)) (xn1 (xne_k hk9999h hk9999a (by decide)) (xn1 (xne_k hk9999h hk9999b (by decide)) (xn1 (xne_k hk9999h hk9999f (by decide)) xn0))))) : G1.2.1 (F a 9) = G.2.1 (F a 9))])
    refine lv_aload_n hx hb dX11_settles_15 rfl (lv_at hl 0 rfl) ?_
    refine gX11_46 S hK hT ha kf_X11_322 dX11_settles_16 (v := (G1.1 a 46)) rfl (?_)
    refine lv_iconst (v := 1) hx hb dX11_settles_19 (by decide) ?_
    refine xi_iadd hx hb (rfl : Int32.toInt (G1.1 a 46) = ((G1.1 a 46).toInt)) ((by decide) : Int32.toInt 1 = (1 : Int)) dX11_settles_20 (fun x20 t20 => ?_)
    have e20 : x20.toInt = (((G1.1 a 46).toInt) + (1 : Int)) := (z_X11_settles_6 x1.toInt x20.toInt ((G1.1 a 19).toInt) ((G1.1 a 46).toInt) z4 z4a t20)
    refine xi_iadd hx hb (hv14 : Int32.toInt x14 = (aI (G.2.1 (F a 9)) 0)) (e20 : Int32.toInt x20 = (((G1.1 a 46).toInt) + (1 : Int))) dX11_settles_21 (fun x21 t21 => ?_)
    refine as_0 (x := x21) S hK hT hS hk9999h ar_36 aw_36 (by decide) (by decide) dX11_settles_22 (fun H locs hT hS => ?_)
    obtain ⟨G22, hG22⟩ : ∃ GG : XG, GG = cput G1 (F a 9) (0 : Int32).toNatClampNeg x21 := ⟨_, rfl⟩
    rw [← hG22] at hT
    refine lv_aload_n hx hb dX11_settles_23 rfl (lv_at hl 0 rfl) ?_
    refine x_cl0 (x_runV (b := a) (As := []) (rest := []) S (c_X11_goesBack l E K F G22 a ha (by rw [(show (G22.1 a 46).toInt = ((G1.1 a 46).toInt) from (congrArg Int32.toInt (lc_d hG22)).trans (rfl : Int32.toInt (G1.1 a 46) = ((G1.1 a 46).toInt))), (show (G22.1 a 19).toInt = ((G1.1 a 19).toInt) from (congrArg Int32.toInt (lc_d hG22)).trans (rfl : Int32.toInt (G1.1 a 19) = ((G1.1 a 19).toInt)))] <;> exact (z_X11_settles_7 x1.toInt ((G1.1 a 19).toInt) ((G1.1 a 46).toInt) z4 z4a c5)) (v_X11_settles_24_19 (F := F) a G G1 G22 r1 oq1a ((lc_c hG22 (xne_k hk9999k hk9999h (by decide))).trans (hF1.2.1 _ (xn1 (xne_k hk9999k hk9999 (by decide)) (xn1 (xne_k hk9999k hk9999a (by decide)) (xn1 (xne_k hk9999k hk9999b (by decide)) (xn1 (xne_k hk9999k hk9999f (by decide)) xn0)))))) (lc_c hG22 (xne_k hk9999a hk9999h (by decide))) (lc_c hG22 (xne_k hk9999b hk9999h (by decide))) (lc_d hG22)) (v_X11_settles_24_20 (F := F) a G G22 hM hA hB ((lc_c hG22 (xne_k hk9999l hk9999h (by decide))).trans (hF1.2.1 _ (xn1 (xne_k hk9999l hk9999 (by decide)) (xn1 (xne_k hk9999l hk9999a (by decide)) (xn1 (xne_k hk9999l hk9999b (by decide)) (xn1 (xne_k hk9999l hk9999f (by decide)) xn0)))))))) mv_X11_goesBack km_X11_331 rfl rfl ⟨Nat.le_of_ble_eq_true rfl, Nat.le_of_ble_eq_true rfl⟩ (rc_13 hK hT ha) hK (fun _ => XP.blind) (fun U hU hW => XP.at hK hz hS hT hU hW) rfl hl.1 (Nat.le_of_ble_eq_true rfl) dX11_settles_24 ⟨Nat.le_of_ble_eq_true rfl, Nat.le_of_ble_eq_true rfl⟩) hS ?_
    rintro _ G24 H locs ⟨x24, rfl, hF24, t24, oq24, oq24a, oq24b⟩ hT hS
    have t24 : x24.toInt = -5 := t24
    have oq24 : mw (G24.2.1 (F a 1)) 0 = mw (G.2.1 (F a 4)) 0 := by simp only [(show G22.2.1 (F a 4) = G.2.1 (F a 4) from ((lc_c hG22 (xne_k hk9999l hk9999h (by decide))).trans (hF1.2.1 _ (xn1 (xne_k hk9999l hk9999 (by decide)) (xn1 (xne_k hk9999l hk9999a (by decide)) (xn1 (xne_k hk9999l hk9999b (by decide)) (xn1 (xne_k hk9999l hk9999f (by decide)) xn0)))))))] at oq24; exact oq24
    have z27 : 0 ≤ ((G24.1 a 23).toInt) ∧ ((G24.1 a 23).toInt) ≤ 24 := oq24b
    exact x_ri hx hb hr hlk hQ (Nat.le_of_ble_eq_true rfl) (Nat.le_of_ble_eq_true rfl) hS dX11_settles_27 G24 ⟨_, rfl, (XFr.call (by rw [hG22]; exact XFr.cput (XFr.call XFr.rf hF1 (xm1 0 rfl (xm1 1 rfl (xm1 5 rfl (xm1 6 rfl xm0)))) (xm1 0 rfl (xm1 1 rfl (xm1 2 rfl (xm1 6 rfl xm0)))) xm0) (List.mem_of_getElem? (i := 8) rfl)) hF24 (xm1 2 rfl (xm1 3 rfl (xm1 4 rfl xm0))) (xm1 3 rfl (xm1 4 rfl (xm1 5 rfl xm0))) xm0), (by rw [(show (G24.1 a 43).toInt = ((G.1 a 43).toInt) from (congrArg Int32.toInt ((hF24.1 _ _ (xnj (by decide) (xnj (by decide) (xnj (by decide) xn0)))).trans ((lc_d hG22).trans (hF1.1 _ _ (xnj (by decide) (xnj (by decide) (xnj (by decide) (xnj (by decide) xn0)))))))).trans (rfl : Int32.toInt (G.1 a 43) = ((G.1 a 43).toInt)))] <;> exact (z_X11_settles_8 ((G.1 a 43).toInt) ((G24.1 a 23).toInt) am z27)), (by rw [(t24 : Int32.toInt x24 = -5)] <;> exact (v_X11_settles_27_21 (K := K) (F := F) a G G1 G24 r1 x1 ha oq1 oq1b oq1c oq1e oq24 oq24b wm am c5)), (v_X11_settles_27_22 (F := F) a G24 oq24a)⟩ hT
/-! ===== the reference's rows behind a store ===== -/
theorem mw_z (f : Nat → Int32) (b z : Int) : mw f b z = if 0 ≤ z ∧ z < 270 then (if aI f (b + 4 * (30 * (z / 90) + z % 30)) = 1 then aI f (b + 4 * (30 * (z / 90) + z % 30) + 1 + (z / 30) % 3) else -2000) else 0 := rfl
theorem mw_ix {b t k c z I : Int} (h0 : 0 ≤ t ∧ t < 3 ∧ 0 ≤ k ∧ k < 30 ∧ 0 ≤ c ∧ c < 3) (hI : I = b + 4 * (30 * t + k) + 1 + c) (hz : 0 ≤ z ∧ z < 270) : b + 4 * (30 * (z / 90) + z % 30) ≠ I ∧ (b + 4 * (30 * (z / 90) + z % 30) + 1 + z / 30 % 3 = I ↔ z = 90 * t + 30 * c + k) := by
  refine ⟨by omega, ?_⟩
  rcases (by omega : z / 30 % 3 = 0 ∨ z / 30 % 3 = 1 ∨ z / 30 % 3 = 2) with q | q | q <;> rcases (by omega : c = 0 ∨ c = 1 ∨ c = 2) with w | w | w <;> subst w <;> rw [q] <;> constructor <;> intro e <;> omega
theorem mw_set {f g : Nat → Int32} {b t k c I X : Int} (h0 : 0 ≤ t ∧ t < 3 ∧ 0 ≤ k ∧ k < 30 ∧ 0 ≤ c ∧ c < 3) (hb : 0 ≤ b) (hI : I = b + 4 * (30 * t + k) + 1 + c) (hu : ∀ z : Int, 0 ≤ z → aI g z = if z = I then X else aI f z) (h1 : aI f (b + 4 * (30 * t + k)) = 1) : mw g b = rset (mw f b) (90 * t + 30 * c + k) X := by
  funext z
  show mw g b z = if z = 90 * t + 30 * c + k then X else mw f b z
  rw [mw_z, mw_z]
  by_cases hz : 0 ≤ z ∧ z < 270
  · obtain ⟨i1, i2⟩ := mw_ix h0 hI hz
    rw [if_pos hz, if_pos hz, hu (b + 4 * (30 * (z / 90) + z % 30)) (by omega), hu (b + 4 * (30 * (z / 90) + z % 30) + 1 + z / 30 % 3) (by omega), if_neg i1]
    by_cases e : z = 90 * t + 30 * c + k
    · rw [if_pos e, if_pos (i2.mpr e), show z / 90 = t from by omega, show z % 30 = k from by omega, if_pos h1]
    · rw [if_neg e, if_neg (fun q => e (i2.mp q))]
  · rw [if_neg hz, if_neg hz, if_neg (by omega)]
theorem mw_cut {f g : Nat → Int32} {b t k I : Int} (h0 : 0 ≤ t ∧ t < 3 ∧ 0 ≤ k ∧ k < 30) (hb : 0 ≤ b) (hI : I = b + 4 * (30 * t + k)) (hu : ∀ z : Int, 0 ≤ z → aI g z = if z = I then 0 else aI f z) : mw g b = rfil (mw f b) t k (-2000) 3 := by
  funext z
  show mw g b z = if 0 ≤ z - (90 * t + k) ∧ (z - (90 * t + k)) % 30 = 0 ∧ (z - (90 * t + k)) / 30 < 3 then -2000 else mw f b z
  rw [mw_z, mw_z]
  by_cases hz : 0 ≤ z ∧ z < 270
  · rw [if_pos hz, if_pos hz, hu _ (by omega), hu (b + 4 * (30 * (z / 90) + z % 30) + 1 + z / 30 % 3) (by omega), if_neg (c := b + 4 * (30 * (z / 90) + z % 30) + 1 + z / 30 % 3 = I) (by omega)]
    by_cases e : z / 90 = t ∧ z % 30 = k
    · rw [if_pos (c := b + 4 * (30 * (z / 90) + z % 30) = I) (by omega), if_neg (by decide), if_pos (by omega)]
    · rw [if_neg (c := b + 4 * (30 * (z / 90) + z % 30) = I) (by omega), if_neg (c := 0 ≤ z - (90 * t + k) ∧ (z - (90 * t + k)) % 30 = 0 ∧ (z - (90 * t + k)) / 30 < 3) (by omega)]
  · rw [if_neg hz, if_neg hz, if_neg (by omega)]
theorem mw_put {f g : Nat → Int32} {b t k I x y w : Int} (h0 : 0 ≤ t ∧ t < 3 ∧ 0 ≤ k ∧ k < 30) (hb : 0 ≤ b) (hI : I = b + 4 * (30 * t + k)) (hu : ∀ z : Int, 0 ≤ z → aI g z = if z = I then 1 else if z = I + 1 then x else if z = I + 2 then y else if z = I + 3 then w else aI f z) : mw g b = rput3 (mw f b) t k x y w := by
  funext z
  show mw g b z = if z = 90 * t + 30 * 2 + k then w else if z = 90 * t + 30 * 1 + k then y else if z = 90 * t + 30 * 0 + k then x else if 0 ≤ z - (90 * t + k) ∧ (z - (90 * t + k)) % 30 = 0 ∧ (z - (90 * t + k)) / 30 < 3 then -1000 else mw f b z
  rw [mw_z, mw_z]
  by_cases hz : 0 ≤ z ∧ z < 270
  · rw [if_pos hz, if_pos hz, hu _ (by omega), hu (b + 4 * (30 * (z / 90) + z % 30) + 1 + z / 30 % 3) (by omega)]
    by_cases e : z / 90 = t ∧ z % 30 = k
    · rw [if_pos (c := b + 4 * (30 * (z / 90) + z % 30) = I) (by omega), if_pos rfl, if_neg (by omega)]
      rcases (by omega : z / 30 % 3 = 0 ∨ z / 30 % 3 = 1 ∨ z / 30 % 3 = 2) with q | q | q
      · rw [if_pos (by omega), if_neg (by omega), if_neg (by omega), if_pos (by omega)]
      · rw [if_neg (by omega), if_pos (by omega), if_neg (by omega), if_pos (by omega)]
      · rw [if_neg (by omega), if_neg (by omega), if_pos (by omega), if_pos (by omega)]
    · rw [if_neg (c := b + 4 * (30 * (z / 90) + z % 30) = I) (by omega), if_neg (c := b + 4 * (30 * (z / 90) + z % 30) = I + 1) (by omega), if_neg (c := b + 4 * (30 * (z / 90) + z % 30) = I + 2) (by omega), if_neg (c := b + 4 * (30 * (z / 90) + z % 30) = I + 3) (by omega)]
      rw [if_neg (c := b + 4 * (30 * (z / 90) + z % 30) + 1 + z / 30 % 3 = I) (by omega), if_neg (c := b + 4 * (30 * (z / 90) + z % 30) + 1 + z / 30 % 3 = I + 1) (by omega), if_neg (c := b + 4 * (30 * (z / 90) + z % 30) + 1 + z / 30 % 3 = I + 2) (by omega), if_neg (c := b + 4 * (30 * (z / 90) + z % 30) + 1 + z / 30 % 3 = I + 3) (by omega)]
      rw [if_neg (c := z = 90 * t + 30 * 2 + k) (by omega), if_neg (c := z = 90 * t + 30 * 1 + k) (by omega), if_neg (c := z = 90 * t + 30 * 0 + k) (by omega), if_neg (c := 0 ≤ z - (90 * t + k) ∧ (z - (90 * t + k)) % 30 = 0 ∧ (z - (90 * t + k)) / 30 < 3) (by omega)]
  · rw [if_neg hz, if_neg (c := z = 90 * t + 30 * 2 + k) (by omega), if_neg (c := z = 90 * t + 30 * 1 + k) (by omega), if_neg (c := z = 90 * t + 30 * 0 + k) (by omega), if_neg (c := 0 ≤ z - (90 * t + k) ∧ (z - (90 * t + k)) % 30 = 0 ∧ (z - (90 * t + k)) / 30 < 3) (by omega), if_neg hz]
theorem RM.set {f g : Nat → Int32} {b t k c I X : Int} (h : RM f b) (h0 : 0 ≤ c ∧ c < 3) (hb : 0 ≤ b) (hI : I = b + 4 * (30 * t + k) + 1 + c) (hu : ∀ z : Int, 0 ≤ z → aI g z = if z = I then X else aI f z) (hX : X = -1000 ∨ (-99 ≤ X ∧ X ≤ 99)) : RM g b := by
  intro t2 k2 a1 a2 a3 a4
  rw [hu _ (by omega), if_neg (by omega)]
  rcases h t2 k2 a1 a2 a3 a4 with e | ⟨e, q⟩
  · exact Or.inl e
  · refine Or.inr ⟨e, fun c2 c0 c1 => ?_⟩
    rw [hu _ (by omega)]
    split
    · exact hX
    · exact q c2 c0 c1
theorem RM.cut {f g : Nat → Int32} {b t k I : Int} (h : RM f b) (hb : 0 ≤ b) (hI : I = b + 4 * (30 * t + k)) (hu : ∀ z : Int, 0 ≤ z → aI g z = if z = I then 0 else aI f z) : RM g b := by
  intro t2 k2 a1 a2 a3 a4
  rw [hu _ (by omega)]
  by_cases e : b + 4 * (30 * t2 + k2) = I
  · rw [if_pos e]; exact Or.inl rfl
  · rw [if_neg e]
    rcases h t2 k2 a1 a2 a3 a4 with e | ⟨e, q⟩
    · exact Or.inl e
    · refine Or.inr ⟨e, fun c2 c0 c1 => ?_⟩
      rw [hu _ (by omega), if_neg (by omega)]
      exact q c2 c0 c1
theorem RM.put {f g : Nat → Int32} {b t k I x y w : Int} (h : RM f b) (hb : 0 ≤ b) (hI : I = b + 4 * (30 * t + k)) (hu : ∀ z : Int, 0 ≤ z → aI g z = if z = I then 1 else if z = I + 1 then x else if z = I + 2 then y else if z = I + 3 then w else aI f z) (hx : x = -1000 ∨ (-99 ≤ x ∧ x ≤ 99)) (hy : y = -1000 ∨ (-99 ≤ y ∧ y ≤ 99)) (hw : w = -1000 ∨ (-99 ≤ w ∧ w ≤ 99)) : RM g b := by
  intro t2 k2 a1 a2 a3 a4
  rw [hu _ (by omega)]
  by_cases e : b + 4 * (30 * t2 + k2) = I
  · rw [if_pos e]
    refine Or.inr ⟨rfl, fun c2 c0 c1 => ?_⟩
    rw [hu _ (by omega), if_neg (by omega)]
    split
    · exact hx
    · split
      · exact hy
      · rw [if_pos (by omega)]; exact hw
  · rw [if_neg e, if_neg (by omega), if_neg (by omega), if_neg (by omega)]
    rcases h t2 k2 a1 a2 a3 a4 with e | ⟨e, q⟩
    · exact Or.inl e
    · refine Or.inr ⟨e, fun c2 c0 c1 => ?_⟩
      rw [hu _ (by omega), if_neg (by omega), if_neg (by omega), if_neg (by omega), if_neg (by omega)]
      exact q c2 c0 c1
/-- why a value can't become another one -/
def whyS (r : Int → Int) (t k c v : Int) : Int := if 0 ≤ t ∧ t < 3 ∧ 0 ≤ k ∧ k < 30 ∧ 0 ≤ c ∧ c < 3 ∧ (v = -1000 ∨ (-99 ≤ v ∧ v ≤ 99)) then (if cel r t k 0 = -2000 then -2 else if cel r t k c = v then -4 else 0) else -1
theorem whyS_0 {r : Int → Int} {t k c v : Int} (h : whyS r t k c v = 0) : (0 ≤ t ∧ t < 3 ∧ 0 ≤ k ∧ k < 30 ∧ 0 ≤ c ∧ c < 3 ∧ (v = -1000 ∨ (-99 ≤ v ∧ v ≤ 99))) ∧ cel r t k 0 ≠ -2000 ∧ cel r t k c ≠ v := by
  unfold whyS at h
  split at h
  · rename_i g
    split at h
    · exact absurd h (by decide)
    · split at h
      · exact absurd h (by decide)
      · exact ⟨g, by assumption, by assumption⟩
  · exact absurd h (by decide)
theorem aI_pu {G u : XG} {a : Nat} {i x : Int32} {I X : Int} {f : Nat → Int32} (h : u = cput G a i.toNatClampNeg x) (hg : G.2.1 a = f) (hi : i.toInt = I) (hx : x.toInt = X) (h0 : 0 ≤ I) : ∀ z : Int, 0 ≤ z → aI (u.2.1 a) z = if z = I then X else aI f z := by
  subst hi hx hg h
  exact fun z hz => aI_put h0 z hz
/-- what an act of the reference does: op: within; f: the rules; rows ahead, done, behind -/
def StR (op r : Int) (f : Nat → Int32) (r1 r2 r3 : Int → Int) : Prop := ((ffP f r2 (fuO f r1 r2 0) ≠ -1 ∨ (op = 0 ∧ ffP f r2 (fuO f r1 r2 1) ≠ -1)) ∧ r = -5 ∧ r3 = r1) ∨ (ffP f r2 (fuO f r1 r2 0) = -1 ∧ (op = 0 → ffP f r2 (fuO f r1 r2 1) = -1) ∧ r = (((fuO f r1 r2 2).length : Nat) : Int) ∧ r3 = r2)
theorem put4u {f f1 f2 f3 f4 : Nat → Int32} {I x y w : Int} (u1 : ∀ z : Int, 0 ≤ z → aI f1 z = if z = I then 1 else aI f z) (u2 : ∀ z : Int, 0 ≤ z → aI f2 z = if z = I + 1 then x else aI f1 z) (u3 : ∀ z : Int, 0 ≤ z → aI f3 z = if z = I + 2 then y else aI f2 z) (u4 : ∀ z : Int, 0 ≤ z → aI f4 z = if z = I + 3 then w else aI f3 z) : ∀ z : Int, 0 ≤ z → aI f4 z = if z = I then 1 else if z = I + 1 then x else if z = I + 2 then y else if z = I + 3 then w else aI f z := by
  intro z hz
  rw [u4 z hz, u3 z hz, u2 z hz, u1 z hz]
  by_cases e0 : z = I
  · rw [if_neg (by omega), if_neg (by omega), if_neg (by omega), if_pos e0, if_pos e0]
  · by_cases e1 : z = I + 1
    · rw [if_neg (by omega), if_neg (by omega), if_pos e1, if_neg e0, if_pos e1]
    · by_cases e2 : z = I + 2
      · rw [if_neg (by omega), if_pos e2, if_neg e0, if_neg e1, if_pos e2]
      · by_cases e3 : z = I + 3
        · rw [if_pos e3, if_neg e0, if_neg e1, if_neg e2, if_pos e3]
        · rw [if_neg e3, if_neg e2, if_neg e1, if_neg e0, if_neg e0, if_neg e1, if_neg e2, if_neg e3]
theorem v_X11_whyNotSet_30_1 {K : Nat → Nat} {F : Nat → Nat → Nat} (a : Nat) (G : XG) (x1 : Int32) (p0 : Int32) (p1 : Int32) (p2 : Int32) (p3 : Int32)
    (ha : K a = 13)
    (t1 : (x1.toInt = 1 ∧ 0 ≤ p0.toInt ∧ p0.toInt ≤ 2) ∨ (x1.toInt = 0 ∧ (p0.toInt < 0 ∨ 2 < p0.toInt)))
    (c4 : x1.toInt = 0) :
    (-1 : Int) = whyS (mw (G.2.1 (F a 1)) 0) p0.toInt p1.toInt p2.toInt p3.toInt := by
  unfold whyS; rw [if_neg (fun h => by obtain ⟨h1, h2, h3, h4, h5, h6, h7⟩ := h; omega)]
theorem v_X11_whyNotSet_30_2 {K : Nat → Nat} {F : Nat → Nat → Nat} (a : Nat) (G : XG) (x1 : Int32) (p0 : Int32) (x8 : Int32) (p1 : Int32) (p2 : Int32) (p3 : Int32)
    (ha : K a = 13)
    (t1 : (x1.toInt = 1 ∧ 0 ≤ p0.toInt ∧ p0.toInt ≤ 2) ∨ (x1.toInt = 0 ∧ (p0.toInt < 0 ∨ 2 < p0.toInt)))
    (c4 : ¬ (x1.toInt = 0))
    (t8 : (x8.toInt = 1 ∧ 0 ≤ p1.toInt ∧ p1.toInt ≤ 29) ∨ (x8.toInt = 0 ∧ (p1.toInt < 0 ∨ 29 < p1.toInt)))
    (c11 : x8.toInt = 0) :
    (-1 : Int) = whyS (mw (G.2.1 (F a 1)) 0) p0.toInt p1.toInt p2.toInt p3.toInt := by
  unfold whyS; rw [if_neg (fun h => by obtain ⟨h1, h2, h3, h4, h5, h6, h7⟩ := h; omega)]
theorem v_X11_whyNotSet_30_3 {K : Nat → Nat} {F : Nat → Nat → Nat} (a : Nat) (G : XG) (x1 : Int32) (p0 : Int32) (x8 : Int32) (p1 : Int32) (x15 : Int32) (p2 : Int32) (p3 : Int32)
    (ha : K a = 13)
    (t1 : (x1.toInt = 1 ∧ 0 ≤ p0.toInt ∧ p0.toInt ≤ 2) ∨ (x1.toInt = 0 ∧ (p0.toInt < 0 ∨ 2 < p0.toInt)))
    (c4 : ¬ (x1.toInt = 0))
    (t8 : (x8.toInt = 1 ∧ 0 ≤ p1.toInt ∧ p1.toInt ≤ 29) ∨ (x8.toInt = 0 ∧ (p1.toInt < 0 ∨ 29 < p1.toInt)))
    (c11 : ¬ (x8.toInt = 0))
    (t15 : (x15.toInt = 1 ∧ 0 ≤ p2.toInt ∧ p2.toInt ≤ 2) ∨ (x15.toInt = 0 ∧ (p2.toInt < 0 ∨ 2 < p2.toInt)))
    (c18 : x15.toInt = 0) :
    (-1 : Int) = whyS (mw (G.2.1 (F a 1)) 0) p0.toInt p1.toInt p2.toInt p3.toInt := by
  unfold whyS; rw [if_neg (fun h => by obtain ⟨h1, h2, h3, h4, h5, h6, h7⟩ := h; omega)]
theorem v_X11_whyNotSet_34_4 {F : Nat → Nat → Nat} (a : Nat) (G : XG)
    (hM : RM (G.2.1 (F a 1)) 0) :
    RM (G.2.1 (F a 1)) 0 := by exact hM
theorem v_X11_whyNotSet_68_5 {F : Nat → Nat → Nat} (G : XG) (a : Nat) (p0 : Int32) (p1 : Int32) (p2 : Int32) (p3 : Int32) (x34 : Int32)
    (hM : RM (G.2.1 (F a 1)) 0)
    (z31 : 0 ≤ p0.toInt ∧ p0.toInt < 3)
    (z31a : 0 ≤ p1.toInt ∧ p1.toInt < 30)
    (z31b : 0 ≤ p2.toInt ∧ p2.toInt < 3)
    (z31c : p3.toInt = -1000 ∨ (-99 ≤ p3.toInt ∧ p3.toInt ≤ 99))
    (t34 : (x34.toInt = 1 ∧ (cel (mw (G.2.1 (F a 1)) 0) (p0.toInt) (p1.toInt) 0) ≠ -2000) ∨ (x34.toInt = 0 ∧ (cel (mw (G.2.1 (F a 1)) 0) (p0.toInt) (p1.toInt) 0) = -2000))
    (c37 : x34.toInt ≠ 0)
    (z57 : ((aI (G.2.1 (F a 1)) (0 + 4 * (30 * p0.toInt + p1.toInt))) = 0 ∧ (cel (mw (G.2.1 (F a 1)) 0) (p0.toInt) (p1.toInt) (p2.toInt)) = -2000) ∨ ((aI (G.2.1 (F a 1)) (0 + 4 * (30 * p0.toInt + p1.toInt))) = 1 ∧ (cel (mw (G.2.1 (F a 1)) 0) (p0.toInt) (p1.toInt) (p2.toInt)) = (aI (G.2.1 (F a 1)) (0 + 4 * (30 * p0.toInt + p1.toInt) + 1 + p2.toInt))))
    (c59 : (aI (G.2.1 (F a 1)) (0 + 4 * (30 * p0.toInt + p1.toInt) + 1 + p2.toInt)) ≠ p3.toInt) :
    (0 : Int) = whyS (mw (G.2.1 (F a 1)) 0) p0.toInt p1.toInt p2.toInt p3.toInt := by
  have hh := hM.absent p0.toInt p1.toInt p2.toInt z31b
  have c0 : cel (mw (G.2.1 (F a 1)) 0) p0.toInt p1.toInt 0 ≠ -2000 := by clear hh z57; omega
  have c1 : cel (mw (G.2.1 (F a 1)) 0) p0.toInt p1.toInt p2.toInt = aI (G.2.1 (F a 1)) (0 + 4 * (30 * p0.toInt + p1.toInt) + 1 + p2.toInt) := by
    rcases z57 with ⟨-, h⟩ | ⟨-, h⟩
    · exact absurd (hh.mp h) c0
    · exact h
  unfold whyS
  rw [if_pos ⟨z31.1, z31.2, z31a.1, z31a.2, z31b.1, z31b.2, z31c⟩, if_neg c0, c1]
  first
    | rw [if_pos c59]
    | rw [if_neg c59]
    | (rw [if_pos (by omega)]; done)
    | rw [if_neg (by omega)]
theorem v_X11_whyNotSet_68_6 {F : Nat → Nat → Nat} (G : XG) (a : Nat) (p0 : Int32) (p1 : Int32) (p2 : Int32) (p3 : Int32) (x34 : Int32)
    (hM : RM (G.2.1 (F a 1)) 0)
    (z31 : 0 ≤ p0.toInt ∧ p0.toInt < 3)
    (z31a : 0 ≤ p1.toInt ∧ p1.toInt < 30)
    (z31b : 0 ≤ p2.toInt ∧ p2.toInt < 3)
    (z31c : p3.toInt = -1000 ∨ (-99 ≤ p3.toInt ∧ p3.toInt ≤ 99))
    (t34 : (x34.toInt = 1 ∧ (cel (mw (G.2.1 (F a 1)) 0) (p0.toInt) (p1.toInt) 0) ≠ -2000) ∨ (x34.toInt = 0 ∧ (cel (mw (G.2.1 (F a 1)) 0) (p0.toInt) (p1.toInt) 0) = -2000))
    (c37 : x34.toInt ≠ 0)
    (z57 : ((aI (G.2.1 (F a 1)) (0 + 4 * (30 * p0.toInt + p1.toInt))) = 0 ∧ (cel (mw (G.2.1 (F a 1)) 0) (p0.toInt) (p1.toInt) (p2.toInt)) = -2000) ∨ ((aI (G.2.1 (F a 1)) (0 + 4 * (30 * p0.toInt + p1.toInt))) = 1 ∧ (cel (mw (G.2.1 (F a 1)) 0) (p0.toInt) (p1.toInt) (p2.toInt)) = (aI (G.2.1 (F a 1)) (0 + 4 * (30 * p0.toInt + p1.toInt) + 1 + p2.toInt))))
    (c59 : ¬ ((aI (G.2.1 (F a 1)) (0 + 4 * (30 * p0.toInt + p1.toInt) + 1 + p2.toInt)) ≠ p3.toInt)) :
    (-4 : Int) = whyS (mw (G.2.1 (F a 1)) 0) p0.toInt p1.toInt p2.toInt p3.toInt := by
  have hh := hM.absent p0.toInt p1.toInt p2.toInt z31b
  have c0 : cel (mw (G.2.1 (F a 1)) 0) p0.toInt p1.toInt 0 ≠ -2000 := by clear hh z57; omega
  have c1 : cel (mw (G.2.1 (F a 1)) 0) p0.toInt p1.toInt p2.toInt = aI (G.2.1 (F a 1)) (0 + 4 * (30 * p0.toInt + p1.toInt) + 1 + p2.toInt) := by
    rcases z57 with ⟨-, h⟩ | ⟨-, h⟩
    · exact absurd (hh.mp h) c0
    · exact h
  unfold whyS
  rw [if_pos ⟨z31.1, z31.2, z31a.1, z31a.2, z31b.1, z31b.2, z31c⟩, if_neg c0, c1]
  first
    | rw [if_pos c59]
    | rw [if_neg c59]
    | (rw [if_pos (by omega)]; done)
    | rw [if_neg (by omega)]
theorem v_X11_whyNotSet_42_7 {F : Nat → Nat → Nat} (p0 : Int32) (p1 : Int32) (p2 : Int32) (p3 : Int32) (x34 : Int32) (G : XG) (a : Nat)
    (z31 : 0 ≤ p0.toInt ∧ p0.toInt < 3)
    (z31a : 0 ≤ p1.toInt ∧ p1.toInt < 30)
    (z31b : 0 ≤ p2.toInt ∧ p2.toInt < 3)
    (z31c : p3.toInt = -1000 ∨ (-99 ≤ p3.toInt ∧ p3.toInt ≤ 99))
    (t34 : (x34.toInt = 1 ∧ (cel (mw (G.2.1 (F a 1)) 0) (p0.toInt) (p1.toInt) 0) ≠ -2000) ∨ (x34.toInt = 0 ∧ (cel (mw (G.2.1 (F a 1)) 0) (p0.toInt) (p1.toInt) 0) = -2000))
    (c37 : ¬ (x34.toInt ≠ 0)) :
    (-2 : Int) = whyS (mw (G.2.1 (F a 1)) 0) p0.toInt p1.toInt p2.toInt p3.toInt := by
  have c0 : cel (mw (G.2.1 (F a 1)) 0) p0.toInt p1.toInt 0 = -2000 := by omega
  unfold whyS
  rw [if_pos ⟨z31.1, z31.2, z31a.1, z31a.2, z31b.1, z31b.2, z31c⟩, if_pos c0]
theorem v_X11_whyNotSet_30_8 {K : Nat → Nat} {F : Nat → Nat → Nat} (a : Nat) (G : XG) (x1 : Int32) (p0 : Int32) (x8 : Int32) (p1 : Int32) (x15 : Int32) (p2 : Int32) (x23 : Int32) (p3 : Int32)
    (ha : K a = 13)
    (t1 : (x1.toInt = 1 ∧ 0 ≤ p0.toInt ∧ p0.toInt ≤ 2) ∨ (x1.toInt = 0 ∧ (p0.toInt < 0 ∨ 2 < p0.toInt)))
    (c4 : ¬ (x1.toInt = 0))
    (t8 : (x8.toInt = 1 ∧ 0 ≤ p1.toInt ∧ p1.toInt ≤ 29) ∨ (x8.toInt = 0 ∧ (p1.toInt < 0 ∨ 29 < p1.toInt)))
    (c11 : ¬ (x8.toInt = 0))
    (t15 : (x15.toInt = 1 ∧ 0 ≤ p2.toInt ∧ p2.toInt ≤ 2) ∨ (x15.toInt = 0 ∧ (p2.toInt < 0 ∨ 2 < p2.toInt)))
    (c18 : ¬ (x15.toInt = 0))
    (t23 : (x23.toInt = 1 ∧ (p3.toInt = -1000 ∨ (-99 ≤ p3.toInt ∧ p3.toInt < 100))) ∨ (x23.toInt = 0 ∧ p3.toInt ≠ -1000 ∧ (p3.toInt < -99 ∨ 100 ≤ p3.toInt)))
    (c26 : ¬ (x23.toInt ≠ 0)) :
    (-1 : Int) = whyS (mw (G.2.1 (F a 1)) 0) p0.toInt p1.toInt p2.toInt p3.toInt := by
  unfold whyS; rw [if_neg (fun h => by obtain ⟨h1, h2, h3, h4, h5, h6, h7⟩ := h; omega)]
theorem v_X11_set_15_1 {F : Nat → Nat → Nat} (a : Nat) (G : XG) (G6 : XG)
    (hM : RM (G.2.1 (F a 1)) (0))
    (hB : RM (G.2.1 (F a 2)) 0)
    (c_G6_F_a_1 : G6.2.1 (F a 1) = G.2.1 (F a 1)) :
    RM (G6.2.1 (F a 1)) 0 := by simp only [c_G6_F_a_1]; assumption
theorem v_X11_set_33_2 {F : Nat → Nat → Nat} (a : Nat) (G : XG) (G6 : XG)
    (hR : RV (G.2.1 (F a 10)))
    (c_G6_F_a_10 : G6.2.1 (F a 10) = G.2.1 (F a 10)) :
    RV (G6.2.1 (F a 10)) := by simp only [c_G6_F_a_10]; assumption
theorem v_X11_set_33_3 {F : Nat → Nat → Nat} (a : Nat) (G : XG) (G6 : XG)
    (hM : RM (G.2.1 (F a 1)) (0))
    (hB : RM (G.2.1 (F a 2)) 0)
    (c_G6_F_a_1 : G6.2.1 (F a 1) = G.2.1 (F a 1)) :
    RM (G6.2.1 (F a 1)) (0) := by simp only [c_G6_F_a_1]; assumption
theorem v_X11_set_53_4 {F : Nat → Nat → Nat} (a : Nat) (G : XG) (G51 : XG)
    (hR : RV (G.2.1 (F a 10)))
    (c_G51_F_a_10 : G51.2.1 (F a 10) = G.2.1 (F a 10)) :
    RV (G51.2.1 (F a 10)) := by simp only [c_G51_F_a_10]; assumption
theorem v_X11_set_53_5 {K : Nat → Nat} {F : Nat → Nat → Nat} (a : Nat) (G : XG) (G6 : XG) (G33 : XG) (G51 : XG) (x48 : Int32) (p3 : Int32) (x15 : Int32) (p0 : Int32) (p1 : Int32) (p2 : Int32) (x42 : Int32) (x46 : Int32)
    (ha : K a = 13)
    (hG51 : G51 = cput G33 (F a 1) x48.toNatClampNeg p3)
    (hM : RM (G.2.1 (F a 1)) (0))
    (oq15 : x15.toInt = whyS (mw (G.2.1 (F a 1)) 0) p0.toInt p1.toInt p2.toInt p3.toInt)
    (am : 0 ≤ ((G.1 a 43).toInt) ∧ ((G.1 a 43).toInt) ≤ 2388)
    (t6 : ((G6.1 a 20).toInt) = -2147483648 ∧ ((G6.1 a 21).toInt) = -2147483648 ∧ ((G6.1 a 23).toInt) = 0)
    (c22 : x15.toInt = 0)
    (z32 : 0 ≤ p0.toInt ∧ p0.toInt < 3 ∧ 0 ≤ p1.toInt ∧ p1.toInt < 30 ∧ 0 ≤ p2.toInt ∧ p2.toInt < 3 ∧ (p3.toInt = -1000 ∨ (-99 ≤ p3.toInt ∧ p3.toInt ≤ 99)))
    (t42 : 0 ≤ p0.toInt ∧ p0.toInt ≤ 2 ∧ 0 ≤ p1.toInt ∧ p1.toInt ≤ 29 → x42.toInt = 4 * (30 * p0.toInt + p1.toInt))
    (t46 : x46.toInt = x42.toInt + (1 : Int) ∨ x42.toInt + (1 : Int) < -2147483648 ∨ 2147483648 ≤ x42.toInt + (1 : Int))
    (t48 : x48.toInt = x46.toInt + p2.toInt ∨ x46.toInt + p2.toInt < -2147483648 ∨ 2147483648 ≤ x46.toInt + p2.toInt)
    (c_G33_F_a_1 : G33.2.1 (F a 1) = G.2.1 (F a 1)) :
    RM (G51.2.1 (F a 1)) (0) := by
  exact hM.set (t := p0.toInt) (k := p1.toInt) (c := p2.toInt) (by omega) (by decide) (by omega) (aI_pu hG51 c_G33_F_a_1 rfl rfl (by omega)) (by omega)
theorem v_X11_set_53_6 {F : Nat → Nat → Nat} (a : Nat) (G : XG) (G33 : XG) (G51 : XG)
    (hM : RM (G.2.1 (F a 1)) (0))
    (hB : RM (G.2.1 (F a 2)) 0)
    (oq33a : RM (G33.2.1 (F a 4)) 0)
    (c_G51_F_a_4 : G51.2.1 (F a 4) = G33.2.1 (F a 4)) :
    RM (G51.2.1 (F a 4)) 0 := by simp only [c_G51_F_a_4]; assumption
theorem v_X11_set_53_7 {F : Nat → Nat → Nat} (a : Nat) (G : XG) (G33 : XG) (G51 : XG)
    (hM : RM (G.2.1 (F a 1)) (0))
    (hB : RM (G.2.1 (F a 2)) 0)
    (oq33a : RM (G33.2.1 (F a 4)) 0)
    (c_G51_F_a_2 : G51.2.1 (F a 2) = G.2.1 (F a 2)) :
    RM (G51.2.1 (F a 2)) 0 := by simp only [c_G51_F_a_2]; assumption
theorem v_X11_set_53_8 {F : Nat → Nat → Nat} (a : Nat) (G : XG) (G33 : XG) (G51 : XG)
    (oq33b : LSt (G.2.1 (F a 10)) (G33.2.1 (F a 12)) (mw (G.2.1 (F a 1)) 0) 12)
    (c_G51_F_a_10 : G51.2.1 (F a 10) = G.2.1 (F a 10))
    (c_G51_F_a_12 : G51.2.1 (F a 12) = G33.2.1 (F a 12)) :
    LSt (G51.2.1 (F a 10)) (G51.2.1 (F a 12)) (mw (G.2.1 (F a 1)) 0) 12 := by
  rw [c_G51_F_a_10, c_G51_F_a_12]; exact oq33b
theorem v_X11_set_56_9 {K : Nat → Nat} {F : Nat → Nat → Nat} (a : Nat) (G : XG) (G6 : XG) (G33 : XG) (G51 : XG) (x48 : Int32) (p3 : Int32) (G53 : XG) (x15 : Int32) (p0 : Int32) (p1 : Int32) (p2 : Int32) (x53 : Int32) (x42 : Int32) (x46 : Int32)
    (ha : K a = 13)
    (hG51 : G51 = cput G33 (F a 1) x48.toNatClampNeg p3)
    (hM : RM (G.2.1 (F a 1)) (0))
    (oq15 : x15.toInt = whyS (mw (G.2.1 (F a 1)) 0) p0.toInt p1.toInt p2.toInt p3.toInt)
    (oq33 : mw (G33.2.1 (F a 4)) 0 = mw (G.2.1 (F a 1)) 0)
    (oq53 : ((ffP (G.2.1 (F a 10)) (mw (G51.2.1 (F a 1)) 0) (fuO (G.2.1 (F a 10)) (mw (G.2.1 (F a 1)) 0) (mw (G51.2.1 (F a 1)) 0) 0) ≠ -1 ∨ (((G.1 a 6).toInt) = 0 ∧ ffP (G.2.1 (F a 10)) (mw (G51.2.1 (F a 1)) 0) (fuO (G.2.1 (F a 10)) (mw (G.2.1 (F a 1)) 0) (mw (G51.2.1 (F a 1)) 0) 1) ≠ -1)) ∧ x53.toInt = -5 ∧ mw (G53.2.1 (F a 1)) 0 = mw (G33.2.1 (F a 4)) 0) ∨ (ffP (G.2.1 (F a 10)) (mw (G51.2.1 (F a 1)) 0) (fuO (G.2.1 (F a 10)) (mw (G.2.1 (F a 1)) 0) (mw (G51.2.1 (F a 1)) 0) 0) = -1 ∧ (((G.1 a 6).toInt) = 0 → ffP (G.2.1 (F a 10)) (mw (G51.2.1 (F a 1)) 0) (fuO (G.2.1 (F a 10)) (mw (G.2.1 (F a 1)) 0) (mw (G51.2.1 (F a 1)) 0) 1) = -1) ∧ x53.toInt = (((fuO (G.2.1 (F a 10)) (mw (G.2.1 (F a 1)) 0) (mw (G51.2.1 (F a 1)) 0) 2).length : Nat) : Int) ∧ mw (G53.2.1 (F a 1)) 0 = mw (G51.2.1 (F a 1)) 0))
    (am : 0 ≤ ((G.1 a 43).toInt) ∧ ((G.1 a 43).toInt) ≤ 2388)
    (t6 : ((G6.1 a 20).toInt) = -2147483648 ∧ ((G6.1 a 21).toInt) = -2147483648 ∧ ((G6.1 a 23).toInt) = 0)
    (c22 : x15.toInt = 0)
    (z32 : 0 ≤ p0.toInt ∧ p0.toInt < 3 ∧ 0 ≤ p1.toInt ∧ p1.toInt < 30 ∧ 0 ≤ p2.toInt ∧ p2.toInt < 3 ∧ (p3.toInt = -1000 ∨ (-99 ≤ p3.toInt ∧ p3.toInt ≤ 99)))
    (t42 : 0 ≤ p0.toInt ∧ p0.toInt ≤ 2 ∧ 0 ≤ p1.toInt ∧ p1.toInt ≤ 29 → x42.toInt = 4 * (30 * p0.toInt + p1.toInt))
    (t46 : x46.toInt = x42.toInt + (1 : Int) ∨ x42.toInt + (1 : Int) < -2147483648 ∨ 2147483648 ≤ x42.toInt + (1 : Int))
    (t48 : x48.toInt = x46.toInt + p2.toInt ∨ x46.toInt + p2.toInt < -2147483648 ∨ 2147483648 ≤ x46.toInt + p2.toInt)
    (t53 : (0 ≤ ((G53.1 a 23).toInt) ∧ ((G53.1 a 23).toInt) ≤ 24) ∧ (0 ≤ ((G53.1 a 43).toInt) ∧ ((G53.1 a 43).toInt) ≤ 2388))
    (c_G33_F_a_1 : G33.2.1 (F a 1) = G.2.1 (F a 1)) :
    (whyS (mw (G.2.1 (F a 1)) 0) p0.toInt p1.toInt p2.toInt p3.toInt ≠ 0 ∧ x53.toInt = whyS (mw (G.2.1 (F a 1)) 0) p0.toInt p1.toInt p2.toInt p3.toInt ∧ mw (G53.2.1 (F a 1)) 0 = (mw (G.2.1 (F a 1)) 0)) ∨ (whyS (mw (G.2.1 (F a 1)) 0) p0.toInt p1.toInt p2.toInt p3.toInt = 0 ∧ StR ((G.1 a 6).toInt) x53.toInt (G.2.1 (F a 10)) (mw (G.2.1 (F a 1)) 0) (rset (mw (G.2.1 (F a 1)) 0) (90 * p0.toInt + 30 * p2.toInt + p1.toInt) p3.toInt) (mw (G53.2.1 (F a 1)) 0)) := by
  have w0 := whyS_0 (oq15.symm.trans c22)
  have fl : aI (G.2.1 (F a 1)) (0 + 4 * (30 * p0.toInt + p1.toInt)) = 1 := by
    rcases hM.flag (t := p0.toInt) (k := p1.toInt) (by omega) with h | h
    · exact absurd h.2 w0.2.1
    · exact h.1
  have e1 := mw_set (b := 0) (t := p0.toInt) (k := p1.toInt) (c := p2.toInt) (by omega) (by decide) (by omega) (aI_pu hG51 c_G33_F_a_1 rfl rfl (by omega)) fl
  rw [e1, oq33] at oq53
  exact Or.inr ⟨oq15.symm.trans c22, oq53⟩
theorem v_X11_set_56_10 {F : Nat → Nat → Nat} (a : Nat) (G53 : XG)
    (oq53a : RM (G53.2.1 (F a 1)) 0) :
    RM (G53.2.1 (F a 1)) 0 := by
  exact oq53a
theorem v_X11_set_31_11 {K : Nat → Nat} {F : Nat → Nat → Nat} (a : Nat) (G : XG) (G6 : XG) (G28 : XG) (x15 : Int32) (p0 : Int32) (p1 : Int32) (p2 : Int32) (p3 : Int32)
    (ha : K a = 13)
    (oq15 : x15.toInt = whyS (mw (G.2.1 (F a 1)) 0) p0.toInt p1.toInt p2.toInt p3.toInt)
    (am : 0 ≤ ((G.1 a 43).toInt) ∧ ((G.1 a 43).toInt) ≤ 2388)
    (t6 : ((G6.1 a 20).toInt) = -2147483648 ∧ ((G6.1 a 21).toInt) = -2147483648 ∧ ((G6.1 a 23).toInt) = 0)
    (c22 : ¬ (x15.toInt = 0))
    (c_G28_F_a_1 : G28.2.1 (F a 1) = G.2.1 (F a 1)) :
    (whyS (mw (G.2.1 (F a 1)) 0) p0.toInt p1.toInt p2.toInt p3.toInt ≠ 0 ∧ x15.toInt = whyS (mw (G.2.1 (F a 1)) 0) p0.toInt p1.toInt p2.toInt p3.toInt ∧ mw (G28.2.1 (F a 1)) 0 = (mw (G.2.1 (F a 1)) 0)) ∨ (whyS (mw (G.2.1 (F a 1)) 0) p0.toInt p1.toInt p2.toInt p3.toInt = 0 ∧ StR ((G.1 a 6).toInt) x15.toInt (G.2.1 (F a 10)) (mw (G.2.1 (F a 1)) 0) (rset (mw (G.2.1 (F a 1)) 0) (90 * p0.toInt + 30 * p2.toInt + p1.toInt) p3.toInt) (mw (G28.2.1 (F a 1)) 0)) := by
  exact Or.inl ⟨by omega, by omega, by rw [c_G28_F_a_1]⟩
theorem v_X11_set_31_12 {F : Nat → Nat → Nat} (a : Nat) (G : XG) (G28 : XG)
    (hM : RM (G.2.1 (F a 1)) (0))
    (c_G28_F_a_1 : G28.2.1 (F a 1) = G.2.1 (F a 1)) :
    RM (G28.2.1 (F a 1)) 0 := by
  rw [c_G28_F_a_1]; exact hM
