theorem z_X1_offerValues_1 (a0 : Int) : a0 ≤ a0 ∧ a0 ≤ a0 + 2 := by omega
theorem z_X1_offerValues_2 (a0 : Int) (h0 : 0 ≤ a0 ∧ a0 ≤ 88) : 0 ≤ a0 ∧ a0 ≤ 89 := by omega
theorem z_X1_offerValues_3 (a0 : Int) (a1 : Int) (h0 : a0 ≤ a1 ∧ a1 ≤ a0 + 1) : a0 ≤ a1 ∧ a1 ≤ a0 + 2 := by omega
theorem z_X1_offerValues_6 (a0 : Int) (a1 : Int) (h0 : 0 ≤ a0 ∧ a0 ≤ 88) (h1 : a0 ≤ a1 ∧ a1 ≤ a0 + 1) : 0 ≤ a1 ∧ a1 ≤ 89 := by omega
theorem z_X1_offerValues_7 (a0 : Int) (a1 : Int) (a2 : Int) (h0 : a0 ≤ a1 ∧ a1 ≤ a0 + 1) (h1 : a1 ≤ a2 ∧ a2 ≤ a1 + 1) : a0 ≤ a2 ∧ a2 ≤ a0 + 2 := by omega
abbrev rm_X1_offerValues : Room := { frames := 2, cells := 0, slots := 0, locals := 44 }
set_option maxHeartbeats 4000000 in
set_option maxRecDepth 100000 in
theorem c_X1_offerValues (l : Launch) (E : XE) (K : Nat → Nat) (F : Nat → Nat → Nat) (G : XG) (a : Nat) (p0 : Nat) (p1 : Nat) (p2 : Nat) (p3 : Int32) (ha : K a = 3) (hp0 : K p0 = 9) (hp1 : K p1 = 8) (hp2 : K p2 = 8) (s0 : 0 ≤ ((G.1 a 3).toInt) ∧ ((G.1 a 3).toInt) ≤ 88) (so : SO (G.2.1 (F a 2)) ((G.1 a 3).toInt)) : Met l yX1_offerValues (xw yX1_offerValues cX1_offerValues 7 none) rm_X1_offerValues (va_Pc [.ref a, .ref p0, .ref p1, .ref p2, .int p3] (XP E K F G)) (XQv E (fun (u : XG) => XFr [(a, 3)] [F a 2] [] G u ∧ (((G.1 a 3).toInt) ≤ ((u.1 a 3).toInt) ∧ ((u.1 a 3).toInt) ≤ ((G.1 a 3).toInt) + 2) ∧ (SO (u.2.1 (F a 2)) ((u.1 a 3).toInt)) ∧ (∀ y : Int, MB (u.2.1 (F a 2)) ((u.1 a 3).toInt) y ↔ MB (G.2.1 (F a 2)) ((G.1 a 3).toInt) y ∨ OV ((G.1 p0 0).toInt) (cel (vw (G.2.1 (F p1 0))) ((G.1 p0 2).toInt) (p3.toInt) ((G.1 p0 3).toInt)) (cel (vw (G.2.1 (F p2 0))) ((G.1 p0 2).toInt) (p3.toInt) ((G.1 p0 3).toInt)) y)) (fun u H => TW E K F u H)) 0 0 (xA E) := by
  refine x_enter (by decide) (Nat.le_of_ble_eq_true rfl) ?_
  intro p e s m args below meth c Q S hr hlk hnm hQ hP ls hl
  obtain ⟨hz, hK, hT⟩ := hP
  obtain ⟨hx, hb, -, -, -⟩ := id S
  obtain ⟨H, hT, hS, hgo⟩ : ∃ H : Heap, TW E K F G H ∧ va_S (xA E) s.heap H [] ∧ H = s.heap := ⟨_, hT, va_S.rf, rfl⟩
  rw [← hgo]
  have hl : lv_has ls 7 [(0, .ref a), (1, .ref p0), (2, .ref p1), (3, .ref p2), (4, .int p3)] := hl
  obtain ⟨hk9999, hj9999⟩ := fkX1_2 hT ha
  obtain ⟨hk9999a, hj9999a⟩ := fkX6_0 hT hp1
  obtain ⟨hk9999b, hj9999b⟩ := fkX6_0 hT hp2
  refine lv_aload_n hx hb dX1_offerValues_0 rfl (lv_at hl 2 rfl) ?_
  refine lv_aload_n hx hb dX1_offerValues_1 rfl (lv_at hl 1 rfl) ?_
  refine gX7_2 S hK hT hp0 kf_X1_73 dX1_offerValues_2 (v := (G.1 p0 2)) rfl (?_)
  refine lv_iload hx hb dX1_offerValues_5 (lv_at hl 4 rfl) ?_
  refine lv_aload_n hx hb dX1_offerValues_7 rfl (lv_at hl 1 rfl) ?_
  refine gX7_3 S hK hT hp0 kf_X1_83 dX1_offerValues_8 (v := (G.1 p0 3)) rfl (?_)
  refine x_clp (x_runV (b := p1) (As := [.int (G.1 p0 2), .int p3, .int (G.1 p0 3)]) (rest := []) S (c_X6_cell l E K F G H p1 (G.1 p0 2) p3 (G.1 p0 3) hp1) mv_X6_cell km_X1_86 rfl rfl ⟨Nat.le_of_ble_eq_true rfl, Nat.le_of_ble_eq_true rfl⟩ (rc_8 hK hT hp1) hK (fun _ => XPh.blind) (fun U hU hW => XPh.at hK hz hS hT hU hW) rfl hl.1 (Nat.le_of_ble_eq_true rfl) dX1_offerValues_11 ⟨Nat.le_of_ble_eq_true rfl, Nat.le_of_ble_eq_true rfl⟩) hS ?_
  rintro _ _ locs ⟨x11, rfl, t11⟩ hS
  have t11 : x11.toInt = (cel (vw (G.2.1 (F p1 0))) ((G.1 p0 2).toInt) (p3.toInt) ((G.1 p0 3).toInt)) := t11
  refine lv_istore (lv' := [(5, .int x11), (0, .ref a), (1, .ref p0), (2, .ref p1), (3, .ref p2), (4, .int p3)]) hx hb dX1_offerValues_14 hl (by decide) rfl (fun ls hl => ?_)
  refine lv_aload_n hx hb dX1_offerValues_16 rfl (lv_at hl 4 rfl) ?_
  refine lv_aload_n hx hb dX1_offerValues_17 rfl (lv_at hl 2 rfl) ?_
  refine gX7_2 S hK hT hp0 kf_X1_73 dX1_offerValues_18 (v := (G.1 p0 2)) rfl (?_)
  refine lv_iload hx hb dX1_offerValues_21 (lv_at hl 5 rfl) ?_
  refine lv_aload_n hx hb dX1_offerValues_23 rfl (lv_at hl 2 rfl) ?_
  refine gX7_3 S hK hT hp0 kf_X1_83 dX1_offerValues_24 (v := (G.1 p0 3)) rfl (?_)
  refine x_clp (x_runV (b := p2) (As := [.int (G.1 p0 2), .int p3, .int (G.1 p0 3)]) (rest := []) S (c_X6_cell l E K F G H p2 (G.1 p0 2) p3 (G.1 p0 3) hp2) mv_X6_cell km_X1_86 rfl rfl ⟨Nat.le_of_ble_eq_true rfl, Nat.le_of_ble_eq_true rfl⟩ (rc_8 hK hT hp2) hK (fun _ => XPh.blind) (fun U hU hW => XPh.at hK hz hS hT hU hW) rfl hl.1 (Nat.le_of_ble_eq_true rfl) dX1_offerValues_27 ⟨Nat.le_of_ble_eq_true rfl, Nat.le_of_ble_eq_true rfl⟩) hS ?_
  rintro _ _ locs ⟨x27, rfl, t27⟩ hS
  have t27 : x27.toInt = (cel (vw (G.2.1 (F p2 0))) ((G.1 p0 2).toInt) (p3.toInt) ((G.1 p0 3).toInt)) := t27
  refine lv_istore (lv' := [(6, .int x27), (5, .int x11), (0, .ref a), (1, .ref p0), (2, .ref p1), (3, .ref p2), (4, .int p3)]) hx hb dX1_offerValues_30 hl (by decide) rfl (fun ls hl => ?_)
  refine lv_iload hx hb dX1_offerValues_32 (lv_at hl 1 rfl) ?_
  refine lv_iload hx hb dX1_offerValues_34 (lv_at hl 0 rfl) ?_
  refine xi_cne (tgt := 48) hx hb (t11 : Int32.toInt x11 = (cel (vw (G.2.1 (F p1 0))) ((G.1 p0 2).toInt) (p3.toInt) ((G.1 p0 3).toInt))) (t27 : Int32.toInt x27 = (cel (vw (G.2.1 (F p2 0))) ((G.1 p0 2).toInt) (p3.toInt) ((G.1 p0 3).toInt))) dX1_offerValues_36 (by decide) (fun c36 => ?_) (fun c36 => ?_)
  · refine lv_aload_n hx hb dX1_offerValues_48 rfl (lv_at hl 3 rfl) ?_
    refine lv_iload hx hb dX1_offerValues_49 (lv_at hl 1 rfl) ?_
    refine x_clp (x_runV (b := p0) (As := [.int x11]) (rest := []) S (c_X7_isSubject l E K F G H p0 x11 hp0) mv_X7_isSubject km_X1_90 rfl rfl ⟨Nat.le_of_ble_eq_true rfl, Nat.le_of_ble_eq_true rfl⟩ (rc_9 hK hT hp0) hK (fun _ => XPh.blind) (fun U hU hW => XPh.at hK hz hS hT hU hW) rfl hl.1 (Nat.le_of_ble_eq_true rfl) dX1_offerValues_51 ⟨Nat.le_of_ble_eq_true rfl, Nat.le_of_ble_eq_true rfl⟩) hS ?_
    rintro _ _ locs ⟨x51, rfl, b51, t51⟩ hS
    have t51 : ((((((G.1 p0 0).toInt) = 2 ∨ ((G.1 p0 0).toInt) = 4 ∨ ((G.1 p0 0).toInt) = 5) ∧ 0 ≤ (cel (vw (G.2.1 (F p1 0))) ((G.1 p0 2).toInt) (p3.toInt) ((G.1 p0 3).toInt)) ∧ (cel (vw (G.2.1 (F p1 0))) ((G.1 p0 2).toInt) (p3.toInt) ((G.1 p0 3).toInt)) < 30) ∨ (¬ (((G.1 p0 0).toInt) = 2 ∨ ((G.1 p0 0).toInt) = 4 ∨ ((G.1 p0 0).toInt) = 5) ∧ -99 ≤ (cel (vw (G.2.1 (F p1 0))) ((G.1 p0 2).toInt) (p3.toInt) ((G.1 p0 3).toInt)) ∧ (cel (vw (G.2.1 (F p1 0))) ((G.1 p0 2).toInt) (p3.toInt) ((G.1 p0 3).toInt)) ≤ 99)) ∧ x51.toInt = 1) ∨ (¬ (((((G.1 p0 0).toInt) = 2 ∨ ((G.1 p0 0).toInt) = 4 ∨ ((G.1 p0 0).toInt) = 5) ∧ 0 ≤ (cel (vw (G.2.1 (F p1 0))) ((G.1 p0 2).toInt) (p3.toInt) ((G.1 p0 3).toInt)) ∧ (cel (vw (G.2.1 (F p1 0))) ((G.1 p0 2).toInt) (p3.toInt) ((G.1 p0 3).toInt)) < 30) ∨ (¬ (((G.1 p0 0).toInt) = 2 ∨ ((G.1 p0 0).toInt) = 4 ∨ ((G.1 p0 0).toInt) = 5) ∧ -99 ≤ (cel (vw (G.2.1 (F p1 0))) ((G.1 p0 2).toInt) (p3.toInt) ((G.1 p0 3).toInt)) ∧ (cel (vw (G.2.1 (F p1 0))) ((G.1 p0 2).toInt) (p3.toInt) ((G.1 p0 3).toInt)) ≤ 99)) ∧ x51.toInt = 0) := by rw [(t11 : Int32.toInt x11 = (cel (vw (G.2.1 (F p1 0))) ((G.1 p0 2).toInt) (p3.toInt) ((G.1 p0 3).toInt)))] at t51; exact t51
    refine xi_zeq (tgt := 63) hx hb (rfl : Int32.toInt x51 = x51.toInt) dX1_offerValues_54 (by decide) (fun c54 => ?_) (fun c54 => ?_)
    · refine lv_aload_n hx hb dX1_offerValues_63 rfl (lv_at hl 3 rfl) ?_
      refine lv_iload hx hb dX1_offerValues_64 (lv_at hl 0 rfl) ?_
      refine x_clp (x_runV (b := p0) (As := [.int x27]) (rest := []) S (c_X7_isSubject l E K F G H p0 x27 hp0) mv_X7_isSubject km_X1_90 rfl rfl ⟨Nat.le_of_ble_eq_true rfl, Nat.le_of_ble_eq_true rfl⟩ (rc_9 hK hT hp0) hK (fun _ => XPh.blind) (fun U hU hW => XPh.at hK hz hS hT hU hW) rfl hl.1 (Nat.le_of_ble_eq_true rfl) dX1_offerValues_66 ⟨Nat.le_of_ble_eq_true rfl, Nat.le_of_ble_eq_true rfl⟩) hS ?_
      rintro _ _ locs ⟨x66, rfl, b66, t66⟩ hS
      have t66 : ((((((G.1 p0 0).toInt) = 2 ∨ ((G.1 p0 0).toInt) = 4 ∨ ((G.1 p0 0).toInt) = 5) ∧ 0 ≤ (cel (vw (G.2.1 (F p2 0))) ((G.1 p0 2).toInt) (p3.toInt) ((G.1 p0 3).toInt)) ∧ (cel (vw (G.2.1 (F p2 0))) ((G.1 p0 2).toInt) (p3.toInt) ((G.1 p0 3).toInt)) < 30) ∨ (¬ (((G.1 p0 0).toInt) = 2 ∨ ((G.1 p0 0).toInt) = 4 ∨ ((G.1 p0 0).toInt) = 5) ∧ -99 ≤ (cel (vw (G.2.1 (F p2 0))) ((G.1 p0 2).toInt) (p3.toInt) ((G.1 p0 3).toInt)) ∧ (cel (vw (G.2.1 (F p2 0))) ((G.1 p0 2).toInt) (p3.toInt) ((G.1 p0 3).toInt)) ≤ 99)) ∧ x66.toInt = 1) ∨ (¬ (((((G.1 p0 0).toInt) = 2 ∨ ((G.1 p0 0).toInt) = 4 ∨ ((G.1 p0 0).toInt) = 5) ∧ 0 ≤ (cel (vw (G.2.1 (F p2 0))) ((G.1 p0 2).toInt) (p3.toInt) ((G.1 p0 3).toInt)) ∧ (cel (vw (G.2.1 (F p2 0))) ((G.1 p0 2).toInt) (p3.toInt) ((G.1 p0 3).toInt)) < 30) ∨ (¬ (((G.1 p0 0).toInt) = 2 ∨ ((G.1 p0 0).toInt) = 4 ∨ ((G.1 p0 0).toInt) = 5) ∧ -99 ≤ (cel (vw (G.2.1 (F p2 0))) ((G.1 p0 2).toInt) (p3.toInt) ((G.1 p0 3).toInt)) ∧ (cel (vw (G.2.1 (F p2 0))) ((G.1 p0 2).toInt) (p3.toInt) ((G.1 p0 3).toInt)) ≤ 99)) ∧ x66.toInt = 0) := by rw [(t27 : Int32.toInt x27 = (cel (vw (G.2.1 (F p2 0))) ((G.1 p0 2).toInt) (p3.toInt) ((G.1 p0 3).toInt)))] at t66; exact t66
      refine xi_zeq (tgt := 78) hx hb (rfl : Int32.toInt x66 = x66.toInt) dX1_offerValues_69 (by decide) (fun c69 => ?_) (fun c69 => ?_)
      · exact x_rv hx hb hr hlk hQ (Nat.le_of_ble_eq_true rfl) (Nat.le_of_ble_eq_true rfl) hS dX1_offerValues_78 G ⟨XFr.rf, (z_X1_offerValues_1 ((G.1 a 3).toInt)), (v_X1_offerValues_78_1 a G so), (v_X1_offerValues_78_2 a p0 p1 p2 G p3 x51 x66 ha hp0 hp1 hp2 so s0 c36 t51 c54 t66 c69)⟩ hT
      · refine lv_aload_n hx hb dX1_offerValues_72 rfl (lv_at hl 2 rfl) ?_
        refine lv_iload hx hb dX1_offerValues_73 (lv_at hl 0 rfl) ?_
        refine x_cv0 (x_runV (b := a) (As := [.int x27]) (rest := []) S (c_X1_insert l E K F G a x27 ha (z_X1_offerValues_2 ((G.1 a 3).toInt) s0) (v_X1_offerValues_75_3 a G so)) mv_X1_insert km_X1_93 rfl rfl ⟨Nat.le_of_ble_eq_true rfl, Nat.le_of_ble_eq_true rfl⟩ (rc_3 hK hT ha) hK (fun _ => XP.blind) (fun U hU hW => XP.at hK hz hS hT hU hW) rfl hl.1 (Nat.le_of_ble_eq_true rfl) dX1_offerValues_75 ⟨Nat.le_of_ble_eq_true rfl, Nat.le_of_ble_eq_true rfl⟩) hS ?_
        rintro G75 H locs ⟨hF75, t75, oq75, oq75a⟩ hT hS
        have t75 : ((G.1 a 3).toInt) ≤ ((G75.1 a 3).toInt) ∧ ((G75.1 a 3).toInt) ≤ ((G.1 a 3).toInt) + 1 := t75
        have oq75a : ∀ y : Int, MB (G75.2.1 (F a 2)) ((G75.1 a 3).toInt) y ↔ MB (G.2.1 (F a 2)) ((G.1 a 3).toInt) y ∨ y = (cel (vw (G.2.1 (F p2 0))) ((G.1 p0 2).toInt) (p3.toInt) ((G.1 p0 3).toInt)) := by simp only [(t27 : Int32.toInt x27 = (cel (vw (G.2.1 (F p2 0))) ((G.1 p0 2).toInt) (p3.toInt) ((G.1 p0 3).toInt)))] at oq75a; exact oq75a
        exact x_rv hx hb hr hlk hQ (Nat.le_of_ble_eq_true rfl) (Nat.le_of_ble_eq_true rfl) hS dX1_offerValues_78 G75 ⟨(XFr.call XFr.rf hF75 (xm1 0 rfl xm0) (xm1 0 rfl xm0) xm0), (z_X1_offerValues_3 ((G.1 a 3).toInt) ((G75.1 a 3).toInt) t75), (v_X1_offerValues_78_4 a G G75 so oq75), (v_X1_offerValues_78_5 a p0 p1 p2 G G75 p3 x51 x66 ha hp0 hp1 hp2 so oq75 oq75a s0 c36 t51 c54 t66 c69 t75)⟩ hT
    · refine lv_aload_n hx hb dX1_offerValues_57 rfl (lv_at hl 2 rfl) ?_
      refine lv_iload hx hb dX1_offerValues_58 (lv_at hl 1 rfl) ?_
      refine x_cv0 (x_runV (b := a) (As := [.int x11]) (rest := []) S (c_X1_insert l E K F G a x11 ha (z_X1_offerValues_2 ((G.1 a 3).toInt) s0) (v_X1_offerValues_60_6 a G so)) mv_X1_insert km_X1_93 rfl rfl ⟨Nat.le_of_ble_eq_true rfl, Nat.le_of_ble_eq_true rfl⟩ (rc_3 hK hT ha) hK (fun _ => XP.blind) (fun U hU hW => XP.at hK hz hS hT hU hW) rfl hl.1 (Nat.le_of_ble_eq_true rfl) dX1_offerValues_60 ⟨Nat.le_of_ble_eq_true rfl, Nat.le_of_ble_eq_true rfl⟩) hS ?_
      rintro G60 H locs ⟨hF60, t60, oq60, oq60a⟩ hT hS
      have t60 : ((G.1 a 3).toInt) ≤ ((G60.1 a 3).toInt) ∧ ((G60.1 a 3).toInt) ≤ ((G.1 a 3).toInt) + 1 := t60
      have oq60a : ∀ y : Int, MB (G60.2.1 (F a 2)) ((G60.1 a 3).toInt) y ↔ MB (G.2.1 (F a 2)) ((G.1 a 3).toInt) y ∨ y = (cel (vw (G.2.1 (F p1 0))) ((G.1 p0 2).toInt) (p3.toInt) ((G.1 p0 3).toInt)) := by simp only [(t11 : Int32.toInt x11 = (cel (vw (G.2.1 (F p1 0))) ((G.1 p0 2).toInt) (p3.toInt) ((G.1 p0 3).toInt)))] at oq60a; exact oq60a
      refine lv_aload_n hx hb dX1_offerValues_63 rfl (lv_at hl 3 rfl) ?_
      refine lv_iload hx hb dX1_offerValues_64 (lv_at hl 0 rfl) ?_
      refine x_clp (x_runV (b := p0) (As := [.int x27]) (rest := []) S (c_X7_isSubject l E K F G60 H p0 x27 hp0) mv_X7_isSubject km_X1_90 rfl rfl ⟨Nat.le_of_ble_eq_true rfl, Nat.le_of_ble_eq_true rfl⟩ (rc_9 hK hT hp0) hK (fun _ => XPh.blind) (fun U hU hW => XPh.at hK hz hS hT hU hW) rfl hl.1 (Nat.le_of_ble_eq_true rfl) dX1_offerValues_66 ⟨Nat.le_of_ble_eq_true rfl, Nat.le_of_ble_eq_true rfl⟩) hS ?_
      rintro _ _ locs ⟨x66, rfl, b66, t66⟩ hS
      have t66 : ((((((G.1 p0 0).toInt) = 2 ∨ ((G.1 p0 0).toInt) = 4 ∨ ((G.1 p0 0).toInt) = 5) ∧ 0 ≤ (cel (vw (G.2.1 (F p2 0))) ((G.1 p0 2).toInt) (p3.toInt) ((G.1 p0 3).toInt)) ∧ (cel (vw (G.2.1 (F p2 0))) ((G.1 p0 2).toInt) (p3.toInt) ((G.1 p0 3).toInt)) < 30) ∨ (¬ (((G.1 p0 0).toInt) = 2 ∨ ((G.1 p0 0).toInt) = 4 ∨ ((G.1 p0 0).toInt) = 5) ∧ -99 ≤ (cel (vw (G.2.1 (F p2 0))) ((G.1 p0 2).toInt) (p3.toInt) ((G.1 p0 3).toInt)) ∧ (cel (vw (G.2.1 (F p2 0))) ((G.1 p0 2).toInt) (p3.toInt) ((G.1 p0 3).toInt)) ≤ 99)) ∧ x66.toInt = 1) ∨ (¬ (((((G.1 p0 0).toInt) = 2 ∨ ((G.1 p0 0).toInt) = 4 ∨ ((G.1 p0 0).toInt) = 5) ∧ 0 ≤ (cel (vw (G.2.1 (F p2 0))) ((G.1 p0 2).toInt) (p3.toInt) ((G.1 p0 3).toInt)) ∧ (cel (vw (G.2.1 (F p2 0))) ((G.1 p0 2).toInt) (p3.toInt) ((G.1 p0 3).toInt)) < 30) ∨ (¬ (((G.1 p0 0).toInt) = 2 ∨ ((G.1 p0 0).toInt) = 4 ∨ ((G.1 p0 0).toInt) = 5) ∧ -99 ≤ (cel (vw (G.2.1 (F p2 0))) ((G.1 p0 2).toInt) (p3.toInt) ((G.1 p0 3).toInt)) ∧ (cel (vw (G.2.1 (F p2 0))) ((G.1 p0 2).toInt) (p3.toInt) ((G.1 p0 3).toInt)) ≤ 99)) ∧ x66.toInt = 0) := by rw [(t27 : Int32.toInt x27 = (cel (vw (G.2.1 (F p2 0))) ((G.1 p0 2).toInt) (p3.toInt) ((G.1 p0 3).toInt)))] at t66; rw [(show (G60.1 p0 0).toInt = ((G.1 p0 0).toInt) from (congrArg Int32.toInt (hF60.1 _ _ (xnj (by decide) xn0))).trans (rfl : Int32.toInt (G.1 p0 0) = ((G.1 p0 0).toInt)))] at t66; exact t66
      refine xi_zeq (tgt := 78) hx hb (rfl : Int32.toInt x66 = x66.toInt) dX1_offerValues_69 (by decide) (fun c69 => ?_) (fun c69 => ?_)
      · exact x_rv hx hb hr hlk hQ (Nat.le_of_ble_eq_true rfl) (Nat.le_of_ble_eq_true rfl) hS dX1_offerValues_78 G60 ⟨(XFr.call XFr.rf hF60 (xm1 0 rfl xm0) (xm1 0 rfl xm0) xm0), (z_X1_offerValues_3 ((G.1 a 3).toInt) ((G60.1 a 3).toInt) t60), (v_X1_offerValues_78_7 a G G60 so oq60), (v_X1_offerValues_78_8 a p0 p1 p2 G G60 p3 x51 x66 ha hp0 hp1 hp2 so oq60 oq60a s0 c36 t51 c54 t60 t66 c69)⟩ hT
      · refine lv_aload_n hx hb dX1_offerValues_72 rfl (lv_at hl 2 rfl) ?_
        refine lv_iload hx hb dX1_offerValues_73 (lv_at hl 0 rfl) ?_
        refine x_cv0 (x_runV (b := a) (As := [.int x27]) (rest := []) S (c_X1_insert l E K F G60 a x27 ha (z_X1_offerValues_6 ((G.1 a 3).toInt) ((G60.1 a 3).toInt) s0 t60) (v_X1_offerValues_75_9 a G G60 so oq60)) mv_X1_insert km_X1_93 rfl rfl ⟨Nat.le_of_ble_eq_true rfl, Nat.le_of_ble_eq_true rfl⟩ (rc_3 hK hT ha) hK (fun _ => XP.blind) (fun U hU hW => XP.at hK hz hS hT hU hW) rfl hl.1 (Nat.le_of_ble_eq_true rfl) dX1_offerValues_75 ⟨Nat.le_of_ble_eq_true rfl, Nat.le_of_ble_eq_true rfl⟩) hS ?_
        rintro G75 H locs ⟨hF75, t75, oq75, oq75a⟩ hT hS
        have t75 : ((G60.1 a 3).toInt) ≤ ((G75.1 a 3).toInt) ∧ ((G75.1 a 3).toInt) ≤ ((G60.1 a 3).toInt) + 1 := t75
        have oq75a : ∀ y : Int, MB (G75.2.1 (F a 2)) ((G75.1 a 3).toInt) y ↔ MB (G60.2.1 (F a 2)) ((G60.1 a 3).toInt) y ∨ y = (cel (vw (G.2.1 (F p2 0))) ((G.1 p0 2).toInt) (p3.toInt) ((G.1 p0 3).toInt)) := by simp only [(t27 : Int32.toInt x27 = (cel (vw (G.2.1 (F p2 0))) ((G.1 p0 2).toInt) (p3.toInt) ((G.1 p0 3).toInt)))] at oq75a; exact oq75a
        exact x_rv hx hb hr hlk hQ (Nat.le_of_ble_eq_true rfl) (Nat.le_of_ble_eq_true rfl) hS dX1_offerValues_78 G75 ⟨(XFr.call (XFr.call XFr.rf hF60 (xm1 0 rfl xm0) (xm1 0 rfl xm0) xm0) hF75 (xm1 0 rfl xm0) (xm1 0 rfl xm0) xm0), (z_X1_offerValues_7 ((G.1 a 3).toInt) ((G60.1 a 3).toInt) ((G75.1 a 3).toInt) t60 t75), (v_X1_offerValues_78_10 a G G60 G75 so oq60 oq75), (v_X1_offerValues_78_11 a p0 p1 p2 G G60 G75 p3 x51 x66 ha hp0 hp1 hp2 so oq60 oq60a oq75 oq75a s0 c36 t51 c54 t60 t66 c69 t75)⟩ hT
  · refine lv_aload_n hx hb dX1_offerValues_39 rfl (lv_at hl 3 rfl) ?_
    refine gX7_0 S hK hT hp0 kf_X1_76 dX1_offerValues_40 (v := (G.1 p0 0)) rfl (?_)
    refine lv_iconst (v := 3) hx hb dX1_offerValues_43 (by decide) ?_
    refine xi_ceq (tgt := 48) hx hb (rfl : Int32.toInt (G.1 p0 0) = ((G.1 p0 0).toInt)) ((by decide) : Int32.toInt 3 = (3 : Int)) dX1_offerValues_44 (by decide) (fun c44 => ?_) (fun c44 => ?_)
    · refine lv_aload_n hx hb dX1_offerValues_48 rfl (lv_at hl 3 rfl) ?_
      refine lv_iload hx hb dX1_offerValues_49 (lv_at hl 1 rfl) ?_
      refine x_clp (x_runV (b := p0) (As := [.int x11]) (rest := []) S (c_X7_isSubject l E K F G H p0 x11 hp0) mv_X7_isSubject km_X1_90 rfl rfl ⟨Nat.le_of_ble_eq_true rfl, Nat.le_of_ble_eq_true rfl⟩ (rc_9 hK hT hp0) hK (fun _ => XPh.blind) (fun U hU hW => XPh.at hK hz hS hT hU hW) rfl hl.1 (Nat.le_of_ble_eq_true rfl) dX1_offerValues_51 ⟨Nat.le_of_ble_eq_true rfl, Nat.le_of_ble_eq_true rfl⟩) hS ?_
      rintro _ _ locs ⟨x51, rfl, b51, t51⟩ hS
      have t51 : ((((((G.1 p0 0).toInt) = 2 ∨ ((G.1 p0 0).toInt) = 4 ∨ ((G.1 p0 0).toInt) = 5) ∧ 0 ≤ (cel (vw (G.2.1 (F p1 0))) ((G.1 p0 2).toInt) (p3.toInt) ((G.1 p0 3).toInt)) ∧ (cel (vw (G.2.1 (F p1 0))) ((G.1 p0 2).toInt) (p3.toInt) ((G.1 p0 3).toInt)) < 30) ∨ (¬ (((G.1 p0 0).toInt) = 2 ∨ ((G.1 p0 0).toInt) = 4 ∨ ((G.1 p0 0).toInt) = 5) ∧ -99 ≤ (cel (vw (G.2.1 (F p1 0))) ((G.1 p0 2).toInt) (p3.toInt) ((G.1 p0 3).toInt)) ∧ (cel (vw (G.2.1 (F p1 0))) ((G.1 p0 2).toInt) (p3.toInt) ((G.1 p0 3).toInt)) ≤ 99)) ∧ x51.toInt = 1) ∨ (¬ (((((G.1 p0 0).toInt) = 2 ∨ ((G.1 p0 0).toInt) = 4 ∨ ((G.1 p0 0).toInt) = 5) ∧ 0 ≤ (cel (vw (G.2.1 (F p1 0))) ((G.1 p0 2).toInt) (p3.toInt) ((G.1 p0 3).toInt)) ∧ (cel (vw (G.2.1 (F p1 0))) ((G.1 p0 2).toInt) (p3.toInt) ((G.1 p0 3).toInt)) < 30) ∨ (¬ (((G.1 p0 0).toInt) = 2 ∨ ((G.1 p0 0).toInt) = 4 ∨ ((G.1 p0 0).toInt) = 5) ∧ -99 ≤ (cel (vw (G.2.1 (F p1 0))) ((G.1 p0 2).toInt) (p3.toInt) ((G.1 p0 3).toInt)) ∧ (cel (vw (G.2.1 (F p1 0))) ((G.1 p0 2).toInt) (p3.toInt) ((G.1 p0 3).toInt)) ≤ 99)) ∧ x51.toInt = 0) := by rw [(t11 : Int32.toInt x11 = (cel (vw (G.2.1 (F p1 0))) ((G.1 p0 2).toInt) (p3.toInt) ((G.1 p0 3).toInt)))] at t51; exact t51
      refine xi_zeq (tgt := 63) hx hb (rfl : Int32.toInt x51 = x51.toInt) dX1_offerValues_54 (by decide) (fun c54 => ?_) (fun c54 => ?_)
      · refine lv_aload_n hx hb dX1_offerValues_63 rfl (lv_at hl 3 rfl) ?_
        refine lv_iload hx hb dX1_offerValues_64 (lv_at hl 0 rfl) ?_
        refine x_clp (x_runV (b := p0) (As := [.int x27]) (rest := []) S (c_X7_isSubject l E K F G H p0 x27 hp0) mv_X7_isSubject km_X1_90 rfl rfl ⟨Nat.le_of_ble_eq_true rfl, Nat.le_of_ble_eq_true rfl⟩ (rc_9 hK hT hp0) hK (fun _ => XPh.blind) (fun U hU hW => XPh.at hK hz hS hT hU hW) rfl hl.1 (Nat.le_of_ble_eq_true rfl) dX1_offerValues_66 ⟨Nat.le_of_ble_eq_true rfl, Nat.le_of_ble_eq_true rfl⟩) hS ?_
        rintro _ _ locs ⟨x66, rfl, b66, t66⟩ hS
        have t66 : ((((((G.1 p0 0).toInt) = 2 ∨ ((G.1 p0 0).toInt) = 4 ∨ ((G.1 p0 0).toInt) = 5) ∧ 0 ≤ (cel (vw (G.2.1 (F p2 0))) ((G.1 p0 2).toInt) (p3.toInt) ((G.1 p0 3).toInt)) ∧ (cel (vw (G.2.1 (F p2 0))) ((G.1 p0 2).toInt) (p3.toInt) ((G.1 p0 3).toInt)) < 30) ∨ (¬ (((G.1 p0 0).toInt) = 2 ∨ ((G.1 p0 0).toInt) = 4 ∨ ((G.1 p0 0).toInt) = 5) ∧ -99 ≤ (cel (vw (G.2.1 (F p2 0))) ((G.1 p0 2).toInt) (p3.toInt) ((G.1 p0 3).toInt)) ∧ (cel (vw (G.2.1 (F p2 0))) ((G.1 p0 2).toInt) (p3.toInt) ((G.1 p0 3).toInt)) ≤ 99)) ∧ x66.toInt = 1) ∨ (¬ (((((G.1 p0 0).toInt) = 2 ∨ ((G.1 p0 0).toInt) = 4 ∨ ((G.1 p0 0).toInt) = 5) ∧ 0 ≤ (cel (vw (G.2.1 (F p2 0))) ((G.1 p0 2).toInt) (p3.toInt) ((G.1 p0 3).toInt)) ∧ (cel (vw (G.2.1 (F p2 0))) ((G.1 p0 2).toInt) (p3.toInt) ((G.1 p0 3).toInt)) < 30) ∨ (¬ (((G.1 p0 0).toInt) = 2 ∨ ((G.1 p0 0).toInt) = 4 ∨ ((G.1 p0 0).toInt) = 5) ∧ -99 ≤ (cel (vw (G.2.1 (F p2 0))) ((G.1 p0 2).toInt) (p3.toInt) ((G.1 p0 3).toInt)) ∧ (cel (vw (G.2.1 (F p2 0))) ((G.1 p0 2).toInt) (p3.toInt) ((G.1 p0 3).toInt)) ≤ 99)) ∧ x66.toInt = 0) := by rw [(t27 : Int32.toInt x27 = (cel (vw (G.2.1 (F p2 0))) ((G.1 p0 2).toInt) (p3.toInt) ((G.1 p0 3).toInt)))] at t66; exact t66
        refine xi_zeq (tgt := 78) hx hb (rfl : Int32.toInt x66 = x66.toInt) dX1_offerValues_69 (by decide) (fun c69 => ?_) (fun c69 => ?_)
        · exact x_rv hx hb hr hlk hQ (Nat.le_of_ble_eq_true rfl) (Nat.le_of_ble_eq_true rfl) hS dX1_offerValues_78 G ⟨XFr.rf, (z_X1_offerValues_1 ((G.1 a 3).toInt)), (v_X1_offerValues_78_12 a G so), (v_X1_offerValues_78_13 a p0 p1 p2 G p3 x51 x66 ha hp0 hp1 hp2 so s0 c36 c44 t51 c54 t66 c69)⟩ hT
        · refine lv_aload_n hx hb dX1_offerValues_72 rfl (lv_at hl 2 rfl) ?_
          refine lv_iload hx hb dX1_offerValues_73 (lv_at hl 0 rfl) ?_
          refine x_cv0 (x_runV (b := a) (As := [.int x27]) (rest := []) S (c_X1_insert l E K F G a x27 ha (z_X1_offerValues_2 ((G.1 a 3).toInt) s0) (v_X1_offerValues_75_14 a G so)) mv_X1_insert km_X1_93 rfl rfl ⟨Nat.le_of_ble_eq_true rfl, Nat.le_of_ble_eq_true rfl⟩ (rc_3 hK hT ha) hK (fun _ => XP.blind) (fun U hU hW => XP.at hK hz hS hT hU hW) rfl hl.1 (Nat.le_of_ble_eq_true rfl) dX1_offerValues_75 ⟨Nat.le_of_ble_eq_true rfl, Nat.le_of_ble_eq_true rfl⟩) hS ?_
          rintro G75 H locs ⟨hF75, t75, oq75, oq75a⟩ hT hS
          have t75 : ((G.1 a 3).toInt) ≤ ((G75.1 a 3).toInt) ∧ ((G75.1 a 3).toInt) ≤ ((G.1 a 3).toInt) + 1 := t75
          have oq75a : ∀ y : Int, MB (G75.2.1 (F a 2)) ((G75.1 a 3).toInt) y ↔ MB (G.2.1 (F a 2)) ((G.1 a 3).toInt) y ∨ y = (cel (vw (G.2.1 (F p2 0))) ((G.1 p0 2).toInt) (p3.toInt) ((G.1 p0 3).toInt)) := by simp only [(t27 : Int32.toInt x27 = (cel (vw (G.2.1 (F p2 0))) ((G.1 p0 2).toInt) (p3.toInt) ((G.1 p0 3).toInt)))] at oq75a; exact oq75a
          exact x_rv hx hb hr hlk hQ (Nat.le_of_ble_eq_true rfl) (Nat.le_of_ble_eq_true rfl) hS dX1_offerValues_78 G75 ⟨(XFr.call XFr.rf hF75 (xm1 0 rfl xm0) (xm1 0 rfl xm0) xm0), (z_X1_offerValues_3 ((G.1 a 3).toInt) ((G75.1 a 3).toInt) t75), (v_X1_offerValues_78_15 a G G75 so oq75), (v_X1_offerValues_78_16 a p0 p1 p2 G G75 p3 x51 x66 ha hp0 hp1 hp2 so oq75 oq75a s0 c36 c44 t51 c54 t66 c69 t75)⟩ hT
      · refine lv_aload_n hx hb dX1_offerValues_57 rfl (lv_at hl 2 rfl) ?_
        refine lv_iload hx hb dX1_offerValues_58 (lv_at hl 1 rfl) ?_
        refine x_cv0 (x_runV (b := a) (As := [.int x11]) (rest := []) S (c_X1_insert l E K F G a x11 ha (z_X1_offerValues_2 ((G.1 a 3).toInt) s0) (v_X1_offerValues_60_17 a G so)) mv_X1_insert km_X1_93 rfl rfl ⟨Nat.le_of_ble_eq_true rfl, Nat.le_of_ble_eq_true rfl⟩ (rc_3 hK hT ha) hK (fun _ => XP.blind) (fun U hU hW => XP.at hK hz hS hT hU hW) rfl hl.1 (Nat.le_of_ble_eq_true rfl) dX1_offerValues_60 ⟨Nat.le_of_ble_eq_true rfl, Nat.le_of_ble_eq_true rfl⟩) hS ?_
        rintro G60 H locs ⟨hF60, t60, oq60, oq60a⟩ hT hS
        have t60 : ((G.1 a 3).toInt) ≤ ((G60.1 a 3).toInt) ∧ ((G60.1 a 3).toInt) ≤ ((G.1 a 3).toInt) + 1 := t60
        have oq60a : ∀ y : Int, MB (G60.2.1 (F a 2)) ((G60.1 a 3).toInt) y ↔ MB (G.2.1 (F a 2)) ((G.1 a 3).toInt) y ∨ y = (cel (vw (G.2.1 (F p1 0))) ((G.1 p0 2).toInt) (p3.toInt) ((G.1 p0 3).toInt)) := by simp only [(t11 : Int32.toInt x11 = (cel (vw (G.2.1 (F p1 0))) ((G.1 p0 2).toInt) (p3.toInt) ((G.1 p0 3).toInt)))] at oq60a; exact oq60a
        refine lv_aload_n hx hb dX1_offerValues_63 rfl (lv_at hl 3 rfl) ?_
        refine lv_iload hx hb dX1_offerValues_64 (lv_at hl 0 rfl) ?_
        refine x_clp (x_runV (b := p0) (As := [.int x27]) (rest := []) S (c_X7_isSubject l E K F G60 H p0 x27 hp0) mv_X7_isSubject km_X1_90 rfl rfl ⟨Nat.le_of_ble_eq_true rfl, Nat.le_of_ble_eq_true rfl⟩ (rc_9 hK hT hp0) hK (fun _ => XPh.blind) (fun U hU hW => XPh.at hK hz hS hT hU hW) rfl hl.1 (Nat.le_of_ble_eq_true rfl) dX1_offerValues_66 ⟨Nat.le_of_ble_eq_true rfl, Nat.le_of_ble_eq_true rfl⟩) hS ?_
        rintro _ _ locs ⟨x66, rfl, b66, t66⟩ hS
        have t66 : ((((((G.1 p0 0).toInt) = 2 ∨ ((G.1 p0 0).toInt) = 4 ∨ ((G.1 p0 0).toInt) = 5) ∧ 0 ≤ (cel (vw (G.2.1 (F p2 0))) ((G.1 p0 2).toInt) (p3.toInt) ((G.1 p0 3).toInt)) ∧ (cel (vw (G.2.1 (F p2 0))) ((G.1 p0 2).toInt) (p3.toInt) ((G.1 p0 3).toInt)) < 30) ∨ (¬ (((G.1 p0 0).toInt) = 2 ∨ ((G.1 p0 0).toInt) = 4 ∨ ((G.1 p0 0).toInt) = 5) ∧ -99 ≤ (cel (vw (G.2.1 (F p2 0))) ((G.1 p0 2).toInt) (p3.toInt) ((G.1 p0 3).toInt)) ∧ (cel (vw (G.2.1 (F p2 0))) ((G.1 p0 2).toInt) (p3.toInt) ((G.1 p0 3).toInt)) ≤ 99)) ∧ x66.toInt = 1) ∨ (¬ (((((G.1 p0 0).toInt) = 2 ∨ ((G.1 p0 0).toInt) = 4 ∨ ((G.1 p0 0).toInt) = 5) ∧ 0 ≤ (cel (vw (G.2.1 (F p2 0))) ((G.1 p0 2).toInt) (p3.toInt) ((G.1 p0 3).toInt)) ∧ (cel (vw (G.2.1 (F p2 0))) ((G.1 p0 2).toInt) (p3.toInt) ((G.1 p0 3).toInt)) < 30) ∨ (¬ (((G.1 p0 0).toInt) = 2 ∨ ((G.1 p0 0).toInt) = 4 ∨ ((G.1 p0 0).toInt) = 5) ∧ -99 ≤ (cel (vw (G.2.1 (F p2 0))) ((G.1 p0 2).toInt) (p3.toInt) ((G.1 p0 3).toInt)) ∧ (cel (vw (G.2.1 (F p2 0))) ((G.1 p0 2).toInt) (p3.toInt) ((G.1 p0 3).toInt)) ≤ 99)) ∧ x66.toInt = 0) := by rw [(t27 : Int32.toInt x27 = (cel (vw (G.2.1 (F p2 0))) ((G.1 p0 2).toInt) (p3.toInt) ((G.1 p0 3).toInt)))] at t66; rw [(show (G60.1 p0 0).toInt = ((G.1 p0 0).toInt) from (congrArg Int32.toInt (hF60.1 _ _ (xnj (by decide) xn0))).trans (rfl : Int32.toInt (G.1 p0 0) = ((G.1 p0 0).toInt)))] at t66; exact t66
        refine xi_zeq (tgt := 78) hx hb (rfl : Int32.toInt x66 = x66.toInt) dX1_offerValues_69 (by decide) (fun c69 => ?_) (fun c69 => ?_)
        · exact x_rv hx hb hr hlk hQ (Nat.le_of_ble_eq_true rfl) (Nat.le_of_ble_eq_true rfl) hS dX1_offerValues_78 G60 ⟨(XFr.call XFr.rf hF60 (xm1 0 rfl xm0) (xm1 0 rfl xm0) xm0), (z_X1_offerValues_3 ((G.1 a 3).toInt) ((G60.1 a 3).toInt) t60), (v_X1_offerValues_78_18 a G G60 so oq60), (v_X1_offerValues_78_19 a p0 p1 p2 G G60 p3 x51 x66 ha hp0 hp1 hp2 so oq60 oq60a s0 c36 c44 t51 c54 t60 t66 c69)⟩ hT
        · refine lv_aload_n hx hb dX1_offerValues_72 rfl (lv_at hl 2 rfl) ?_
          refine lv_iload hx hb dX1_offerValues_73 (lv_at hl 0 rfl) ?_
          refine x_cv0 (x_runV (b := a) (As := [.int x27]) (rest := []) S (c_X1_insert l E K F G60 a x27 ha (z_X1_offerValues_6 ((G.1 a 3).toInt) ((G60.1 a 3).toInt) s0 t60) (v_X1_offerValues_75_20 a G G60 so oq60)) mv_X1_insert km_X1_93 rfl rfl ⟨Nat.le_of_ble_eq_true rfl, Nat.le_of_ble_eq_true rfl⟩ (rc_3 hK hT ha) hK (fun _ => XP.blind) (fun U hU hW => XP.at hK hz hS hT hU hW) rfl hl.1 (Nat.le_of_ble_eq_true rfl) dX1_offerValues_75 ⟨Nat.le_of_ble_eq_true rfl, Nat.le_of_ble_eq_true rfl⟩) hS ?_
          rintro G75 H locs ⟨hF75, t75, oq75, oq75a⟩ hT hS
          have t75 : ((G60.1 a 3).toInt) ≤ ((G75.1 a 3).toInt) ∧ ((G75.1 a 3).toInt) ≤ ((G60.1 a 3).toInt) + 1 := t75
          have oq75a : ∀ y : Int, MB (G75.2.1 (F a 2)) ((G75.1 a 3).toInt) y ↔ MB (G60.2.1 (F a 2)) ((G60.1 a 3).toInt) y ∨ y = (cel (vw (G.2.1 (F p2 0))) ((G.1 p0 2).toInt) (p3.toInt) ((G.1 p0 3).toInt)) := by simp only [(t27 : Int32.toInt x27 = (cel (vw (G.2.1 (F p2 0))) ((G.1 p0 2).toInt) (p3.toInt) ((G.1 p0 3).toInt)))] at oq75a; exact oq75a
          exact x_rv hx hb hr hlk hQ (Nat.le_of_ble_eq_true rfl) (Nat.le_of_ble_eq_true rfl) hS dX1_offerValues_78 G75 ⟨(XFr.call (XFr.call XFr.rf hF60 (xm1 0 rfl xm0) (xm1 0 rfl xm0) xm0) hF75 (xm1 0 rfl xm0) (xm1 0 rfl xm0) xm0), (z_X1_offerValues_7 ((G.1 a 3).toInt) ((G60.1 a 3).toInt) ((G75.1 a 3).toInt) t60 t75), (v_X1_offerValues_78_21 a G G60 G75 so oq60 oq75), (v_X1_offerValues_78_22 a p0 p1 p2 G G60 G75 p3 x51 x66 ha hp0 hp1 hp2 so oq60 oq60a oq75 oq75a s0 c36 c44 t51 c54 t60 t66 c69 t75)⟩ hT
    · exact x_rv hx hb hr hlk hQ (Nat.le_of_ble_eq_true rfl) (Nat.le_of_ble_eq_true rfl) hS dX1_offerValues_47 G ⟨XFr.rf, (z_X1_offerValues_1 ((G.1 a 3).toInt)), (v_X1_offerValues_47_23 a G so), (v_X1_offerValues_47_24 a p0 p1 p2 G p3 ha hp0 hp1 hp2 so s0 c36 c44)⟩ hT

theorem z_X1_offerByRows_1 (a0 : Int) (a1 : Int) (h0 : 0 ≤ a1 ∧ a1 ≤ 2) (h1 : (a0 = 1 ∧ 0 ≤ a1 ∧ a1 < 3) ∨ (a0 = 0 ∧ (a1 < 0 ∨ 3 ≤ a1))) (h2 : a0 = 0) : (0 : Int) = 1 ∧ a0 = a0 := by omega
theorem z_X1_offerByRows_2 (a0 : Int) (h0 : 0 ≤ a0 ∧ a0 ≤ 2) : 0 ≤ a0 ∧ a0 < ((3 : Nat) : Int) := by omega
theorem z_X1_offerByRows_3 (a0 : Int) (h0 : a0 = 0) : 0 ≤ a0 ∧ a0 ≤ 60 := by omega
theorem z_X1_offerByRows_4 (a0 : Int) (a1 : Int) (h0 : a0 = 0) (h1 : a0 ≤ a1 ∧ a1 ≤ a0 + 30) : 0 ≤ a1 ∧ a1 ≤ 60 := by omega
theorem z_X1_offerByRows_5 (a0 : Int) (h0 : 0 ≤ a0 ∧ a0 ≤ 30) : ¬ (2147483648 - a0 < ((0 : Nat) : Int)) := by omega
theorem z_X1_offerByRows_6 (a0 : Int) (a1 : Int) (h0 : 0 ≤ a0 ∧ a0 ≤ 30) (h1 : 0 ≤ a1 ∧ a1 ≤ 2 * a0) : 0 ≤ a1 ∧ a1 ≤ 60 := by omega
theorem z_X1_offerByRows_7 (a0 : Int) (a1 : Int) (h0 : 0 ≤ a1 ∧ a1 ≤ 2 * a0) (h1 : ¬ ((30 : Int) ≤ a0)) : 0 ≤ a1 ∧ a1 ≤ 60 := by omega
theorem z_X1_offerByRows_8 (a0 : Int) (h0 : 0 ≤ a0 ∧ a0 ≤ 30) : 0 ≤ a0 ∧ a0 < 32 := by omega
theorem z_X1_offerByRows_9 (a0 : Int) (a1 : Int) (h0 : 0 ≤ a0 ∧ a0 ≤ 30) (h1 : a1 = (a0 + 1) ∨ (a0 + 1) < -2147483648 ∨ 2147483648 ≤ (a0 + 1)) : a1 = (a0 + 1) := by omega
theorem z_X1_offerByRows_10 (a0 : Int) (h0 : 0 ≤ a0 ∧ a0 ≤ 30) (h1 : ¬ ((30 : Int) ≤ a0)) : 0 ≤ (a0 + 1) ∧ (a0 + 1) ≤ 30 := by omega
theorem z_X1_offerByRows_11 (a0 : Int) (a1 : Int) (h0 : 0 ≤ a1 ∧ a1 ≤ 2 * a0) : 0 ≤ a1 ∧ a1 ≤ 2 * (a0 + 1) := by omega
theorem z_X1_offerByRows_12 (a0 : Int) (h0 : 0 ≤ a0 ∧ a0 ≤ 30) : (0 : Int) ≤ (a0 + 1) := by omega
theorem z_X1_offerByRows_13 (a0 : Int) (a1 : Nat) (h0 : 2147483648 - a0 < ((a1 + 1 : Nat) : Int)) : 2147483648 - (a0 + 1) < ((a1 : Nat) : Int) := by omega
theorem z_X1_offerByRows_14 (a0 : Int) (a1 : Int) (h0 : 0 ≤ a1 ∧ a1 ≤ 2 * a0) (h1 : ¬ ((30 : Int) ≤ a0)) : 0 ≤ a1 ∧ a1 ≤ 88 := by omega
theorem z_X1_offerByRows_17 (a0 : Int) (a1 : Int) (a2 : Int) (h0 : 0 ≤ a2 ∧ a2 ≤ 2 * a0) (h1 : a2 ≤ a1 ∧ a1 ≤ a2 + 2) : 0 ≤ a1 ∧ a1 ≤ 2 * (a0 + 1) := by omega
theorem z_X1_offerByRows_20 (a0 : Int) (h0 : a0 = 0) : 0 ≤ a0 ∧ a0 ≤ 2 * (0 : Int) := by omega
abbrev rm_X1_offerByRows : Room := { frames := 3, cells := 0, slots := 0, locals := 70 }
set_option maxHeartbeats 4000000 in
set_option maxRecDepth 100000 in
theorem c_X1_offerByRows (l : Launch) (E : XE) (K : Nat → Nat) (F : Nat → Nat → Nat) (G : XG) (a : Nat) (p0 : Nat) (p1 : Nat) (p2 : Nat) (ha : K a = 3) (hp0 : K p0 = 9) (hp1 : K p1 = 8) (hp2 : K p2 = 8) (s0 : ((G.1 a 3).toInt) = 0) (hrw : RW (G.1 p0)) : Met l yX1_offerByRows (xw yX1_offerByRows cX1_offerByRows 6 none) rm_X1_offerByRows (va_Pc [.ref a, .ref p0, .ref p1, .ref p2] (XP E K F G)) (XQv E (fun (u : XG) => XFr [(a, 3)] [F a 2] [] G u ∧ (0 ≤ ((u.1 a 3).toInt) ∧ ((u.1 a 3).toInt) ≤ 60) ∧ (SO (u.2.1 (F a 2)) ((u.1 a 3).toInt)) ∧ (∀ y : Int, MB (u.2.1 (F a 2)) ((u.1 a 3).toInt) y ↔ ((((G.1 p0 0).toInt) = 2 ∨ ((G.1 p0 0).toInt) = 5) ∧ 0 ≤ y ∧ y < 30 ∧ bI (aI (G.2.1 (F a 0)) ((G.1 p0 2).toInt)) y = 1) ∨ (¬ (((G.1 p0 0).toInt) = 2 ∨ ((G.1 p0 0).toInt) = 5) ∧ ∃ k : Int, 0 ≤ k ∧ k < 30 ∧ bI (aI (G.2.1 (F a 0)) ((G.1 p0 2).toInt)) k = 1 ∧ OV ((G.1 p0 0).toInt) (cel (vw (G.2.1 (F p1 0))) ((G.1 p0 2).toInt) k ((G.1 p0 3).toInt)) (cel (vw (G.2.1 (F p2 0))) ((G.1 p0 2).toInt) k ((G.1 p0 3).toInt)) y))) (fun u H => TW E K F u H)) 0 0 (xA E) := by
  refine x_enter (by decide) (Nat.le_of_ble_eq_true rfl) ?_
  intro p e s m args below meth c Q S hr hlk hnm hQ hP ls hl
  obtain ⟨hz, hK, hT⟩ := hP
  obtain ⟨hx, hb, -, -, -⟩ := id S
  obtain ⟨H, hT, hS, hgo⟩ : ∃ H : Heap, TW E K F G H ∧ va_S (xA E) s.heap H [] ∧ H = s.heap := ⟨_, hT, va_S.rf, rfl⟩
  rw [← hgo]
  have hl : lv_has ls 6 [(0, .ref a), (1, .ref p0), (2, .ref p1), (3, .ref p2)] := hl
  obtain ⟨hk9999, hj9999⟩ := fkX1_2 hT ha
  obtain ⟨hk9999a, hj9999a⟩ := fkX6_0 hT hp1
  obtain ⟨hk9999b, hj9999b⟩ := fkX6_0 hT hp2
  obtain ⟨hk9999c, hj9999c⟩ := fkX1_0 hT ha
  have z0 : (0 ≤ ((G.1 p0 0).toInt) ∧ ((G.1 p0 0).toInt) ≤ 5) ∧ (0 ≤ ((G.1 p0 2).toInt) ∧ ((G.1 p0 2).toInt) ≤ 2) ∧ (0 ≤ ((G.1 p0 3).toInt) ∧ ((G.1 p0 3).toInt) ≤ 2) ∧ (-1 ≤ ((G.1 p0 4).toInt) ∧ ((G.1 p0 4).toInt) ≤ 2) ∧ (((G.1 p0 0).toInt) = 1 ∨ ((G.1 p0 0).toInt) = 3 ∨ ((G.1 p0 0).toInt) = 4 → 0 ≤ ((G.1 p0 4).toInt)) := RW.f hrw
  refine lv_aload_n hx hb dX1_offerByRows_0 rfl (lv_at hl 1 rfl) ?_
  refine gX7_2 S hK hT hp0 kf_X1_73 dX1_offerByRows_1 (v := (G.1 p0 2)) rfl (?_)
  refine x_clp (x_runSN (As := [.int (G.1 p0 2)]) (rest := []) S (c_X10_isTable l E K F G H (G.1 p0 2)) ms_X10_isTable (by decide +kernel) rfl rfl ⟨Nat.le_of_ble_eq_true rfl, Nat.le_of_ble_eq_true rfl⟩ hK (fun _ => XPh.blind) (fun U hU hW => XPh.at hK hz hS hT hU hW) rfl hl.1 (Nat.le_of_ble_eq_true rfl) dX1_offerByRows_4 ⟨Nat.le_of_ble_eq_true rfl, Nat.le_of_ble_eq_true rfl⟩) hS ?_
  rintro _ _ locs ⟨x4, rfl, b4, t4⟩ hS
  have t4 : (x4.toInt = 1 ∧ 0 ≤ ((G.1 p0 2).toInt) ∧ ((G.1 p0 2).toInt) < 3) ∨ (x4.toInt = 0 ∧ (((G.1 p0 2).toInt) < 0 ∨ 3 ≤ ((G.1 p0 2).toInt))) := t4
  refine xi_zeq (tgt := 22) hx hb (rfl : Int32.toInt x4 = x4.toInt) dX1_offerByRows_7 (by decide) (fun c7 => ?_) (fun c7 => ?_)
  · exact absurd ((z_X1_offerByRows_1 x4.toInt ((G.1 p0 2).toInt) (z0).2.1 t4 c7)).1 (by decide)
  · refine lv_aload_n hx hb dX1_offerByRows_10 rfl (lv_at hl 0 rfl) ?_
    refine gX1_0 S hK hT ha kf_X1_9 dX1_offerByRows_11 (fun _ _ => ?_)
    refine lv_aload_n hx hb dX1_offerByRows_14 rfl (lv_at hl 1 rfl) ?_
    refine gX7_2 S hK hT hp0 kf_X1_73 dX1_offerByRows_15 (v := (G.1 p0 2)) rfl (?_)
    refine al_0 S hK hT hk9999c ar_21 (by decide) (z_X1_offerByRows_2 ((G.1 p0 2).toInt) (z0).2.1) dX1_offerByRows_18 (fun x18 hv18 o18 => ?_)
    have hv18 : x18.toInt = (aI (G.2.1 (F a 0)) ((G.1 p0 2).toInt)) := hv18.trans (by rw [(rfl : Int32.toInt (G.1 p0 2) = ((G.1 p0 2).toInt))])
    refine lv_goto (tgt := 23) hx hb dX1_offerByRows_19 (by decide) ?_
    refine lv_istore (lv' := [(4, .int x18), (0, .ref a), (1, .ref p0), (2, .ref p1), (3, .ref p2)]) hx hb dX1_offerByRows_23 hl (by decide) rfl (fun ls hl => ?_)
    refine lv_aload_n hx hb dX1_offerByRows_25 rfl (lv_at hl 2 rfl) ?_
    refine gX7_0 S hK hT hp0 kf_X1_76 dX1_offerByRows_26 (v := (G.1 p0 0)) rfl (?_)
    refine lv_iconst (v := 2) hx hb dX1_offerByRows_29 (by decide) ?_
    refine xi_ceq (tgt := 41) hx hb (rfl : Int32.toInt (G.1 p0 0) = ((G.1 p0 0).toInt)) ((by decide) : Int32.toInt 2 = (2 : Int)) dX1_offerByRows_30 (by decide) (fun c30 => ?_) (fun c30 => ?_)
    · refine lv_aload_n hx hb dX1_offerByRows_41 rfl (lv_at hl 1 rfl) ?_
      refine lv_iload hx hb dX1_offerByRows_42 (lv_at hl 0 rfl) ?_
      refine x_cv0 (x_runV (b := a) (As := [.int x18]) (rest := []) S (c_X1_offerKeys l E K F G a x18 ha (z_X1_offerByRows_3 ((G.1 a 3).toInt) s0) (v_X1_offerByRows_44_1 a p0 p1 p2 G x4 ha hp0 hp1 hp2 s0 z0 t4 c7 c30)) mv_X1_offerKeys km_X1_55 rfl rfl ⟨Nat.le_of_ble_eq_true rfl, Nat.le_of_ble_eq_true rfl⟩ (rc_3 hK hT ha) hK (fun _ => XP.blind) (fun U hU hW => XP.at hK hz hS hT hU hW) rfl hl.1 (Nat.le_of_ble_eq_true rfl) dX1_offerByRows_44 ⟨Nat.le_of_ble_eq_true rfl, Nat.le_of_ble_eq_true rfl⟩) hS ?_
      rintro G44 H locs ⟨hF44, t44, oq44, oq44a⟩ hT hS
      have t44 : ((G.1 a 3).toInt) ≤ ((G44.1 a 3).toInt) ∧ ((G44.1 a 3).toInt) ≤ ((G.1 a 3).toInt) + 30 := t44
      have oq44a : ∀ y : Int, MB (G44.2.1 (F a 2)) ((G44.1 a 3).toInt) y ↔ MB (G.2.1 (F a 2)) ((G.1 a 3).toInt) y ∨ (0 ≤ y ∧ y < 30 ∧ bI (aI (G.2.1 (F a 0)) ((G.1 p0 2).toInt)) y = 1) := by simp only [(hv18 : Int32.toInt x18 = (aI (G.2.1 (F a 0)) ((G.1 p0 2).toInt)))] at oq44a; exact oq44a
      exact x_rv hx hb hr hlk hQ (Nat.le_of_ble_eq_true rfl) (Nat.le_of_ble_eq_true rfl) hS dX1_offerByRows_47 G44 ⟨(XFr.call XFr.rf hF44 (xm1 0 rfl xm0) (xm1 0 rfl xm0) xm0), (z_X1_offerByRows_4 ((G.1 a 3).toInt) ((G44.1 a 3).toInt) s0 t44), (v_X1_offerByRows_47_2 a G44 oq44), (v_X1_offerByRows_47_3 a p0 p1 p2 G G44 x18 x4 ha hp0 hp1 hp2 hv18 oq44 oq44a s0 z0 t4 c7 c30 t44)⟩ hT
    · refine lv_aload_n hx hb dX1_offerByRows_33 rfl (lv_at hl 2 rfl) ?_
      refine gX7_0 S hK hT hp0 kf_X1_76 dX1_offerByRows_34 (v := (G.1 p0 0)) rfl (?_)
      refine lv_iconst (v := 5) hx hb dX1_offerByRows_37 (by decide) ?_
      refine xi_cne (tgt := 48) hx hb (rfl : Int32.toInt (G.1 p0 0) = ((G.1 p0 0).toInt)) ((by decide) : Int32.toInt 5 = (5 : Int)) dX1_offerByRows_38 (by decide) (fun c38 => ?_) (fun c38 => ?_)
      · refine lv_iconst (v := 0) hx hb dX1_offerByRows_48 (by decide) ?_
        refine lv_istore (lv' := [(5, .int 0), (4, .int x18), (0, .ref a), (1, .ref p0), (2, .ref p1), (3, .ref p2)]) hx hb dX1_offerByRows_49 hl (by decide) rfl (fun ls hl => ?_)
        have L51 : ∀ (N51 : Nat) (l5_51 : Int32) (G_51 : XG) (H : Heap) (locs : List Loc) (ls : Array Slot), XFr [(a, 3)] [F a 2] [] G G_51 → SO (G_51.2.1 (F a 2)) ((G_51.1 a 3).toInt) → (∀ y : Int, MB (G_51.2.1 (F a 2)) ((G_51.1 a 3).toInt) y ↔ ∃ k : Int, 0 ≤ k ∧ k < l5_51.toInt ∧ bI (aI (G.2.1 (F a 0)) ((G.1 p0 2).toInt)) k = 1 ∧ OV ((G.1 p0 0).toInt) (cel (vw (G.2.1 (F p1 0))) ((G.1 p0 2).toInt) k ((G.1 p0 3).toInt)) (cel (vw (G.2.1 (F p2 0))) ((G.1 p0 2).toInt) k ((G.1 p0 3).toInt)) y) → 0 ≤ l5_51.toInt ∧ l5_51.toInt ≤ 30 → 0 ≤ ((G_51.1 a 3).toInt) ∧ ((G_51.1 a 3).toInt) ≤ 2 * l5_51.toInt → (0 : Int) ≤ l5_51.toInt → 2147483648 - l5_51.toInt < ((N51 : Nat) : Int) → TW E K F G_51 H → va_S (xA E) s.heap H locs → lv_has ls 6 [(0, .ref a), (1, .ref p0), (2, .ref p1), (3, .ref p2), (4, .int x18), (5, .int l5_51)] → W p l e rm_X1_offerByRows s m args below meth c H locs 0 0 Q (F0 m 51 ls []) := by
          intro N51
          induction N51 with
          | zero =>
            intro l5_51 G_51 H locs ls hF_51 ps pm I51_0 I51_1 I51_2 hm51
            exact absurd hm51 (z_X1_offerByRows_5 l5_51.toInt I51_0)
          | succ N51 ih51 =>
            intro l5_51 G_51 H locs ls hF_51 ps pm I51_0 I51_1 I51_2 hm51 hT hS hl
            refine lv_iload hx hb dX1_offerByRows_51 (lv_at hl 5 rfl) ?_
            refine lv_bipush (v := 30) hx hb dX1_offerByRows_53 (by decide) ?_
            refine xi_cge (tgt := 91) hx hb (rfl : Int32.toInt l5_51 = l5_51.toInt) ((by decide) : Int32.toInt 30 = (30 : Int)) dX1_offerByRows_55 (by decide) (fun c55 => ?_) (fun c55 => ?_)
            · exact x_rv hx hb hr hlk hQ (Nat.le_of_ble_eq_true rfl) (Nat.le_of_ble_eq_true rfl) hS dX1_offerByRows_91 G_51 ⟨(XFr.call XFr.rf hF_51 (xm1 0 rfl xm0) (xm1 0 rfl xm0) xm0), (z_X1_offerByRows_6 l5_51.toInt ((G_51.1 a 3).toInt) I51_0 I51_1), (v_X1_offerByRows_91_4 a G_51 ps), (v_X1_offerByRows_91_5 a p0 p1 p2 G G_51 x18 l5_51 x4 N51 ha hp0 hp1 hp2 hv18 ps pm s0 z0 t4 c7 c30 c38 I51_0 I51_1 I51_2 hm51 c55)⟩ hT
            · refine lv_iload hx hb dX1_offerByRows_58 (lv_at hl 4 rfl) ?_
              refine lv_iload hx hb dX1_offerByRows_60 (lv_at hl 5 rfl) ?_
              refine lv_ishr hx hb dX1_offerByRows_62 (lv_topi (fun x62 he62 => ?_))
              refine xi_zeq (tgt := 91) hx hb (rfl : Int32.toInt x62 = x62.toInt) dX1_offerByRows_63 (by decide) (fun c63 => ?_) (fun c63 => ?_)
              · exact x_rv hx hb hr hlk hQ (Nat.le_of_ble_eq_true rfl) (Nat.le_of_ble_eq_true rfl) hS dX1_offerByRows_91 G_51 ⟨(XFr.call XFr.rf hF_51 (xm1 0 rfl xm0) (xm1 0 rfl xm0) xm0), (z_X1_offerByRows_7 l5_51.toInt ((G_51.1 a 3).toInt) I51_1 c55), (v_X1_offerByRows_91_6 a G_51 ps), (v_X1_offerByRows_91_7 a p0 p1 p2 G G_51 x18 l5_51 x62 x4 N51 ha hp0 hp1 hp2 hv18 ps pm he62 s0 z0 t4 c7 c30 c38 I51_0 I51_1 I51_2 hm51 c55 c63)⟩ hT
              · refine lv_iload hx hb dX1_offerByRows_66 (lv_at hl 4 rfl) ?_
                refine lv_iload hx hb dX1_offerByRows_68 (lv_at hl 5 rfl) ?_
                refine lv_ishr hx hb dX1_offerByRows_70 (lv_topi (fun x70 he70 => ?_))
                refine lv_iconst (v := 1) hx hb dX1_offerByRows_71 (by decide) ?_
                refine lv_iand hx hb dX1_offerByRows_72 (lv_topi (fun x72 he72 => ?_))
                have hb72 : x72.toInt = (bI (aI (G.2.1 (F a 0)) ((G.1 p0 2).toInt)) (l5_51.toInt)) := bI_and he70 he72 (hv18 : Int32.toInt x18 = (aI (G.2.1 (F a 0)) ((G.1 p0 2).toInt))) (rfl : Int32.toInt l5_51 = l5_51.toInt) (z_X1_offerByRows_8 l5_51.toInt I51_0)
                have hb72a : x72.toInt = 0 ∨ x72.toInt = 1 := by rw [hb72]; exact bI01 _ _
                refine xi_zeq (tgt := 85) hx hb (rfl : Int32.toInt x72 = x72.toInt) dX1_offerByRows_73 (by decide) (fun c73 => ?_) (fun c73 => ?_)
                · refine xi_iinc (n := 1) (lv' := fun z9 => [(5, .int z9), (0, .ref a), (1, .ref p0), (2, .ref p1), (3, .ref p2), (4, .int x18)]) (k := 5) hx hb (rfl : Int32.toInt l5_51 = l5_51.toInt) (by decide) dX1_offerByRows_85 hl rfl (by decide) (fun _ => rfl) (fun x85 ls t85 hl => ?_)
                  have e85 : x85.toInt = (l5_51.toInt + 1) := (z_X1_offerByRows_9 l5_51.toInt x85.toInt I51_0 t85)
                  have hl : lv_has ls 6 [(5, .int x85), (0, .ref a), (1, .ref p0), (2, .ref p1), (3, .ref p2), (4, .int x18)] := hl
                  refine lv_goto (tgt := 51) hx hb dX1_offerByRows_88 (by decide) ?_
                  exact ih51 x85 G_51 _ _ _ (XFr.call XFr.rf hF_51 (xm1 0 rfl xm0) (xm1 0 rfl xm0) xm0) (v_X1_offerByRows_88_8 a G_51 ps) (by rw [(e85 : Int32.toInt x85 = (l5_51.toInt + 1))] <;> exact (v_X1_offerByRows_88_9 a p0 p1 p2 G G_51 x18 l5_51 x62 x70 x72 x4 N51 ha hp0 hp1 hp2 hv18 ps pm he62 he70 he72 s0 z0 t4 c7 c30 c38 I51_0 I51_1 I51_2 hm51 c55 c63 hb72 hb72a c73)) (by rw [(e85 : Int32.toInt x85 = (l5_51.toInt + 1))] <;> exact (z_X1_offerByRows_10 l5_51.toInt I51_0 c55)) (by rw [(e85 : Int32.toInt x85 = (l5_51.toInt + 1))] <;> exact (z_X1_offerByRows_11 l5_51.toInt ((G_51.1 a 3).toInt) I51_1)) (by rw [(e85 : Int32.toInt x85 = (l5_51.toInt + 1))] <;> exact (z_X1_offerByRows_12 l5_51.toInt I51_0)) (by rw [(e85 : Int32.toInt x85 = (l5_51.toInt + 1))] <;> exact (z_X1_offerByRows_13 l5_51.toInt N51 hm51)) hT hS (lv_sub hl [1, 2, 3, 4, 5, 0] rfl)
                · refine lv_aload_n hx hb dX1_offerByRows_76 rfl (lv_at hl 0 rfl) ?_
                  refine lv_aload_n hx hb dX1_offerByRows_77 rfl (lv_at hl 1 rfl) ?_
                  refine lv_aload_n hx hb dX1_offerByRows_78 rfl (lv_at hl 2 rfl) ?_
                  refine lv_aload_n hx hb dX1_offerByRows_79 rfl (lv_at hl 3 rfl) ?_
                  refine lv_iload hx hb dX1_offerByRows_80 (lv_at hl 5 rfl) ?_
                  refine x_cv0 (x_runV (b := a) (As := [.ref p0, .ref p1, .ref p2, .int l5_51]) (rest := []) S (c_X1_offerValues l E K F G_51 a p0 p1 p2 l5_51 ha hp0 hp1 hp2 (z_X1_offerByRows_14 l5_51.toInt ((G_51.1 a 3).toInt) I51_1 c55) (v_X1_offerByRows_82_10 a G_51 ps)) mv_X1_offerValues km_X1_79 rfl rfl ⟨Nat.le_of_ble_eq_true rfl, Nat.le_of_ble_eq_true rfl⟩ (rc_3 hK hT ha) hK (fun _ => XP.blind) (fun U hU hW => XP.at hK hz hS hT hU hW) rfl hl.1 (Nat.le_of_ble_eq_true rfl) dX1_offerByRows_82 ⟨Nat.le_of_ble_eq_true rfl, Nat.le_of_ble_eq_true rfl⟩) hS ?_
                  rintro G82 H locs ⟨hF82, t82, oq82, oq82a⟩ hT hS
                  have t82 : ((G_51.1 a 3).toInt) ≤ ((G82.1 a 3).toInt) ∧ ((G82.1 a 3).toInt) ≤ ((G_51.1 a 3).toInt) + 2 := t82
                  have oq82a : ∀ y : Int, MB (G82.2.1 (F a 2)) ((G82.1 a 3).toInt) y ↔ MB (G_51.2.1 (F a 2)) ((G_51.1 a 3).toInt) y ∨ OV ((G.1 p0 0).toInt) (cel (vw (G.2.1 (F p1 0))) ((G.1 p0 2).toInt) (l5_51.toInt) ((G.1 p0 3).toInt)) (cel (vw (G.2.1 (F p2 0))) ((G.1 p0 2).toInt) (l5_51.toInt) ((G.1 p0 3).toInt)) y := by simp only [(show G_51.1 p0 0 = G.1 p0 0 from (hF_51.1 _ _ (xnj (by decide) xn0))), (show G_51.2.1 (F p1 0) = G.2.1 (F p1 0) from (hF_51.2.1 _ (xn1 (xne_k hk9999a hk9999 (by decide)) xn0))), (show G_51.1 p0 2 = G.1 p0 2 from (hF_51.1 _ _ (xnj (by decide) xn0))), (show G_51.1 p0 3 = G.1 p0 3 from (hF_51.1 _ _ (xna (xne_k hp0 ha (by decide)) xn0))), (show G_51.2.1 (F p2 0) = G.2.1 (F p2 0) from (hF_51.2.1 _ (xn1 (xne_k hk9999b hk9999 (by decide)) xn0)))] at oq82a; exact oq82a
                  refine xi_iinc (n := 1) (lv' := fun z9 => [(5, .int z9), (0, .ref a), (1, .ref p0), (2, .ref p1), (3, .ref p2), (4, .int x18)]) (k := 5) hx hb (rfl : Int32.toInt l5_51 = l5_51.toInt) (by decide) dX1_offerByRows_85 hl rfl (by decide) (fun _ => rfl) (fun x85 ls t85 hl => ?_)
                  have e85 : x85.toInt = (l5_51.toInt + 1) := (z_X1_offerByRows_9 l5_51.toInt x85.toInt I51_0 t85)
                  have hl : lv_has ls 6 [(5, .int x85), (0, .ref a), (1, .ref p0), (2, .ref p1), (3, .ref p2), (4, .int x18)] := hl
                  refine lv_goto (tgt := 51) hx hb dX1_offerByRows_88 (by decide) ?_
                  exact ih51 x85 G82 _ _ _ (XFr.call (XFr.call XFr.rf hF_51 (xm1 0 rfl xm0) (xm1 0 rfl xm0) xm0) hF82 (xm1 0 rfl xm0) (xm1 0 rfl xm0) xm0) (v_X1_offerByRows_88_11 a G_51 G82 ps oq82) (by rw [(e85 : Int32.toInt x85 = (l5_51.toInt + 1))] <;> exact (v_X1_offerByRows_88_12 a p0 p1 p2 G G_51 G82 x18 l5_51 x62 x70 x72 x4 N51 ha hp0 hp1 hp2 hv18 ps pm he62 he70 he72 oq82 oq82a s0 z0 t4 c7 c30 c38 I51_0 I51_1 I51_2 hm51 c55 c63 hb72 hb72a c73 t82)) (by rw [(e85 : Int32.toInt x85 = (l5_51.toInt + 1))] <;> exact (z_X1_offerByRows_10 l5_51.toInt I51_0 c55)) (by rw [(e85 : Int32.toInt x85 = (l5_51.toInt + 1))] <;> exact (z_X1_offerByRows_17 l5_51.toInt ((G82.1 a 3).toInt) ((G_51.1 a 3).toInt) I51_1 t82)) (by rw [(e85 : Int32.toInt x85 = (l5_51.toInt + 1))] <;> exact (z_X1_offerByRows_12 l5_51.toInt I51_0)) (by rw [(e85 : Int32.toInt x85 = (l5_51.toInt + 1))] <;> exact (z_X1_offerByRows_13 l5_51.toInt N51 hm51)) hT hS (lv_sub hl [1, 2, 3, 4, 5, 0] rfl)
        exact L51 4294967297 0 G _ _ _ XFr.rf (v_X1_offerByRows_49_13 a p0 p1 p2 G x4 ha hp0 hp1 hp2 s0 z0 t4 c7 c30 c38) (v_X1_offerByRows_49_14 a p0 p1 p2 G x4 ha hp0 hp1 hp2 s0 z0 t4 c7 c30 c38) (by decide) (z_X1_offerByRows_20 ((G.1 a 3).toInt) s0) (by decide) (by decide) hT hS (lv_sub hl [2, 3, 4, 5, 1, 0] rfl)
      · refine lv_aload_n hx hb dX1_offerByRows_41 rfl (lv_at hl 1 rfl) ?_
        refine lv_iload hx hb dX1_offerByRows_42 (lv_at hl 0 rfl) ?_
        refine x_cv0 (x_runV (b := a) (As := [.int x18]) (rest := []) S (c_X1_offerKeys l E K F G a x18 ha (z_X1_offerByRows_3 ((G.1 a 3).toInt) s0) (v_X1_offerByRows_44_15 a p0 p1 p2 G x4 ha hp0 hp1 hp2 s0 z0 t4 c7 c30 c38)) mv_X1_offerKeys km_X1_55 rfl rfl ⟨Nat.le_of_ble_eq_true rfl, Nat.le_of_ble_eq_true rfl⟩ (rc_3 hK hT ha) hK (fun _ => XP.blind) (fun U hU hW => XP.at hK hz hS hT hU hW) rfl hl.1 (Nat.le_of_ble_eq_true rfl) dX1_offerByRows_44 ⟨Nat.le_of_ble_eq_true rfl, Nat.le_of_ble_eq_true rfl⟩) hS ?_
        rintro G44 H locs ⟨hF44, t44, oq44, oq44a⟩ hT hS
        have t44 : ((G.1 a 3).toInt) ≤ ((G44.1 a 3).toInt) ∧ ((G44.1 a 3).toInt) ≤ ((G.1 a 3).toInt) + 30 := t44
        have oq44a : ∀ y : Int, MB (G44.2.1 (F a 2)) ((G44.1 a 3).toInt) y ↔ MB (G.2.1 (F a 2)) ((G.1 a 3).toInt) y ∨ (0 ≤ y ∧ y < 30 ∧ bI (aI (G.2.1 (F a 0)) ((G.1 p0 2).toInt)) y = 1) := by simp only [(hv18 : Int32.toInt x18 = (aI (G.2.1 (F a 0)) ((G.1 p0 2).toInt)))] at oq44a; exact oq44a
        exact x_rv hx hb hr hlk hQ (Nat.le_of_ble_eq_true rfl) (Nat.le_of_ble_eq_true rfl) hS dX1_offerByRows_47 G44 ⟨(XFr.call XFr.rf hF44 (xm1 0 rfl xm0) (xm1 0 rfl xm0) xm0), (z_X1_offerByRows_4 ((G.1 a 3).toInt) ((G44.1 a 3).toInt) s0 t44), (v_X1_offerByRows_47_16 a G44 oq44), (v_X1_offerByRows_47_17 a p0 p1 p2 G G44 x18 x4 ha hp0 hp1 hp2 hv18 oq44 oq44a s0 z0 t4 c7 c30 c38 t44)⟩ hT

theorem z_X1_ofAllRows_1 (a0 : Int) (h0 : 0 ≤ a0 ∧ a0 ≤ 3) : ¬ (2147483648 - a0 < ((0 : Nat) : Int)) := by omega
theorem z_X1_ofAllRows_2 (a0 : Int) (h0 : 0 ≤ a0 ∧ a0 ≤ 3) (h1 : ¬ ((3 : Int) ≤ a0)) : 0 ≤ a0 ∧ a0 < ((3 : Nat) : Int) := by omega
theorem z_X1_ofAllRows_4 (a0 : Int) (h0 : 0 ≤ a0 ∧ a0 ≤ 3) : 0 ≤ a0 := by omega
theorem z_X1_ofAllRows_8 (a0 : Int) (a1 : Int) (h0 : 0 ≤ a0 ∧ a0 ≤ 3) (h1 : a1 = (a0 + 1) ∨ (a0 + 1) < -2147483648 ∨ 2147483648 ≤ (a0 + 1)) : a1 = (a0 + 1) := by omega
theorem z_X1_ofAllRows_9 (a0 : Int) (h0 : 0 ≤ a0 ∧ a0 ≤ 3) (h1 : ¬ ((3 : Int) ≤ a0)) : 0 ≤ (a0 + 1) ∧ (a0 + 1) ≤ 3 := by omega
theorem z_X1_ofAllRows_10 (a0 : Int) (h0 : 0 ≤ a0 ∧ a0 ≤ 3) : (0 : Int) ≤ (a0 + 1) := by omega
abbrev rm_X1_ofAllRows : Room := { frames := 3, cells := 0, slots := 0, locals := 68 }
set_option maxHeartbeats 4000000 in
set_option maxRecDepth 100000 in
theorem c_X1_ofAllRows (l : Launch) (E : XE) (K : Nat → Nat) (F : Nat → Nat → Nat) (G : XG) (a : Nat) (p0 : Nat) (p1 : Nat) (ha : K a = 3) (hp0 : K p0 = 8) (hp1 : K p1 = 8) (ro1 : RO (vw (G.2.1 (F p0 0))) (aI (G.2.1 (F p0 1)))) (ro2 : RO (vw (G.2.1 (F p1 0))) (aI (G.2.1 (F p1 1)))) (j0 : F p0 99 < 12) (j1 : F p1 99 < 12) : Met l yX1_ofAllRows (xw yX1_ofAllRows cX1_ofAllRows 6 none) rm_X1_ofAllRows (va_Pc [.ref a, .ref p0, .ref p1] (XP E K F G)) (XQv E (fun (u : XG) => XFr [] [F a 0, F a 1] [] G u ∧ (CH (vw (G.2.1 (F p0 0))) (vw (G.2.1 (F p1 0))) (aI (u.2.1 (F a 1))) (aI (u.2.1 (F a 0))))) (fun u H => TW E K F u H)) 0 0 (xA E) := by
  refine x_enter (by decide) (Nat.le_of_ble_eq_true rfl) ?_
  intro p e s m args below meth c Q S hr hlk hnm hQ hP ls hl
  obtain ⟨hz, hK, hT⟩ := hP
  obtain ⟨hx, hb, -, -, -⟩ := id S
  obtain ⟨H, hT, hS, hgo⟩ : ∃ H : Heap, TW E K F G H ∧ va_S (xA E) s.heap H [] ∧ H = s.heap := ⟨_, hT, va_S.rf, rfl⟩
  rw [← hgo]
  have hl : lv_has ls 6 [(0, .ref a), (1, .ref p0), (2, .ref p1)] := hl
  obtain ⟨hk9999, hj9999⟩ := fkX1_0 hT ha
  obtain ⟨hk9999a, hj9999a⟩ := fkX1_1 hT ha
  obtain ⟨hk9999b, hj9999b⟩ := fkX6_0 hT hp0
  obtain ⟨hk9999c, hj9999c⟩ := fkX6_1 hT hp0
  obtain ⟨hk9999d, hj9999d⟩ := fkX6_0 hT hp1
  obtain ⟨hk9999e, hj9999e⟩ := fkX6_1 hT hp1
  refine lv_iconst (v := 0) hx hb dX1_ofAllRows_0 (by decide) ?_
  refine lv_istore_n (lv' := [(3, .int 0), (0, .ref a), (1, .ref p0), (2, .ref p1)]) hx hb dX1_ofAllRows_1 rfl hl (by decide) rfl (fun ls hl => ?_)
  have L2 : ∀ (N2 : Nat) (l3_2 : Int32) (G_2 : XG) (H : Heap) (locs : List Loc) (ls : Array Slot), XFr [] [F a 0, F a 1] [] G G_2 → (∀ t : Int, 0 ≤ t → t < l3_2.toInt → CHt (vw (G.2.1 (F p0 0))) (vw (G.2.1 (F p1 0))) (aI (G_2.2.1 (F a 1))) (aI (G_2.2.1 (F a 0))) t) → 0 ≤ l3_2.toInt ∧ l3_2.toInt ≤ 3 → (0 : Int) ≤ l3_2.toInt → 2147483648 - l3_2.toInt < ((N2 : Nat) : Int) → TW E K F G_2 H → va_S (xA E) s.heap H locs → lv_has ls 6 [(0, .ref a), (1, .ref p0), (2, .ref p1), (3, .int l3_2)] → W p l e rm_X1_ofAllRows s m args below meth c H locs 0 0 Q (F0 m 2 ls []) := by
    intro N2
    induction N2 with
    | zero =>
      intro l3_2 G_2 H locs ls hF_2 pc I2_0 I2_1 hm2
      exact absurd hm2 (z_X1_ofAllRows_1 l3_2.toInt I2_0)
    | succ N2 ih2 =>
      intro l3_2 G_2 H locs ls hF_2 pc I2_0 I2_1 hm2 hT hS hl
      refine lv_iload_n hx hb dX1_ofAllRows_2 rfl (lv_at hl 3 rfl) ?_
      refine lv_iconst (v := 3) hx hb dX1_ofAllRows_3 (by decide) ?_
      refine xi_cge (tgt := 105) hx hb (rfl : Int32.toInt l3_2 = l3_2.toInt) ((by decide) : Int32.toInt 3 = (3 : Int)) dX1_ofAllRows_4 (by decide) (fun c4 => ?_) (fun c4 => ?_)
      · exact x_rv hx hb hr hlk hQ (Nat.le_of_ble_eq_true rfl) (Nat.le_of_ble_eq_true rfl) hS dX1_ofAllRows_105 G_2 ⟨(XFr.call XFr.rf hF_2 xm0 (xm1 0 rfl (xm1 1 rfl xm0)) xm0), (v_X1_ofAllRows_105_1 a p0 p1 G G_2 l3_2 N2 ha hp0 hp1 j0 j1 pc I2_0 I2_1 hm2 c4)⟩ hT
      · refine lv_aload_n hx hb dX1_ofAllRows_7 rfl (lv_at hl 0 rfl) ?_
        refine gX1_1 S hK hT ha kf_X1_15 dX1_ofAllRows_8 (fun _ _ => ?_)
        refine lv_iload_n hx hb dX1_ofAllRows_11 rfl (lv_at hl 3 rfl) ?_
        refine lv_aload_n hx hb dX1_ofAllRows_12 rfl (lv_at hl 1 rfl) ?_
        refine lv_iload_n hx hb dX1_ofAllRows_13 rfl (lv_at hl 3 rfl) ?_
        refine x_clp (x_runV (b := p0) (As := [.int l3_2]) (rest := [.int l3_2, .ref (F a 1)]) S (c_X6_keyBits l E K F G_2 H p0 l3_2 hp0) mv_X6_keyBits km_X1_21 rfl rfl ⟨Nat.le_of_ble_eq_true rfl, Nat.le_of_ble_eq_true rfl⟩ (rc_8 hK hT hp0) hK (fun _ => XPh.blind) (fun U hU hW => XPh.at hK hz hS hT hU hW) rfl hl.1 (Nat.le_of_ble_eq_true rfl) dX1_ofAllRows_14 ⟨Nat.le_of_ble_eq_true rfl, Nat.le_of_ble_eq_true rfl⟩) hS ?_
        rintro _ _ locs ⟨x14, rfl, t14⟩ hS
        have t14 : (0 ≤ l3_2.toInt ∧ l3_2.toInt < 3 ∧ x14.toInt = (aI (G.2.1 (F p0 1)) (l3_2.toInt))) ∨ ((l3_2.toInt < 0 ∨ 3 ≤ l3_2.toInt) ∧ x14.toInt = 0) := by rw [(show G_2.2.1 (F p0 1) = G.2.1 (F p0 1) from (hF_2.2.1 _ (xn1 (xne_j hj9999c hj9999 (by first | decide | omega)) (xn1 (xne_j hj9999c hj9999a (by first | decide | omega)) xn0))))] at t14; exact t14
        refine lv_aload_n hx hb dX1_ofAllRows_17 rfl (lv_at hl 2 rfl) ?_
        refine lv_iload_n hx hb dX1_ofAllRows_18 rfl (lv_at hl 3 rfl) ?_
        refine x_clp (x_runV (b := p1) (As := [.int l3_2]) (rest := [.int x14, .int l3_2, .ref (F a 1)]) S (c_X6_keyBits l E K F G_2 H p1 l3_2 hp1) mv_X6_keyBits km_X1_21 rfl rfl ⟨Nat.le_of_ble_eq_true rfl, Nat.le_of_ble_eq_true rfl⟩ (rc_8 hK hT hp1) hK (fun _ => XPh.blind) (fun U hU hW => XPh.at hK hz hS hT hU hW) rfl hl.1 (Nat.le_of_ble_eq_true rfl) dX1_ofAllRows_19 ⟨Nat.le_of_ble_eq_true rfl, Nat.le_of_ble_eq_true rfl⟩) hS ?_
        rintro _ _ locs ⟨x19, rfl, t19⟩ hS
        have t19 : (0 ≤ l3_2.toInt ∧ l3_2.toInt < 3 ∧ x19.toInt = (aI (G.2.1 (F p1 1)) (l3_2.toInt))) ∨ ((l3_2.toInt < 0 ∨ 3 ≤ l3_2.toInt) ∧ x19.toInt = 0) := by rw [(show G_2.2.1 (F p1 1) = G.2.1 (F p1 1) from (hF_2.2.1 _ (xn1 (xne_j hj9999e hj9999 (by first | decide | omega)) (xn1 (xne_j hj9999e hj9999a (by first | decide | omega)) xn0))))] at t19; exact t19
        refine lv_ixor hx hb dX1_ofAllRows_22 (lv_topi (fun x22 he22 => ?_))
        refine as_0 (x := x22) S hK hT hS hk9999a ar_21 aw_21 (by decide) (z_X1_ofAllRows_2 l3_2.toInt I2_0 c4) dX1_ofAllRows_23 (fun H locs hT hS => ?_)
        obtain ⟨G23, hG23⟩ : ∃ G9 : XG, G9 = cput G_2 (F a 1) l3_2.toNatClampNeg x22 := ⟨_, rfl⟩
        rw [← hG23] at hT
        refine lv_aload_n hx hb dX1_ofAllRows_24 rfl (lv_at hl 0 rfl) ?_
        refine gX1_0 S hK hT ha kf_X1_9 dX1_ofAllRows_25 (fun _ _ => ?_)
        refine lv_iload_n hx hb dX1_ofAllRows_28 rfl (lv_at hl 3 rfl) ?_
        refine lv_aload_n hx hb dX1_ofAllRows_29 rfl (lv_at hl 0 rfl) ?_
        refine gX1_1 S hK hT ha kf_X1_15 dX1_ofAllRows_30 (fun _ _ => ?_)
        refine lv_iload_n hx hb dX1_ofAllRows_33 rfl (lv_at hl 3 rfl) ?_
        refine al_0 S hK hT hk9999a ar_21 (by decide) (z_X1_ofAllRows_2 l3_2.toInt I2_0 c4) dX1_ofAllRows_34 (fun x34 hv34 o34 => ?_)
        have hv34 : x34.toInt = (aI (G23.2.1 (F a 1)) (l3_2.toInt)) := hv34.trans (by rw [(rfl : Int32.toInt l3_2 = l3_2.toInt)])
        have hc34 : (l3_2.toInt = l3_2.toInt → (aI (G23.2.1 (F a 1)) (l3_2.toInt)) = x22.toInt) ∧ (l3_2.toInt ≠ l3_2.toInt → (aI (G23.2.1 (F a 1)) (l3_2.toInt)) = (aI (G_2.2.1 (F a 1)) (l3_2.toInt))) := xlk hG23 rfl (rfl : Int32.toInt l3_2 = l3_2.toInt) (rfl : Int32.toInt x22 = x22.toInt) (z_X1_ofAllRows_4 l3_2.toInt I2_0) (z_X1_ofAllRows_4 l3_2.toInt I2_0)
        refine as_0 (x := x34) S hK hT hS hk9999 ar_21 aw_21 (by decide) (z_X1_ofAllRows_2 l3_2.toInt I2_0 c4) dX1_ofAllRows_35 (fun H locs hT hS => ?_)
        obtain ⟨G35, hG35⟩ : ∃ G9 : XG, G9 = cput G23 (F a 0) l3_2.toNatClampNeg x34 := ⟨_, rfl⟩
        rw [← hG35] at hT
        refine lv_aload_n hx hb dX1_ofAllRows_36 rfl (lv_at hl 1 rfl) ?_
        refine lv_iload_n hx hb dX1_ofAllRows_37 rfl (lv_at hl 3 rfl) ?_
        refine x_clp (x_runV (b := p0) (As := [.int l3_2]) (rest := []) S (c_X6_keyBits l E K F G35 H p0 l3_2 hp0) mv_X6_keyBits km_X1_21 rfl rfl ⟨Nat.le_of_ble_eq_true rfl, Nat.le_of_ble_eq_true rfl⟩ (rc_8 hK hT hp0) hK (fun _ => XPh.blind) (fun U hU hW => XPh.at hK hz hS hT hU hW) rfl hl.1 (Nat.le_of_ble_eq_true rfl) dX1_ofAllRows_38 ⟨Nat.le_of_ble_eq_true rfl, Nat.le_of_ble_eq_true rfl⟩) hS ?_
        rintro _ _ locs ⟨x38, rfl, t38⟩ hS
        have t38 : (0 ≤ l3_2.toInt ∧ l3_2.toInt < 3 ∧ x38.toInt = (aI (G.2.1 (F p0 1)) (l3_2.toInt))) ∨ ((l3_2.toInt < 0 ∨ 3 ≤ l3_2.toInt) ∧ x38.toInt = 0) := by rw [(show G35.2.1 (F p0 1) = G.2.1 (F p0 1) from ((lc_c hG35 (xne_j hj9999c hj9999 (by first | decide | omega))).trans ((lc_c hG23 (xne_j hj9999c hj9999a (by first | decide | omega))).trans (hF_2.2.1 _ (xn1 (xne_j hj9999c hj9999 (by first | decide | omega)) (xn1 (xne_j hj9999c hj9999a (by first | decide | omega)) xn0))))))] at t38; exact t38
        refine lv_aload_n hx hb dX1_ofAllRows_41 rfl (lv_at hl 2 rfl) ?_
        refine lv_iload_n hx hb dX1_ofAllRows_42 rfl (lv_at hl 3 rfl) ?_
        refine x_clp (x_runV (b := p1) (As := [.int l3_2]) (rest := [.int x38]) S (c_X6_keyBits l E K F G35 H p1 l3_2 hp1) mv_X6_keyBits km_X1_21 rfl rfl ⟨Nat.le_of_ble_eq_true rfl, Nat.le_of_ble_eq_true rfl⟩ (rc_8 hK hT hp1) hK (fun _ => XPh.blind) (fun U hU hW => XPh.at hK hz hS hT hU hW) rfl hl.1 (Nat.le_of_ble_eq_true rfl) dX1_ofAllRows_43 ⟨Nat.le_of_ble_eq_true rfl, Nat.le_of_ble_eq_true rfl⟩) hS ?_
        rintro _ _ locs ⟨x43, rfl, t43⟩ hS
        have t43 : (0 ≤ l3_2.toInt ∧ l3_2.toInt < 3 ∧ x43.toInt = (aI (G.2.1 (F p1 1)) (l3_2.toInt))) ∨ ((l3_2.toInt < 0 ∨ 3 ≤ l3_2.toInt) ∧ x43.toInt = 0) := by rw [(show G35.2.1 (F p1 1) = G.2.1 (F p1 1) from ((lc_c hG35 (xne_j hj9999e hj9999 (by first | decide | omega))).trans ((lc_c hG23 (xne_j hj9999e hj9999a (by first | decide | omega))).trans (hF_2.2.1 _ (xn1 (xne_j hj9999e hj9999 (by first | decide | omega)) (xn1 (xne_j hj9999e hj9999a (by first | decide | omega)) xn0))))))] at t43; exact t43
        refine lv_iand hx hb dX1_ofAllRows_46 (lv_topi (fun x46 he46 => ?_))
        refine lv_istore (lv' := [(4, .int x46), (0, .ref a), (1, .ref p0), (2, .ref p1), (3, .int l3_2)]) hx hb dX1_ofAllRows_47 hl (by decide) rfl (fun ls hl => ?_)
        refine lv_iconst (v := 0) hx hb dX1_ofAllRows_49 (by decide) ?_
        refine lv_istore (lv' := [(5, .int 0), (4, .int x46), (0, .ref a), (1, .ref p0), (2, .ref p1), (3, .int l3_2)]) hx hb dX1_ofAllRows_50 hl (by decide) rfl (fun ls hl => ?_)
        have L52 : ∀ (N52 : Nat) (l5_52 : Int32) (G_52 : XG) (H : Heap) (locs : List Loc) (ls : Array Slot), XFr [] [F a 0] [] G35 G_52 → CHk (vw (G.2.1 (F p0 0))) (vw (G.2.1 (F p1 0))) (aI (G_52.2.1 (F a 0)) l3_2.toInt) l3_2.toInt l5_52.toInt → (∀ t : Int, 0 ≤ t → t ≠ l3_2.toInt → aI (G_52.2.1 (F a 0)) t = aI (G35.2.1 (F a 0)) t) → 0 ≤ l5_52.toInt ∧ l5_52.toInt ≤ 30 → (0 : Int) ≤ l5_52.toInt → 2147483648 - l5_52.toInt < ((N52 : Nat) : Int) → TW E K F G_52 H → va_S (xA E) s.heap H locs → lv_has ls 6 [(0, .ref a), (1, .ref p0), (2, .ref p1), (3, .int l3_2), (4, .int x46), (5, .int l5_52)] → W p l e rm_X1_ofAllRows s m args below meth c H locs 0 0 Q (F0 m 52 ls []) := by
          intro N52
          induction N52 with
          | zero =>
            intro l5_52 G_52 H locs ls hF_52 pd po I52_0 I52_1 hm52
            exact absurd hm52 (z_X1_offerByRows_5 l5_52.toInt I52_0)
          | succ N52 ih52 =>
            intro l5_52 G_52 H locs ls hF_52 pd po I52_0 I52_1 hm52 hT hS hl
            refine lv_iload hx hb dX1_ofAllRows_52 (lv_at hl 5 rfl) ?_
            refine lv_bipush (v := 30) hx hb dX1_ofAllRows_54 (by decide) ?_
            refine xi_cge (tgt := 99) hx hb (rfl : Int32.toInt l5_52 = l5_52.toInt) ((by decide) : Int32.toInt 30 = (30 : Int)) dX1_ofAllRows_56 (by decide) (fun c56 => ?_) (fun c56 => ?_)
            · refine xi_iinc (n := 1) (lv' := fun z9 => [(3, .int z9), (0, .ref a), (1, .ref p0), (2, .ref p1), (4, .int x46), (5, .int l5_52)]) (k := 3) hx hb (rfl : Int32.toInt l3_2 = l3_2.toInt) (by decide) dX1_ofAllRows_99 hl rfl (by decide) (fun _ => rfl) (fun x99 ls t99 hl => ?_)
              have e99 : x99.toInt = (l3_2.toInt + 1) := (z_X1_ofAllRows_8 l3_2.toInt x99.toInt I2_0 t99)
              have hl : lv_has ls 6 [(3, .int x99), (0, .ref a), (1, .ref p0), (2, .ref p1), (4, .int x46), (5, .int l5_52)] := hl
              refine lv_goto (tgt := 2) hx hb dX1_ofAllRows_102 (by decide) ?_
              exact ih2 x99 G_52 _ _ _ (XFr.call (by rw [hG35]; exact XFr.cput (by rw [hG23]; exact XFr.cput (XFr.call XFr.rf hF_2 xm0 (xm1 0 rfl (xm1 1 rfl xm0)) xm0) (List.mem_of_getElem? (i := 1) rfl)) (List.mem_of_getElem? (i := 0) rfl)) hF_52 xm0 (xm1 0 rfl xm0) xm0) (by rw [(e99 : Int32.toInt x99 = (l3_2.toInt + 1))] <;> exact (v_X1_ofAllRows_102_2 a p0 p1 G G_2 G23 l3_2 x22 G35 x34 G_52 x14 x19 x46 x38 x43 l5_52 N2 N52 ha hp0 hp1 hG23 hG35 ro1 ro2 j0 j1 pc he22 hv34 he46 pd po I2_0 I2_1 hm2 c4 t14 t19 hc34 t38 t43 I52_0 I52_1 hm52 c56 (lc_c hG23 (xne_j hj9999 hj9999a (by first | decide | omega))) ((hF_52.2.1 _ (xn1 (xne_j hj9999a hj9999 (by first | decide | omega)) xn0)).trans (lc_c hG35 (xne_j hj9999a hj9999 (by first | decide | omega)))))) (by rw [(e99 : Int32.toInt x99 = (l3_2.toInt + 1))] <;> exact (z_X1_ofAllRows_9 l3_2.toInt I2_0 c4)) (by rw [(e99 : Int32.toInt x99 = (l3_2.toInt + 1))] <;> exact (z_X1_ofAllRows_10 l3_2.toInt I2_0)) (by rw [(e99 : Int32.toInt x99 = (l3_2.toInt + 1))] <;> exact (z_X1_offerByRows_13 l3_2.toInt N2 hm2)) hT hS (lv_sub hl [1, 2, 3, 0] rfl)
            · refine lv_iload hx hb dX1_ofAllRows_59 (lv_at hl 4 rfl) ?_
              refine lv_iload hx hb dX1_ofAllRows_61 (lv_at hl 5 rfl) ?_
              refine lv_ishr hx hb dX1_ofAllRows_63 (lv_topi (fun x63 he63 => ?_))
              refine lv_iconst (v := 1) hx hb dX1_ofAllRows_64 (by decide) ?_
              refine lv_iand hx hb dX1_ofAllRows_65 (lv_topi (fun x65 he65 => ?_))
              have hb65 : x65.toInt = (bI (x46.toInt) (l5_52.toInt)) := bI_and he63 he65 (rfl : Int32.toInt x46 = x46.toInt) (rfl : Int32.toInt l5_52 = l5_52.toInt) (z_X1_offerByRows_8 l5_52.toInt I52_0)
              have hb65a : x65.toInt = 0 ∨ x65.toInt = 1 := by rw [hb65]; exact bI01 _ _
              refine xi_zeq (tgt := 93) hx hb (rfl : Int32.toInt x65 = x65.toInt) dX1_ofAllRows_66 (by decide) (fun c66 => ?_) (fun c66 => ?_)
              · refine xi_iinc (n := 1) (lv' := fun z9 => [(5, .int z9), (0, .ref a), (1, .ref p0), (2, .ref p1), (3, .int l3_2), (4, .int x46)]) (k := 5) hx hb (rfl : Int32.toInt l5_52 = l5_52.toInt) (by decide) dX1_ofAllRows_93 hl rfl (by decide) (fun _ => rfl) (fun x93 ls t93 hl => ?_)
                have e93 : x93.toInt = (l5_52.toInt + 1) := (z_X1_offerByRows_9 l5_52.toInt x93.toInt I52_0 t93)
                have hl : lv_has ls 6 [(5, .int x93), (0, .ref a), (1, .ref p0), (2, .ref p1), (3, .int l3_2), (4, .int x46)] := hl
                refine lv_goto (tgt := 52) hx hb dX1_ofAllRows_96 (by decide) ?_
                exact ih52 x93 G_52 _ _ _ (XFr.call XFr.rf hF_52 xm0 (xm1 0 rfl xm0) xm0) (by rw [(e93 : Int32.toInt x93 = (l5_52.toInt + 1))] <;> exact (v_X1_ofAllRows_96_3 a p0 p1 G G_2 G23 l3_2 x22 G_52 x14 x19 x46 x38 x43 l5_52 x63 x65 N2 N52 ha hp0 hp1 ro1 ro2 j0 j1 he22 he46 pd he63 he65 I2_0 I2_1 hm2 c4 t14 t19 hc34 t38 t43 I52_0 I52_1 hm52 c56 hb65 hb65a c66)) (v_X1_ofAllRows_96_4 a p0 p1 G G_2 G23 l3_2 x22 G35 G_52 x14 x19 x46 x38 x43 l5_52 x63 x65 N2 N52 ha hp0 hp1 j0 j1 he22 he46 pd po he63 he65 I2_0 I2_1 hm2 c4 t14 t19 hc34 t38 t43 I52_0 I52_1 hm52 c56 hb65 hb65a c66) (by rw [(e93 : Int32.toInt x93 = (l5_52.toInt + 1))] <;> exact (z_X1_offerByRows_10 l5_52.toInt I52_0 c56)) (by rw [(e93 : Int32.toInt x93 = (l5_52.toInt + 1))] <;> exact (z_X1_offerByRows_12 l5_52.toInt I52_0)) (by rw [(e93 : Int32.toInt x93 = (l5_52.toInt + 1))] <;> exact (z_X1_offerByRows_13 l5_52.toInt N52 hm52)) hT hS (lv_sub hl [1, 2, 3, 4, 5, 0] rfl)
              · refine lv_aload_n hx hb dX1_ofAllRows_69 rfl (lv_at hl 1 rfl) ?_
                refine lv_aload_n hx hb dX1_ofAllRows_70 rfl (lv_at hl 2 rfl) ?_
                refine lv_iload_n hx hb dX1_ofAllRows_71 rfl (lv_at hl 3 rfl) ?_
                refine lv_iload hx hb dX1_ofAllRows_72 (lv_at hl 5 rfl) ?_
                refine x_clp (x_runS (As := [.ref p0, .ref p1, .int l3_2, .int l5_52]) (rest := []) S (c_X1_valuesDiffer l E K F G_52 H p0 p1 l3_2 l5_52 hp0 hp1) ms_X1_valuesDiffer km_X1_27 rfl rfl ⟨Nat.le_of_ble_eq_true rfl, Nat.le_of_ble_eq_true rfl⟩ hK (fun _ => XPh.blind) (fun U hU hW => XPh.at hK hz hS hT hU hW) rfl hl.1 (Nat.le_of_ble_eq_true rfl) dX1_ofAllRows_74 ⟨Nat.le_of_ble_eq_true rfl, Nat.le_of_ble_eq_true rfl⟩) hS ?_
                rintro _ _ locs ⟨x74, rfl, b74, t74⟩ hS
                have t74 : (((cel (vw (G.2.1 (F p0 0))) (l3_2.toInt) (l5_52.toInt) 0) ≠ (cel (vw (G.2.1 (F p1 0))) (l3_2.toInt) (l5_52.toInt) 0) ∨ (cel (vw (G.2.1 (F p0 0))) (l3_2.toInt) (l5_52.toInt) 1) ≠ (cel (vw (G.2.1 (F p1 0))) (l3_2.toInt) (l5_52.toInt) 1) ∨ (cel (vw (G.2.1 (F p0 0))) (l3_2.toInt) (l5_52.toInt) 2) ≠ (cel (vw (G.2.1 (F p1 0))) (l3_2.toInt) (l5_52.toInt) 2)) ∧ x74.toInt = 1) ∨ (¬ ((cel (vw (G.2.1 (F p0 0))) (l3_2.toInt) (l5_52.toInt) 0) ≠ (cel (vw (G.2.1 (F p1 0))) (l3_2.toInt) (l5_52.toInt) 0) ∨ (cel (vw (G.2.1 (F p0 0))) (l3_2.toInt) (l5_52.toInt) 1) ≠ (cel (vw (G.2.1 (F p1 0))) (l3_2.toInt) (l5_52.toInt) 1) ∨ (cel (vw (G.2.1 (F p0 0))) (l3_2.toInt) (l5_52.toInt) 2) ≠ (cel (vw (G.2.1 (F p1 0))) (l3_2.toInt) (l5_52.toInt) 2)) ∧ x74.toInt = 0) := by rw [(show G_52.2.1 (F p0 0) = G.2.1 (F p0 0) from ((hF_52.2.1 _ (xn1 (xne_k hk9999b hk9999 (by decide)) xn0)).trans ((lc_c hG35 (xne_k hk9999b hk9999 (by decide))).trans ((lc_c hG23 (xne_k hk9999b hk9999a (by decide))).trans (hF_2.2.1 _ (xn1 (xne_k hk9999b hk9999 (by decide)) (xn1 (xne_k hk9999b hk9999a (by decide)) xn0)))))))] at t74; rw [(show G_52.2.1 (F p1 0) = G.2.1 (F p1 0) from ((hF_52.2.1 _ (xn1 (xne_k hk9999d hk9999 (by decide)) xn0)).trans ((lc_c hG35 (xne_k hk9999d hk9999 (by decide))).trans ((lc_c hG23 (xne_k hk9999d hk9999a (by decide))).trans (hF_2.2.1 _ (xn1 (xne_k hk9999d hk9999 (by decide)) (xn1 (xne_k hk9999d hk9999a (by decide)) xn0)))))))] at t74; exact t74
                refine xi_zeq (tgt := 93) hx hb (rfl : Int32.toInt x74 = x74.toInt) dX1_ofAllRows_77 (by decide) (fun c77 => ?_) (fun c77 => ?_)
                · refine xi_iinc (n := 1) (lv' := fun z9 => [(5, .int z9), (0, .ref a), (1, .ref p0), (2, .ref p1), (3, .int l3_2), (4, .int x46)]) (k := 5) hx hb (rfl : Int32.toInt l5_52 = l5_52.toInt) (by decide) dX1_ofAllRows_93 hl rfl (by decide) (fun _ => rfl) (fun x93 ls t93 hl => ?_)
                  have e93 : x93.toInt = (l5_52.toInt + 1) := (z_X1_offerByRows_9 l5_52.toInt x93.toInt I52_0 t93)
                  have hl : lv_has ls 6 [(5, .int x93), (0, .ref a), (1, .ref p0), (2, .ref p1), (3, .int l3_2), (4, .int x46)] := hl
                  refine lv_goto (tgt := 52) hx hb dX1_ofAllRows_96 (by decide) ?_
                  exact ih52 x93 G_52 _ _ _ (XFr.call XFr.rf hF_52 xm0 (xm1 0 rfl xm0) xm0) (by rw [(e93 : Int32.toInt x93 = (l5_52.toInt + 1))] <;> exact (v_X1_ofAllRows_96_5 a p0 p1 G G_2 G23 l3_2 x22 G_52 x14 x19 x46 x38 x43 l5_52 x63 x65 N2 N52 x74 ha hp0 hp1 ro1 ro2 j0 j1 he22 he46 pd he63 he65 I2_0 I2_1 hm2 c4 t14 t19 hc34 t38 t43 I52_0 I52_1 hm52 c56 hb65 hb65a c66 t74 c77)) (v_X1_ofAllRows_96_6 a p0 p1 G G_2 G23 l3_2 x22 G35 G_52 x14 x19 x46 x38 x43 l5_52 x63 x65 N2 N52 x74 ha hp0 hp1 j0 j1 he22 he46 pd po he63 he65 I2_0 I2_1 hm2 c4 t14 t19 hc34 t38 t43 I52_0 I52_1 hm52 c56 hb65 hb65a c66 t74 c77) (by rw [(e93 : Int32.toInt x93 = (l5_52.toInt + 1))] <;> exact (z_X1_offerByRows_10 l5_52.toInt I52_0 c56)) (by rw [(e93 : Int32.toInt x93 = (l5_52.toInt + 1))] <;> exact (z_X1_offerByRows_12 l5_52.toInt I52_0)) (by rw [(e93 : Int32.toInt x93 = (l5_52.toInt + 1))] <;> exact (z_X1_offerByRows_13 l5_52.toInt N52 hm52)) hT hS (lv_sub hl [1, 2, 3, 4, 5, 0] rfl)
                · refine lv_aload_n hx hb dX1_ofAllRows_80 rfl (lv_at hl 0 rfl) ?_
                  refine gX1_0 S hK hT ha kf_X1_9 dX1_ofAllRows_81 (fun _ _ => ?_)
                  refine lv_iload_n hx hb dX1_ofAllRows_84 rfl (lv_at hl 3 rfl) ?_
                  refine lv_dup2_11 hx hb dX1_ofAllRows_85 rfl rfl ?_
                  refine al_0 S hK hT hk9999 ar_21 (by decide) (z_X1_ofAllRows_2 l3_2.toInt I2_0 c4) dX1_ofAllRows_86 (fun x86 hv86 o86 => ?_)
                  have hv86 : x86.toInt = (aI (G_52.2.1 (F a 0)) (l3_2.toInt)) := hv86.trans (by rw [(rfl : Int32.toInt l3_2 = l3_2.toInt)])
                  refine lv_iconst (v := 1) hx hb dX1_ofAllRows_87 (by decide) ?_
                  refine lv_iload hx hb dX1_ofAllRows_88 (lv_at hl 5 rfl) ?_
                  refine lv_ishl hx hb dX1_ofAllRows_90 (lv_topi (fun x90 he90 => ?_))
                  refine lv_ior hx hb dX1_ofAllRows_91 (lv_topi (fun x91 he91 => ?_))
                  refine as_0 (x := x91) S hK hT hS hk9999 ar_21 aw_21 (by decide) (z_X1_ofAllRows_2 l3_2.toInt I2_0 c4) dX1_ofAllRows_92 (fun H locs hT hS => ?_)
                  obtain ⟨G92, hG92⟩ : ∃ G9 : XG, G9 = cput G_52 (F a 0) l3_2.toNatClampNeg x91 := ⟨_, rfl⟩
                  rw [← hG92] at hT
                  refine xi_iinc (n := 1) (lv' := fun z9 => [(5, .int z9), (0, .ref a), (1, .ref p0), (2, .ref p1), (3, .int l3_2), (4, .int x46)]) (k := 5) hx hb (rfl : Int32.toInt l5_52 = l5_52.toInt) (by decide) dX1_ofAllRows_93 hl rfl (by decide) (fun _ => rfl) (fun x93 ls t93 hl => ?_)
                  have e93 : x93.toInt = (l5_52.toInt + 1) := (z_X1_offerByRows_9 l5_52.toInt x93.toInt I52_0 t93)
                  have hl : lv_has ls 6 [(5, .int x93), (0, .ref a), (1, .ref p0), (2, .ref p1), (3, .int l3_2), (4, .int x46)] := hl
                  refine lv_goto (tgt := 52) hx hb dX1_ofAllRows_96 (by decide) ?_
                  exact ih52 x93 G92 _ _ _ (by rw [hG92]; exact XFr.cput (XFr.call XFr.rf hF_52 xm0 (xm1 0 rfl xm0) xm0) (List.mem_of_getElem? (i := 0) rfl)) (by rw [(e93 : Int32.toInt x93 = (l5_52.toInt + 1))] <;> exact (v_X1_ofAllRows_96_7 a p0 p1 G G_2 G23 l3_2 x22 G_52 G92 x91 x14 x19 x46 x38 x43 l5_52 x63 x65 x86 x90 N2 N52 x74 ha hp0 hp1 hG92 ro1 ro2 j0 j1 he22 he46 pd he63 he65 hv86 he90 he91 I2_0 I2_1 hm2 c4 t14 t19 hc34 t38 t43 I52_0 I52_1 hm52 c56 hb65 hb65a c66 t74 c77)) (v_X1_ofAllRows_96_8 a p0 p1 G G_2 G23 l3_2 x22 G35 G_52 G92 x91 x14 x19 x46 x38 x43 l5_52 x63 x65 x86 x90 N2 N52 x74 ha hp0 hp1 hG92 j0 j1 he22 he46 pd po he63 he65 hv86 he90 he91 I2_0 I2_1 hm2 c4 t14 t19 hc34 t38 t43 I52_0 I52_1 hm52 c56 hb65 hb65a c66 t74 c77) (by rw [(e93 : Int32.toInt x93 = (l5_52.toInt + 1))] <;> exact (z_X1_offerByRows_10 l5_52.toInt I52_0 c56)) (by rw [(e93 : Int32.toInt x93 = (l5_52.toInt + 1))] <;> exact (z_X1_offerByRows_12 l5_52.toInt I52_0)) (by rw [(e93 : Int32.toInt x93 = (l5_52.toInt + 1))] <;> exact (z_X1_offerByRows_13 l5_52.toInt N52 hm52)) hT hS (lv_sub hl [1, 2, 3, 4, 5, 0] rfl)
        exact L52 4294967297 0 G35 _ _ _ XFr.rf (v_X1_ofAllRows_50_9 a p0 p1 G G_2 G23 l3_2 x22 G35 x34 x14 x19 x46 x38 x43 N2 ha hp0 hp1 hG35 ro1 ro2 j0 j1 he22 hv34 he46 I2_0 I2_1 hm2 c4 t14 t19 hc34 t38 t43) (v_X1_ofAllRows_50_10 a l3_2 G35) (by decide) (by decide) (by decide) hT hS (lv_sub hl [2, 3, 4, 5, 1, 0] rfl)
  exact L2 4294967297 0 G _ _ _ XFr.rf (v_X1_ofAllRows_1_11 a p0 p1 G ha hp0 hp1 j0 j1) (by decide) (by decide) (by decide) hT hS (lv_sub hl [1, 2, 3, 0] rfl)

