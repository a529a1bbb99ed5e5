theorem z_X1_offerValues_1 (a0 : Int) : a0 ≤ a0 ∧ a0 ≤ a0 + 2 := by omega
theorem z_X1_offerValues_2 (a0 : Int) (h0 : 0 ≤ a0 ∧ a0 ≤ 88) : 0 ≤ a0 ∧ a0 ≤ 89 := by omega
theorem z_X1_offerValues_3 (a0 : Int) (a1 : Int) (h0 : a0 ≤ a1 ∧ a1 ≤ a0 + 1) : a0 ≤ a1 ∧ a1 ≤ a0 + 2 := by omega
theorem z_X1_offerValues_6 (a0 : Int) (a1 : Int) (h0 : 0 ≤ a0 ∧ a0 ≤ 88) (h1 : a0 ≤ a1 ∧ a1 ≤ a0 + 1) : 0 ≤ a1 ∧ a1 ≤ 89 := by omega
theorem z_X1_offerValues_7 (a0 : Int) (a1 : Int) (a2 : Int) (h0 : a0 ≤ a1 ∧ a1 ≤ a0 + 1) (h1 : a1 ≤ a2 ∧ a2 ≤ a1 + 1) : a0 ≤ a2 ∧ a2 ≤ a0 + 2 := by omega
abbrev rm_X1_offerValues : Room := { frames := 2, cells := 0, slots := 0, locals := 44 }
set_option maxHeartbeats 4000000 in
set_option maxRecDepth 100000 in
theorem c_X1_offerValues (l : Launch) (E : XE) (K : Nat → Nat) (F : Nat → Nat → Nat) (G : XG) (a : Nat) (p0 : Nat) (p1 : Nat) (p2 : Nat) (p3 : Int32) (ha : K a = 3) (hp0 : K p0 = 9) (hp1 : K p1 = 8) (hp2 : K p2 = 8) (s0 : 0 ≤ ((G.1 a 3).toInt) ∧ ((G.1 a 3).toInt) ≤ 88) (so : SO (G.2.1 (F a 2)) ((G.1 a 3).toInt)) : Met l yX1_offerValues (xw yX1_offerValues cX1_offerValues 7 none) rm_X1_offerValues (va_Pc [.ref a, .ref p0, .ref p1, .ref p2, .int p3] (XP E K F G)) (XQv E (fun (u : XG) => XFr [(a, 3)] [F a 2] [] G u ∧ (((G.1 a 3).toInt) ≤ ((u.1 a 3).toInt) ∧ ((u.1 a 3).toInt) ≤ ((G.1 a 3).toInt) + 2) ∧ (SO (u.2.1 (F a 2)) ((u.1 a 3).toInt)) ∧ (∀ y : Int, MB (u.2.1 (F a 2)) ((u.1 a 3).toInt) y ↔ MB (G.2.1 (F a 2)) ((G.1 a 3).toInt) y ∨ OV ((G.1 p0 0).toInt) (cel (vw (G.2.1 (F p1 0))) ((G.1 p0 2).toInt) (p3.toInt) ((G.1 p0 3).toInt)) (cel (vw (G.2.1 (F p2 0))) ((G.1 p0 2).toInt) (p3.toInt) ((G.1 p0 3).toInt)) y)) (fun u H => TW E K F u H)) 0 0 (xA E) := by
  refine x_enter (by decide) (Nat.le_of_ble_eq_true rfl) ?_
  intro p e s m args below meth c Q S hr hlk hnm hQ hP ls hl
  obtain ⟨hz, hK, hT⟩ := hP
  obtain ⟨hx, hb, -, -, -⟩ := id S
  obtain ⟨H, hT, hS, hgo⟩ : ∃ H : Heap, TW E K F G H ∧ va_S (xA E) s.heap H [] ∧ H = s.heap := ⟨_, hT, va_S.rf, rfl⟩
  rw [← hgo]
  have hl : lv_has ls 7 [(0, .ref a), (1, .ref p0), (2, .ref p1), (3, .ref p2), (4, .int p3)] := hl
  obtain ⟨hk9999, hj9999⟩ := fkX1_2 hT ha
  obtain ⟨hk9999a, hj9999a⟩ := fkX6_0 hT hp1
  obtain ⟨hk9999b, hj9999b⟩ := fkX6_0 hT hp2
  refine lv_aload_n hx hb dX1_offerValues_0 rfl (lv_at hl 2 rfl) ?_
  refine lv_aload_n hx hb dX1_offerValues_1 rfl (lv_at hl 1 rfl) ?_
  refine gX7_2 S hK hT hp0 kf_X1_73 dX1_offerValues_2 (v := (G.1 p0 2)) rfl (?_)
  refine lv_iload hx hb dX1_offerValues_5 (lv_at hl 4 rfl) ?_
  refine lv_aload_n hx hb dX1_offerValues_7 rfl (lv_at hl 1 rfl) ?_
  refine gX7_3 S hK hT hp0 kf_X1_83 dX1_offerValues_8 (v := (G.1 p0 3)) rfl (?_)
  refine x_clp (x_runV (b := p1) (As := [.int (G.1 p0 2), .int p3, .int (G.1 p0 3)]) (rest := []) S (c_X6_cell l E K F G H p1 (G.1 p0 2) p3 (G.1 p0 3) hp1) mv_X6_cell km_X1_86 rfl rfl ⟨Nat.le_of_ble_eq_true rfl, Nat.le_of_ble_eq_true rfl⟩ (rc_8 hK hT hp1) hK (fun _ => XPh.blind) (fun U hU hW => XPh.at hK hz hS hT hU hW) rfl hl.1 (Nat.le_of_ble_eq_true rfl) dX1_offerValues_11 ⟨Nat.le_of_ble_eq_true rfl, Nat.le_of_ble_eq_true rfl⟩) hS ?_
  rintro _ _ locs ⟨x11, rfl, t11⟩ hS
  have t11 : x11.toInt = (cel (vw (G.2.1 (F p1 0))) ((G.1 p0 2).toInt) (p3.toInt) ((G.1 p0 3).toInt)) := t11
  refine lv_istore (lv' := [(5, .int x11), (0, .ref a), (1, .ref p0), (2, .ref p1), (3, .ref p2), (4, .int p3)]) hx hb dX1_offerValues_14 hl (by decide) rfl (fun ls hl => ?_)
  refine lv_aload_n hx hb dX1_offerValues_16 rfl (lv_at hl 4 rfl) ?_
  refine lv_aload_n hx hb dX1_offerValues_17 rfl (lv_at hl 2 rfl) ?_
  refine gX7_2 S hK hT hp0 kf_X1_73 dX1_offerValues_18 (v := (G.1 p0 2)) rfl (?_)
  refine lv_iload hx hb dX1_offerValues_21 (lv_at hl 5 rfl) ?_
  refine lv_aload_n hx hb dX1_offerValues_23 rfl (lv_at hl 2 rfl) ?_
  refine gX7_3 S hK hT hp0 kf_X1_83 dX1_offerValues_24 (v := (G.1 p0 3)) rfl (?_)
  refine x_clp (x_runV (b := p2) (As := [.int (G.1 p0 2), .int p3, .int (G.1 p0 3)]) (rest := []) S (c_X6_cell l E K F G H p2 (G.1 p0 2) p3 (G.1 p0 3) hp2) mv_X6_cell km_X1_86 rfl rfl ⟨Nat.le_of_ble_eq_true rfl, Nat.le_of_ble_eq_true rfl⟩ (rc_8 hK hT hp2) hK (fun _ => XPh.blind) (fun U hU hW => XPh.at hK hz hS hT hU hW) rfl hl.1 (Nat.le_of_ble_eq_true rfl) dX1_offerValues_27 ⟨Nat.le_of_ble_eq_true rfl, Nat.le_of_ble_eq_true rfl⟩) hS ?_
  rintro _ _ locs ⟨x27, rfl, t27⟩ hS
  have t27 : x27.toInt = (cel (vw (G.2.1 (F p2 0))) ((G.1 p0 2).toInt) (p3.toInt) ((G.1 p0 3).toInt)) := t27
  refine lv_istore (lv' := [(6, .int x27), (5, .int x11), (0, .ref a), (1, .ref p0), (2, .ref p1), (3, .ref p2), (4, .int p3)]) hx hb dX1_offerValues_30 hl (by decide) rfl (fun ls hl => ?_)
  refine lv_iload hx hb dX1_offerValues_32 (lv_at hl 1 rfl) ?_
  refine lv_iload hx hb dX1_offerValues_34 (lv_at hl 0 rfl) ?_
  refine xi_cne (tgt := 48) hx hb (t11 : Int32.toInt x11 = (cel (vw (G.2.1 (F p1 0))) ((G.1 p0 2).toInt) (p3.toInt) ((G.1 p0 3).toInt))) (t27 : Int32.toInt x27 = (cel (vw (G.2.1 (F p2 0))) ((G.1 p0 2).toInt) (p3.toInt) ((G.1 p0 3).toInt))) dX1_offerValues_36 (by decide) (fun c36 => ?_) (fun c36 => ?_)
  · refine lv_aload_n hx hb dX1_offerValues_48 rfl (lv_at hl 3 rfl) ?_
    refine lv_iload hx hb dX1_offerValues_49 (lv_at hl 1 rfl) ?_
    refine x_clp (x_runV (b := p0) (As := [.int x11]) (rest := []) S (c_X7_isSubject l E K F G H p0 x11 hp0) mv_X7_isSubject km_X1_90 rfl rfl ⟨Nat.le_of_ble_eq_true rfl, Nat.le_of_ble_eq_true rfl⟩ (rc_9 hK hT hp0) hK (fun _ => XPh.blind) (fun U hU hW => XPh.at hK hz hS hT hU hW) rfl hl.1 (Nat.le_of_ble_eq_true rfl) dX1_offerValues_51 ⟨Nat.le_of_ble_eq_true rfl, Nat.le_of_ble_eq_true rfl⟩) hS ?_
    rintro _ _ locs ⟨x51, rfl, b51, t51⟩ hS
    have t51 : ((((((G.1 p0 0).toInt) = 2 ∨ ((G.1 p0 0).toInt) = 4 ∨ ((G.1 p0 0).toInt) = 5) ∧ 0 ≤ (cel (vw (G.2.1 (F p1 0))) ((G.1 p0 2).toInt) (p3.toInt) ((G.1 p0 3).toInt)) ∧ (cel (vw (G.2.1 (F p1 0))) ((G.1 p0 2).toInt) (p3.toInt) ((G.1 p0 3).toInt)) < 30) ∨ (¬ (((G.1 p0 0).toInt) = 2 ∨ ((G.1 p0 0).toInt) = 4 ∨ ((G.1 p0 0).toInt) = 5) ∧ -99 ≤ (cel (vw (G.2.1 (F p1 0))) ((G.1 p0 2).toInt) (p3.toInt) ((G.1 p0 3).toInt)) ∧ (cel (vw (G.2.1 (F p1 0))) ((G.1 p0 2).toInt) (p3.toInt) ((G.1 p0 3).toInt)) ≤ 99)) ∧ x51.toInt = 1) ∨ (¬ (((((G.1 p0 0).toInt) = 2 ∨ ((G.1 p0 0).toInt) = 4 ∨ ((G.1 p0 0).toInt) = 5) ∧ 0 ≤ (cel (vw (G.2.1 (F p1 0))) ((G.1 p0 2).toInt) (p3.toInt) ((G.1 p0 3).toInt)) ∧ (cel (vw (G.2.1 (F p1 0))) ((G.1 p0 2).toInt) (p3.toInt) ((G.1 p0 3).toInt)) < 30) ∨ (¬ (((G.1 p0 0).toInt) = 2 ∨ ((G.1 p0 0).toInt) = 4 ∨ ((G.1 p0 0).toInt) = 5) ∧ -99 ≤ (cel (vw (G.2.1 (F p1 0))) ((G.1 p0 2).toInt) (p3.toInt) ((G.1 p0 3).toInt)) ∧ (cel (vw (G.2.1 (F p1 0))) ((G.1 p0 2).toInt) (p3.toInt) ((G.1 p0 3).toInt)) ≤ 99)) ∧ x51.toInt = 0) := by rw [(t11 : Int32.toInt x11 = (cel (vw (G.2.1 (F p1 0))) ((G.1 p0 2).toInt) (p3.toInt) ((G.1 p0 3).toInt)))] at t51; exact t51
    refine xi_zeq (tgt := 63) hx hb (rfl : Int32.toInt x51 = x51.toInt) dX1_offerValues_54 (by decide) (fun c54 => ?_) (fun c54 => ?_)
    · refine lv_aload_n hx hb dX1_offerValues_63 rfl (lv_at hl 3 rfl) ?_
      refine lv_iload hx hb dX1_offerValues_64 (lv_at hl 0 rfl) ?_
      refine x_clp (x_runV (b := p0) (As := [.int x27]) (rest := []) S (c_X7_isSubject l E K F G H p0 x27 hp0) mv_X7_isSubject km_X1_90 rfl rfl ⟨Nat.le_of_ble_eq_true rfl, Nat.le_of_ble_eq_true rfl⟩ (rc_9 hK hT hp0) hK (fun _ => XPh.blind) (fun U hU hW => XPh.at hK hz hS hT hU hW) rfl hl.1 (Nat.le_of_ble_eq_true rfl) dX1_offerValues_66 ⟨Nat.le_of_ble_eq_true rfl, Nat.le_of_ble_eq_true rfl⟩) hS ?_
      rintro _ _ locs ⟨x66, rfl, b66, t66⟩ hS
      have t66 : ((((((G.1 p0 0).toInt) = 2 ∨ ((G.1 p0 0).toInt) = 4 ∨ ((G.1 p0 0).toInt) = 5) ∧ 0 ≤ (cel (vw (G.2.1 (F p2 0))) ((G.1 p0 2).toInt) (p3.toInt) ((G.1 p0 3).toInt)) ∧ (cel (vw (G.2.1 (F p2 0))) ((G.1 p0 2).toInt) (p3.toInt) ((G.1 p0 3).toInt)) < 30) ∨ (¬ (((G.1 p0 0).toInt) = 2 ∨ ((G.1 p0 0).toInt) = 4 ∨ ((G.1 p0 0).toInt) = 5) ∧ -99 ≤ (cel (vw (G.2.1 (F p2 0))) ((G.1 p0 2).toInt) (p3.toInt) ((G.1 p0 3).toInt)) ∧ (cel (vw (G.2.1 (F p2 0))) ((G.1 p0 2).toInt) (p3.toInt) ((G.1 p0 3).toInt)) ≤ 99)) ∧ x66.toInt = 1) ∨ (¬ (((((G.1 p0 0).toInt) = 2 ∨ ((G.1 p0 0).toInt) = 4 ∨ ((G.1 p0 0).toInt) = 5) ∧ 0 ≤ (cel (vw (G.2.1 (F p2 0))) ((G.1 p0 2).toInt) (p3.toInt) ((G.1 p0 3).toInt)) ∧ (cel (vw (G.2.1 (F p2 0))) ((G.1 p0 2).toInt) (p3.toInt) ((G.1 p0 3).toInt)) < 30) ∨ (¬ (((G.1 p0 0).toInt) = 2 ∨ ((G.1 p0 0).toInt) = 4 ∨ ((G.1 p0 0).toInt) = 5) ∧ -99 ≤ (cel (vw (G.2.1 (F p2 0))) ((G.1 p0 2).toInt) (p3.toInt) ((G.1 p0 3).toInt)) ∧ (cel (vw (G.2.1 (F p2 0))) ((G.1 p0 2).toInt) (p3.toInt) ((G.1 p0 3).toInt)) ≤ 99)) ∧ x66.toInt = 0) := by rw [(t27 : Int32.toInt x27 = (cel (vw (G.2.1 (F p2 0))) ((G.1 p0 2).toInt) (p3.toInt) ((G.1 p0 3).toInt)))] at t66; exact t66
      refine xi_zeq (tgt := 78) hx hb (rfl : Int32.toInt x66 = x66.toInt) dX1_offerValues_69 (by decide) (fun c69 => ?_) (fun c69 => ?_)
      · exact x_rv hx hb hr hlk hQ (Nat.le_of_ble_eq_true rfl) (Nat.le_of_ble_eq_true rfl) hS dX1_offerValues_78 G ⟨XFr.rf, (z_X1_offerValues_1 ((G.1 a 3).toInt)), (v_X1_offerValues_78_1 a G so), (v_X1_offerValues_78_2 a p0 p1 p2 G p3 x51 x66 ha hp0 hp1 hp2 so s0 c36 t51 c54 t66 c69)⟩ hT
      · refine lv_aload_n hx hb dX1_offerValues_72 rfl (lv_at hl 2 rfl) ?_
        refine lv_iload hx hb dX1_offerValues_73 (lv_at hl 0 rfl) ?_
        refine x_cv0 (x_runV (b := a) (As := [.int x27]) (rest := []) S (c_X1_insert l E K F G a x27 ha (z_X1_offerValues_2 ((G.1 a 3).toInt) s0) (v_X1_offerValues_75_3 a G so)) mv_X1_insert km_X1_93 rfl rfl ⟨Nat.le_of_ble_eq_true rfl, Nat.le_of_ble_eq_true rfl⟩ (rc_3 hK hT ha) hK (fun _ => XP.blind) (fun U hU hW => XP.at hK hz hS hT hU hW) rfl hl.1 (Nat.le_of_ble_eq_true rfl) dX1_offerValues_75 ⟨Nat.le_of_ble_eq_true rfl, Nat.le_of_ble_eq_true rfl⟩) hS ?_
        rintro G75 H locs ⟨hF75, t75, oq75, oq75a⟩ hT hS
        have t75 : ((G.1 a 3).toInt) ≤ ((G75.1 a 3).toInt) ∧ ((G75.1 a 3).toInt) ≤ ((G.1 a 3).toInt) + 1 := t75
        have oq75a : ∀ y : Int, MB (G75.2.1 (F a 2)) ((G75.1 a 3).toInt) y ↔ MB (G.2.1 (F a 2)) ((G.1 a 3).toInt) y ∨ y = (cel (vw (G.2.1 (F p2 0))) ((G.1 p0 2).toInt) (p3.toInt) ((G.1 p0 3).toInt)) := by simp only [(t27 : Int32.toInt x27 = (cel (vw (G.2.1 (F p2 0))) ((G.1 p0 2).toInt) (p3.toInt) ((G.1 p0 3).toInt)))] at oq75a; exact oq75a
        exact x_rv hx hb hr hlk hQ (Nat.le_of_ble_eq_true rfl) (Nat.le_of_ble_eq_true rfl) hS dX1_offerValues_78 G75 ⟨(XFr.call XFr.rf hF75 (xm1 0 rfl xm0) (xm1 0 rfl xm0) xm0), (z_X1_offerValues_3 ((G.1 a 3).toInt) ((G75.1 a 3).toInt) t75), (v_X1_offerValues_78_4 a G G75 so oq75), (v_X1_offerValues_78_5 a p0 p1 p2 G G75 p3 x51 x66 ha hp0 hp1 hp2 so oq75 oq75a s0 c36 t51 c54 t66 c69 t75)⟩ hT
    · refine lv_aload_n hx hb dX1_offerValues_57 rfl (lv_at hl 2 rfl) ?_
      refine lv_iload hx hb dX1_offerValues_58 (lv_at hl 1 rfl) ?_
      refine x_cv0 (x_runV (b := a) (As := [.int x11]) (rest := []) S (c_X1_insert l E K F G a x11 ha (z_X1_offerValues_2 ((G.1 a 3).toInt) s0) (v_X1_offerValues_60_6 a G so)) mv_X1_insert km_X1_93 rfl rfl ⟨Nat.le_of_ble_eq_true rfl, Nat.le_of_ble_eq_true rfl⟩ (rc_3 hK hT ha) hK (fun _ => XP.blind) (fun U hU hW => XP.at hK hz hS hT hU hW) rfl hl.1 (Nat.le_of_ble_eq_true rfl) dX1_offerValues_60 ⟨Nat.le_of_ble_eq_true rfl, Nat.le_of_ble_eq_true rfl⟩) hS ?_
      rintro G60 H locs ⟨hF60, t60, oq60, oq60a⟩ hT hS
      have t60 : ((G.1 a 3).toInt) ≤ ((G60.1 a 3).toInt) ∧ ((G60.1 a 3).toInt) ≤ ((G.1 a 3).toInt) + 1 := t60
      have oq60a : ∀ y : Int, MB (G60.2.1 (F a 2)) ((G60.1 a 3).toInt) y ↔ MB (G.2.1 (F a 2)) ((G.1 a 3).toInt) y ∨ y = (cel (vw (G.2.1 (F p1 0))) ((G.1 p0 2).toInt) (p3.toInt) ((G.1 p0 3).toInt)) := by simp only [(t11 : Int32.toInt x11 = (cel (vw (G.2.1 (F p1 0))) ((G.1 p0 2).toInt) (p3.toInt) ((G.1 p0 3).toInt)))] at oq60a; exact oq60a
      refine lv_aload_n hx hb dX1_offerValues_63 rfl (lv_at hl 3 rfl) ?_
      refine lv_iload hx hb dX1_offerValues_64 (lv_at hl 0 rfl) ?_
      refine x_clp (x_runV (b := p0) (As := [.int x27]) (rest := []) S (c_X7_isSubject l E K F G60 H p0 x27 hp0) mv_X7_isSubject km_X1_90 rfl rfl ⟨Nat.le_of_ble_eq_true rfl, Nat.le_of_ble_eq_true rfl⟩ (rc_9 hK hT hp0) hK (fun _ => XPh.blind) (fun U hU hW => XPh.at hK hz hS hT hU hW) rfl hl.1 (Nat.le_of_ble_eq_true rfl) dX1_offerValues_66 ⟨Nat.le_of_ble_eq_true rfl, Nat.le_of_ble_eq_true rfl⟩) hS ?_
      rintro _ _ locs ⟨x66, rfl, b66, t66⟩ hS
      have t66 : ((((((G.1 p0 0).toInt) = 2 ∨ ((G.1 p0 0).toInt) = 4 ∨ ((G.1 p0 0).toInt) = 5) ∧ 0 ≤ (cel (vw (G.2.1 (F p2 0))) ((G.1 p0 2).toInt) (p3.toInt) ((G.1 p0 3).toInt)) ∧ (cel (vw (G.2.1 (F p2 0))) ((G.1 p0 2).toInt) (p3.toInt) ((G.1 p0 3).toInt)) < 30) ∨ (¬ (((G.1 p0 0).toInt) = 2 ∨ ((G.1 p0 0).toInt) = 4 ∨ ((G.1 p0 0).toInt) = 5) ∧ -99 ≤ (cel (vw (G.2.1 (F p2 0))) ((G.1 p0 2).toInt) (p3.toInt) ((G.1 p0 3).toInt)) ∧ (cel (vw (G.2.1 (F p2 0))) ((G.1 p0 2).toInt) (p3.toInt) ((G.1 p0 3).toInt)) ≤ 99)) ∧ x66.toInt = 1) ∨ (¬ (((((G.1 p0 0).toInt) = 2 ∨ ((G.1 p0 0).toInt) = 4 ∨ ((G.1 p0 0).toInt) = 5) ∧ 0 ≤ (cel (vw (G.2.1 (F p2 0))) ((G.1 p0 2).toInt) (p3.toInt) ((G.1 p0 3).toInt)) ∧ (cel (vw (G.2.1 (F p2 0))) ((G.1 p0 2).toInt) (p3.toInt) ((G.1 p0 3).toInt)) < 30) ∨ (¬ (((G.1 p0 0).toInt) = 2 ∨ ((G.1 p0 0).toInt) = 4 ∨ ((G.1 p0 0).toInt) = 5) ∧ -99 ≤ (cel (vw (G.2.1 (F p2 0))) ((G.1 p0 2).toInt) (p3.toInt) ((G.1 p0 3).toInt)) ∧ (cel (vw (G.2.1 (F p2 0))) ((G.1 p0 2).toInt) (p3.toInt) ((G.1 p0 3).toInt)) ≤ 99)) ∧ x66.toInt = 0) := by rw [(t27 : Int32.toInt x27 = (cel (vw (G.2.1 (F p2 0))) ((G.1 p0 2).toInt) (p3.toInt) ((G.1 p0 3).toInt)))] at t66; rw [(show (G60.1 p0 0).toInt = ((G.1 p0 0).toInt) from (congrArg Int32.toInt (hF60.1 _ _ (xnj (by decide) xn0))).trans (rfl : Int32.toInt (G.1 p0 0) = ((G.1 p0 0).toInt)))] at t66; exact t66
      refine xi_zeq (tgt := 78) hx hb (rfl : Int32.toInt x66 = x66.toInt) dX1_offerValues_69 (by decide) (fun c69 => ?_) (fun c69 => ?_)
      · exact x_rv hx hb hr hlk hQ (Nat.le_of_ble_eq_true rfl) (Nat.le_of_ble_eq_true rfl) hS dX1_offerValues_78 G60 ⟨(XFr.call XFr.rf hF60 (xm1 0 rfl xm0) (xm1 0 rfl xm0) xm0), (z_X1_offerValues_3 ((G.1 a 3).toInt) ((G60.1 a 3).toInt) t60), (v_X1_offerValues_78_7 a G G60 so oq60), (v_X1_offerValues_78_8 a p0 p1 p2 G G60 p3 x51 x66 ha hp0 hp1 hp2 so oq60 oq60a s0 c36 t51 c54 t60 t66 c69)⟩ hT
      · refine lv_aload_n hx hb dX1_offerValues_72 rfl (lv_at hl 2 rfl) ?_
        refine lv_iload hx hb dX1_offerValues_73 (lv_at hl 0 rfl) ?_
        refine x_cv0 (x_runV (b := a) (As := [.int x27]) (rest := []) S (c_X1_insert l E K F G60 a x27 ha (z_X1_offerValues_6 ((G.1 a 3).toInt) ((G60.1 a 3).toInt) s0 t60) (v_X1_offerValues_75_9 a G G60 so oq60)) mv_X1_insert km_X1_93 rfl rfl ⟨Nat.le_of_ble_eq_true rfl, Nat.le_of_ble_eq_true rfl⟩ (rc_3 hK hT ha) hK (fun _ => XP.blind) (fun U hU hW => XP.at hK hz hS hT hU hW) rfl hl.1 (Nat.le_of_ble_eq_true rfl) dX1_offerValues_75 ⟨Nat.le_of_ble_eq_true rfl, Nat.le_of_ble_eq_true rfl⟩) hS ?_
        rintro G75 H locs ⟨hF75, t75, oq75, oq75a⟩ hT hS
        have t75 : ((G60.1 a 3).toInt) ≤ ((G75.1 a 3).toInt) ∧ ((G75.1 a 3).toInt) ≤ ((G60.1 a 3).toInt) + 1 := t75
        have oq75a : ∀ y : Int, MB (G75.2.1 (F a 2)) ((G75.1 a 3).toInt) y ↔ MB (G60.2.1 (F a 2)) ((G60.1 a 3).toInt) y ∨ y = (cel (vw (G.2.1 (F p2 0))) ((G.1 p0 2).toInt) (p3.toInt) ((G.1 p0 3).toInt)) := by simp only [(t27 : Int32.toInt x27 = (cel (vw (G.2.1 (F p2 0))) ((G.1 p0 2).toInt) (p3.toInt) ((G.1 p0 3).toInt)))] at oq75a; exact oq75a
        exact x_rv hx hb hr hlk hQ (Nat.le_of_ble_eq_true rfl) (Nat.le_of_ble_eq_true rfl) hS dX1_offerValues_78 G75 ⟨(XFr.call (XFr.call XFr.rf hF60 (xm1 0 rfl xm0) (xm1 0 rfl xm0) xm0) hF75 (xm1 0 rfl xm0) (xm1 0 rfl xm0) xm0), (z_X1_offerValues_7 ((G.1 a 3).toInt) ((G60.1 a 3).toInt) ((G75.1 a 3).toInt) t60 t75), (v_X1_offerValues_78_10 a G G60 G75 so oq60 oq75), (v_X1_offerValues_78_11 a p0 p1 p2 G G60 G75 p3 x51 x66 ha hp0 hp1 hp2 so oq60 oq60a oq75 oq75a s0 c36 t51 c54 t60 t66 c69 t75)⟩ hT
  · refine lv_aload_n hx hb dX1_offerValues_39 rfl (lv_at hl 3 rfl) ?_
    refine gX7_0 S hK hT hp0 kf_X1_76 dX1_offerValues_40 (v := (G.1 p0 0)) rfl (?_)
    refine lv_iconst (v := 3) hx hb dX1_offerValues_43 (by decide) ?_
    refine xi_ceq (tgt := 48) hx hb (rfl : Int32.toInt (G.1 p0 0) = ((G.1 p0 0).toInt)) ((by decide) : Int32.toInt 3 = (3 : Int)) dX1_offerValues_44 (by decide) (fun c44 => ?_) (fun c44 => ?_)
    · refine lv_aload_n hx hb dX1_offerValues_48 rfl (lv_at hl 3 rfl) ?_
      refine lv_iload hx hb dX1_offerValues_49 (lv_at hl 1 rfl) ?_
      refine x_clp (x_runV (b := p0) (As := [.int x11]) (rest := []) S (c_X7_isSubject l E K F G H p0 x11 hp0) mv_X7_isSubject km_X1_90 rfl rfl ⟨Nat.le_of_ble_eq_true rfl, Nat.le_of_ble_eq_true rfl⟩ (rc_9 hK hT hp0) hK (fun _ => XPh.blind) (fun U hU hW => XPh.at hK hz hS hT hU hW) rfl hl.1 (Nat.le_of_ble_eq_true rfl) dX1_offerValues_51 ⟨Nat.le_of_ble_eq_true rfl, Nat.le_of_ble_eq_true rfl⟩) hS ?_
      rintro _ _ locs ⟨x51, rfl, b51, t51⟩ hS
      have t51 : ((((((G.1 p0 0).toInt) = 2 ∨ ((G.1 p0 0).toInt) = 4 ∨ ((G.1 p0 0).toInt) = 5) ∧ 0 ≤ (cel (vw (G.2.1 (F p1 0))) ((G.1 p0 2).toInt) (p3.toInt) ((G.1 p0 3).toInt)) ∧ (cel (vw (G.2.1 (F p1 0))) ((G.1 p0 2).toInt) (p3.toInt) ((G.1 p0 3).toInt)) < 30) ∨ (¬ (((G.1 p0 0).toInt) = 2 ∨ ((G.1 p0 0).toInt) = 4 ∨ ((G.1 p0 0).toInt) = 5) ∧ -99 ≤ (cel (vw (G.2.1 (F p1 0))) ((G.1 p0 2).toInt) (p3.toInt) ((G.1 p0 3).toInt)) ∧ (cel (vw (G.2.1 (F p1 0))) ((G.1 p0 2).toInt) (p3.toInt) ((G.1 p0 3).toInt)) ≤ 99)) ∧ x51.toInt = 1) ∨ (¬ (((((G.1 p0 0).toInt) = 2 ∨ ((G.1 p0 0).toInt) = 4 ∨ ((G.1 p0 0).toInt) = 5) ∧ 0 ≤ (cel (vw (G.2.1 (F p1 0))) ((G.1 p0 2).toInt) (p3.toInt) ((G.1 p0 3).toInt)) ∧ (cel (vw (G.2.1 (F p1 0))) ((G.1 p0 2).toInt) (p3.toInt) ((G.1 p0 3).toInt)) < 30) ∨ (¬ (((G.1 p0 0).toInt) = 2 ∨ ((G.1 p0 0).toInt) = 4 ∨ ((G.1 p0 0).toInt) = 5) ∧ -99 ≤ (cel (vw (G.2.1 (F p1 0))) ((G.1 p0 2).toInt) (p3.toInt) ((G.1 p0 3).toInt)) ∧ (cel (vw (G.2.1 (F p1 0))) ((G.1 p0 2).toInt) (p3.toInt) ((G.1 p0 3).toInt)) ≤ 99)) ∧ x51.toInt = 0) := by rw [(t11 : Int32.toInt x11 = (cel (vw (G.2.1 (F p1 0))) ((G.1 p0 2).toInt) (p3.toInt) ((G.1 p0 3).toInt)))] at t51; exact t51
      refine xi_zeq (tgt := 63) hx hb (rfl : Int32.toInt x51 = x51.toInt) dX1_offerValues_54 (by decide) (fun c54 => ?_) (fun c54 => ?_)
      · refine lv_aload_n hx hb dX1_offerValues_63 rfl (lv_at hl 3 rfl) ?_
        refine lv_iload hx hb dX1_offerValues_64 (lv_at hl 0 rfl) ?_
        refine x_clp (x_runV (b := p0) (As := [.int x27]) (rest := []) S (c_X7_isSubject l E K F G H p0 x27 hp0) mv_X7_isSubject km_X1_90 rfl rfl ⟨Nat.le_of_ble_eq_true rfl, Nat.le_of_ble_eq_true rfl⟩ (rc_9 hK hT hp0) hK (fun _ => XPh.blind) (fun U hU hW => XPh.at hK hz hS hT hU hW) rfl hl.1 (Nat.le_of_ble_eq_true rfl) dX1_offerValues_66 ⟨Nat.le_of_ble_eq_true rfl, Nat.le_of_ble_eq_true rfl⟩) hS ?_
        rintro _ _ locs ⟨x66, rfl, b66, t66⟩ hS
        have t66 : ((((((G.1 p0 0).toInt) = 2 ∨ ((G.1 p0 0).toInt) = 4 ∨ ((G.1 p0 0).toInt) = 5) ∧ 0 ≤ (cel (vw (G.2.1 (F p2 0))) ((G.1 p0 2).toInt) (p3.toInt) ((G.1 p0 3).toInt)) ∧ (cel (vw (G.2.1 (F p2 0))) ((G.1 p0 2).toInt) (p3.toInt) ((G.1 p0 3).toInt)) < 30) ∨ (¬ (((G.1 p0 0).toInt) = 2 ∨ ((G.1 p0 0).toInt) = 4 ∨ ((G.1 p0 0).toInt) = 5) ∧ -99 ≤ (cel (vw (G.2.1 (F p2 0))) ((G.1 p0 2).toInt) (p3.toInt) ((G.1 p0 3).toInt)) ∧ (cel (vw (G.2.1 (F p2 0))) ((G.1 p0 2).toInt) (p3.toInt) ((G.1 p0 3).toInt)) ≤ 99)) ∧ x66.toInt = 1) ∨ (¬ (((((G.1 p0 0).toInt) = 2 ∨ ((G.1 p0 0).toInt) = 4 ∨ ((G.1 p0 0).toInt) = 5) ∧ 0 ≤ (cel (vw (G.2.1 (F p2 0))) ((G.1 p0 2).toInt) (p3.toInt) ((G.1 p0 3).toInt)) ∧ (cel (vw (G.2.1 (F p2 0))) ((G.1 p0 2).toInt) (p3.toInt) ((G.1 p0 3).toInt)) < 30) ∨ (¬ (((G.1 p0 0).toInt) = 2 ∨ ((G.1 p0 0).toInt) = 4 ∨ ((G.1 p0 0).toInt) = 5) ∧ -99 ≤ (cel (vw (G.2.1 (F p2 0))) ((G.1 p0 2).toInt) (p3.toInt) ((G.1 p0 3).toInt)) ∧ (cel (vw (G.2.1 (F p2 0))) ((G.1 p0 2).toInt) (p3.toInt) ((G.1 p0 3).toInt)) ≤ 99)) ∧ x66.toInt = 0) := by rw [(t27 : Int32.toInt x27 = (cel (vw (G.2.1 (F p2 0))) ((G.1 p0 2).toInt) (p3.toInt) ((G.1 p0 3).toInt)))] at t66; exact t66
        refine xi_zeq (tgt := 78) hx hb (rfl : Int32.toInt x66 = x66.toInt) dX1_offerValues_69 (by decide) (fun c69 => ?_) (fun c69 => ?_)
        · exact x_rv hx hb hr hlk hQ (Nat.le_of_ble_eq_true rfl) (Nat.le_of_ble_eq_true rfl) hS dX1_offerValues_78 G ⟨XFr.rf, (z_X1_offerValues_1 ((G.1 a 3).toInt)), (v_X1_offerValues_78_12 a G so), (v_X1_offerValues_78_13 a p0 p1 p2 G p3 x51 x66 ha hp0 hp1 hp2 so s0 c36 c44 t51 c54 t66 c69)⟩ hT
        · refine lv_aload_n hx hb dX1_offerValues_72 rfl (lv_at hl 2 rfl) ?_
          refine lv_iload hx hb dX1_offerValues_73 (lv_at hl 0 rfl) ?_
          refine x_cv0 (x_runV (b := a) (As := [.int x27]) (rest := []) S (c_X1_insert l E K F G a x27 ha (z_X1_offerValues_2 ((G.1 a 3).toInt) s0) (v_X1_offerValues_75_14 a G so)) mv_X1_insert km_X1_93 rfl rfl ⟨Nat.le_of_ble_eq_true rfl, Nat.le_of_ble_eq_true rfl⟩ (rc_3 hK hT ha) hK (fun _ => XP.blind) (fun U hU hW => XP.at hK hz hS hT hU hW) rfl hl.1 (Nat.le_of_ble_eq_true rfl) dX1_offerValues_75 ⟨Nat.le_of_ble_eq_true rfl, Nat.le_of_ble_eq_true rfl⟩) hS ?_
          rintro G75 H locs ⟨hF75, t75, oq75, oq75a⟩ hT hS
          have t75 : ((G.1 a 3).toInt) ≤ ((G75.1 a 3).toInt) ∧ ((G75.1 a 3).toInt) ≤ ((G.1 a 3).toInt) + 1 := t75
          have oq75a : ∀ y : Int, MB (G75.2.1 (F a 2)) ((G75.1 a 3).toInt) y ↔ MB (G.2.1 (F a 2)) ((G.1 a 3).toInt) y ∨ y = (cel (vw (G.2.1 (F p2 0))) ((G.1 p0 2).toInt) (p3.toInt) ((G.1 p0 3).toInt)) := by simp only [(t27 : Int32.toInt x27 = (cel (vw (G.2.1 (F p2 0))) ((G.1 p0 2).toInt) (p3.toInt) ((G.1 p0 3).toInt)))] at oq75a; exact oq75a
          exact x_rv hx hb hr hlk hQ (Nat.le_of_ble_eq_true rfl) (Nat.le_of_ble_eq_true rfl) hS dX1_offerValues_78 G75 ⟨(XFr.call XFr.rf hF75 (xm1 0 rfl xm0) (xm1 0 rfl xm0) xm0), (z_X1_offerValues_3 ((G.1 a 3).toInt) ((G75.1 a 3).toInt) t75), (v_X1_offerValues_78_15 a G G75 so oq75), (v_X1_offerValues_78_16 a p0 p1 p2 G G75 p3 x51 x66 ha hp0 hp1 hp2 so oq75 oq75a s0 c36 c44 t51 c54 t66 c69 t75)⟩ hT
      · refine lv_aload_n hx hb dX1_offerValues_57 rfl (lv_at hl 2 rfl) ?_
        refine lv_iload hx hb dX1_offerValues_58 (lv_at hl 1 rfl) ?_
        refine x_cv0 (x_runV (b := a) (As := [.int x11]) (rest := []) S (c_X1_insert l E K F G a x11 ha (z_X1_offerValues_2 ((G.1 a 3).toInt) s0) (v_X1_offerValues_60_17 a G so)) mv_X1_insert km_X1_93 rfl rfl ⟨Nat.le_of_ble_eq_true rfl, Nat.le_of_ble_eq_true rfl⟩ (rc_3 hK hT ha) hK (fun _ => XP.blind) (fun U hU hW => XP.at hK hz hS hT hU hW) rfl hl.1 (Nat.le_of_ble_eq_true rfl) dX1_offerValues_60 ⟨Nat.le_of_ble_eq_true rfl, Nat.le_of_ble_eq_true rfl⟩) hS ?_
        rintro G60 H locs ⟨hF60, t60, oq60, oq60a⟩ hT hS
        have t60 : ((G.1 a 3).toInt) ≤ ((G60.1 a 3).toInt) ∧ ((G60.1 a 3).toInt) ≤ ((G.1 a 3).toInt) + 1 := t60
        have oq60a : ∀ y : Int, MB (G60.2.1 (F a 2)) ((G60.1 a 3).toInt) y ↔ MB (G.2.1 (F a 2)) ((G.1 a 3).toInt) y ∨ y = (cel (vw (G.2.1 (F p1 0))) ((G.1 p0 2).toInt) (p3.toInt) ((G.1 p0 3).toInt)) := by simp only [(t11 : Int32.toInt x11 = (cel (vw (G.2.1 (F p1 0))) ((G.1 p0 2).toInt) (p3.toInt) ((G.1 p0 3).toInt)))] at oq60a; exact oq60a
        refine lv_aload_n hx hb dX1_offerValues_63 rfl (lv_at hl 3 rfl) ?_
        refine lv_iload hx hb dX1_offerValues_64 (lv_at hl 0 rfl) ?_
        refine x_clp (x_runV (b := p0) (As := [.int x27]) (rest := []) S (c_X7_isSubject l E K F G60 H p0 x27 hp0) mv_X7_isSubject km_X1_90 rfl rfl ⟨Nat.le_of_ble_eq_true rfl, Nat.le_of_ble_eq_true rfl⟩ (rc_9 hK hT hp0) hK (fun _ => XPh.blind) (fun U hU hW => XPh.at hK hz hS hT hU hW) rfl hl.1 (Nat.le_of_ble_eq_true rfl) dX1_offerValues_66 ⟨Nat.le_of_ble_eq_true rfl, Nat.le_of_ble_eq_true rfl⟩) hS ?_
        rintro _ _ locs ⟨x66, rfl, b66, t66⟩ hS
        have t66 : ((((((G.1 p0 0).toInt) = 2 ∨ ((G.1 p0 0).toInt) = 4 ∨ ((G.1 p0 0).toInt) = 5) ∧ 0 ≤ (cel (vw (G.2.1 (F p2 0))) ((G.1 p0 2).toInt) (p3.toInt) ((G.1 p0 3).toInt)) ∧ (cel (vw (G.2.1 (F p2 0))) ((G.1 p0 2).toInt) (p3.toInt) ((G.1 p0 3).toInt)) < 30) ∨ (¬ (((G.1 p0 0).toInt) = 2 ∨ ((G.1 p0 0).toInt) = 4 ∨ ((G.1 p0 0).toInt) = 5) ∧ -99 ≤ (cel (vw (G.2.1 (F p2 0))) ((G.1 p0 2).toInt) (p3.toInt) ((G.1 p0 3).toInt)) ∧ (cel (vw (G.2.1 (F p2 0))) ((G.1 p0 2).toInt) (p3.toInt) ((G.1 p0 3).toInt)) ≤ 99)) ∧ x66.toInt = 1) ∨ (¬ (((((G.1 p0 0).toInt) = 2 ∨ ((G.1 p0 0).toInt) = 4 ∨ ((G.1 p0 0).toInt) = 5) ∧ 0 ≤ (cel (vw (G.2.1 (F p2 0))) ((G.1 p0 2).toInt) (p3.toInt) ((G.1 p0 3).toInt)) ∧ (cel (vw (G.2.1 (F p2 0))) ((G.1 p0 2).toInt) (p3.toInt) ((G.1 p0 3).toInt)) < 30) ∨ (¬ (((G.1 p0 0).toInt) = 2 ∨ ((G.1 p0 0).toInt) = 4 ∨ ((G.1 p0 0).toInt) = 5) ∧ -99 ≤ (cel (vw (G.2.1 (F p2 0))) ((G.1 p0 2).toInt) (p3.toInt) ((G.1 p0 3).toInt)) ∧ (cel (vw (G.2.1 (F p2 0))) ((G.1 p0 2).toInt) (p3.toInt) ((G.1 p0 3).toInt)) ≤ 99)) ∧ x66.toInt = 0) := by rw [(t27 : Int32.toInt x27 = (cel (vw (G.2.1 (F p2 0))) ((G.1 p0 2).toInt) (p3.toInt) ((G.1 p0 3).toInt)))] at t66; rw [(show (G60.1 p0 0).toInt = ((G.1 p0 0).toInt) from (congrArg Int32.toInt (hF60.1 _ _ (xnj (by decide) xn0))).trans (rfl : Int32.toInt (G.1 p0 0) = ((G.1 p0 0).toInt)))] at t66; exact t66
        refine xi_zeq (tgt := 78) hx hb (rfl : Int32.toInt x66 = x66.toInt) dX1_offerValues_69 (by decide) (fun c69 => ?_) (fun c69 => ?_)
        · exact x_rv hx hb hr hlk hQ (Nat.le_of_ble_eq_true rfl) (Nat.le_of_ble_eq_true rfl) hS dX1_offerValues_78 G60 ⟨(XFr.call XFr.rf hF60 (xm1 0 rfl xm0) (xm1 0 rfl xm0) xm0), (z_X1_offerValues_3 ((G.1 a 3).toInt) ((G60.1 a 3).toInt) t60), (v_X1_offerValues_78_18 a G G60 so oq60), (v_X1_offerValues_78_19 a p0 p1 p2 G G60 p3 x51 x66 ha hp0 hp1 hp2 so oq60 oq60a s0 c36 c44 t51 c54 t60 t66 c69)⟩ hT
        · refine lv_aload_n hx hb dX1_offerValues_72 rfl (lv_at hl 2 rfl) ?_
          refine lv_iload hx hb dX1_offerValues_73 (lv_at hl 0 rfl) ?_
          refine x_cv0 (x_runV (b := a) (As := [.int x27]) (rest := []) S (c_X1_insert l E K F G60 a x27 ha (z_X1_offerValues_6 ((G.1 a 3).toInt) ((G60.1 a 3).toInt) s0 t60) (v_X1_offerValues_75_20 a G G60 so oq60)) mv_X1_insert km_X1_93 rfl rfl ⟨Nat.le_of_ble_eq_true rfl, Nat.le_of_ble_eq_true rfl⟩ (rc_3 hK hT ha) hK (fun _ => XP.blind) (fun U hU hW => XP.at hK hz hS hT hU hW) rfl hl.1 (Nat.le_of_ble_eq_true rfl) dX1_offerValues_75 ⟨Nat.le_of_ble_eq_true rfl, Nat.le_of_ble_eq_true rfl⟩) hS ?_
          rintro G75 H locs ⟨hF75, t75, oq75, oq75a⟩ hT hS
          have t75 : ((G60.1 a 3).toInt) ≤ ((G75.1 a 3).toInt) ∧ ((G75.1 a 3).toInt) ≤ ((G60.1 a 3).toInt) + 1 := t75
          have oq75a : ∀ y : Int, MB (G75.2.1 (F a 2)) ((G75.1 a 3).toInt) y ↔ MB (G60.2.1 (F a 2)) ((G60.1 a 3).toInt) y ∨ y = (cel (vw (G.2.1 (F p2 0))) ((G.1 p0 2).toInt) (p3.toInt) ((G.1 p0 3).toInt)) := by simp only [(t27 : Int32.toInt x27 = (cel (vw (G.2.1 (F p2 0))) ((G.1 p0 2).toInt) (p3.toInt) ((G.1 p0 3).toInt)))] at oq75a; exact oq75a
          exact x_rv hx hb hr hlk hQ (Nat.le_of_ble_eq_true rfl) (Nat.le_of_ble_eq_true rfl) hS dX1_offerValues_78 G75 ⟨(XFr.call (XFr.call XFr.rf hF60 (xm1 0 rfl xm0) (xm1 0 rfl xm0) xm0) hF75 (xm1 0 rfl xm0) (xm1 0 rfl xm0) xm0), (z_X1_offerValues_7 ((G.1 a 3).toInt) ((G60.1 a 3).toInt) ((G75.1 a 3).toInt) t60 t75), (v_X1_offerValues_78_21 a G G60 G75 so oq60 oq75), (v_X1_offerValues_78_22 a p0 p1 p2 G G60 G75 p3 x51 x66 ha hp0 hp1 hp2 so oq60 oq60a oq75 oq75a s0 c36 c44 t51 c54 t60 t66 c69 t75)⟩ hT
    · exact x_rv hx hb hr hlk hQ (Nat.le_of_ble_eq_true rfl) (Nat.le_of_ble_eq_true rfl) hS dX1_offerValues_47 G ⟨XFr.rf, (z_X1_offerValues_1 ((G.1 a 3).toInt)), (v_X1_offerValues_47_23 a G so), (v_X1_offerValues_47_24 a p0 p1 p2 G p3 ha hp0 hp1 hp2 so s0 c36 c44)⟩ hT

theorem z_X1_offerByRows_1 (a0 : Int) (a1 : Int) (h0 : 0 ≤ a1 ∧ a1 ≤ 2) (h1 : (a0 = 1 ∧ 0 ≤ a1 ∧ a1 < 3) ∨ (a0 = 0 ∧ (a1 < 0 ∨ 3 ≤ a1))) (h2 : a0 = 0) : (0 : Int) = 1 ∧ a0 = a0 := by omega
theorem z_X1_offerByRows_2 (a0 : Int) (h0 : 0 ≤ a0 ∧ a0 ≤ 2) : 0 ≤ a0 ∧ a0 < ((3 : Nat) : Int) := by omega
theorem z_X1_offerByRows_3 (a0 : Int) (h0 : a0 = 0) : 0 ≤ a0 ∧ a0 ≤ 60 := by omega
theorem z_X1_offerByRows_4 (a0 : Int) (a1 : Int) (h0 : a0 = 0) (h1 : a0 ≤ a1 ∧ a1 ≤ a0 + 30) : 0 ≤ a1 ∧ a1 ≤ 60 := by omega
theorem z_X1_offerByRows_5 (a0 : Int) (h0 : 0 ≤ a0 ∧ a0 ≤ 30) : ¬ (2147483648 - a0 < ((0 : Nat) : Int)) := by omega
theorem z_X1_offerByRows_6 (a0 : Int) (a1 : Int) (h0 : 0 ≤ a0 ∧ a0 ≤ 30) (h1 : 0 ≤ a1 ∧ a1 ≤ 2 * a0) : 0 ≤ a1 ∧ a1 ≤ 60 := by omega
theorem z_X1_offerByRows_7 (a0 : Int) (a1 : Int) (h0 : 0 ≤ a1 ∧ a1 ≤ 2 * a0) (h1 : ¬ ((30 : Int) ≤ a0)) : 0 ≤ a1 ∧ a1 ≤ 60 := by omega
theorem z_X1_offerByRows_8 (a0 : Int) (h0 : 0 ≤ a0 ∧ a0 ≤ 30) : 0 ≤ a0 ∧ a0 < 32 := by omega
theorem z_X1_offerByRows_9 (a0 : Int) (a1 : Int) (h0 : 0 ≤ a0 ∧ a0 ≤ 30) (h1 : a1 = (a0 + 1) ∨ (a0 + 1) < -2147483648 ∨ 2147483648 ≤ (a0 + 1)) : a1 = (a0 + 1) := by omega
theorem z_X1_offerByRows_10 (a0 : Int) (h0 : 0 ≤ a0 ∧ a0 ≤ 30) (h1 : ¬ ((30 : Int) ≤ a0)) : 0 ≤ (a0 + 1) ∧ (a0 + 1) ≤ 30 := by omega
theorem z_X1_offerByRows_11 (a0 : Int) (a1 : Int) (h0 : 0 ≤ a1 ∧ a1 ≤ 2 * a0) : 0 ≤ a1 ∧ a1 ≤ 2 * (a0 + 1) := by omega
theorem z_X1_offerByRows_12 (a0 : Int) (h0 : 0 ≤ a0 ∧ a0 ≤ 30) : (0 : Int) ≤ (a0 + 1) := by omega
theorem z_X1_offerByRows_13 (a0 : Int) (a1 : Nat) (h0 : 2147483648 - a0 < ((a1 + 1 : Nat) : Int)) : 2147483648 - (a0 + 1) < ((a1 : Nat) : Int) := by omega
theorem z_X1_offerByRows_14 (a0 : Int) (a1 : Int) (h0 : 0 ≤ a1 ∧ a1 ≤ 2 * a0) (h1 : ¬ ((30 : Int) ≤ a0)) : 0 ≤ a1 ∧ a1 ≤ 88 := by omega
theorem z_X1_offerByRows_17 (a0 : Int) (a1 : Int) (a2 : Int) (h0 : 0 ≤ a2 ∧ a2 ≤ 2 * a0) (h1 : a2 ≤ a1 ∧ a1 ≤ a2 + 2) : 0 ≤ a1 ∧ a1 ≤ 2 * (a0 + 1) := by omega
theorem z_X1_offerByRows_20 (a0 : Int) (h0 : a0 = 0) : 0 ≤ a0 ∧ a0 ≤ 2 * (0 : Int) := by omega
abbrev rm_X1_offerByRows : Room := { frames := 3, cells := 0, slots := 0, locals := 70 }
set_option maxHeartbeats 4000000 in
set_option maxRecDepth 100000 in
theorem c_X1_offerByRows (l : Launch) (E : XE) (K : Nat → Nat) (F : Nat → Nat → Nat) (G : XG) (a : Nat) (p0 : Nat) (p1 : Nat) (p2 : Nat) (ha : K a = 3) (hp0 : K p0 = 9) (hp1 : K p1 = 8) (hp2 : K p2 = 8) (s0 : ((G.1 a 3).toInt) = 0) (hrw : RW (G.1 p0)) : Met l yX1_offerByRows (xw yX1_offerByRows cX1_offerByRows 6 none) rm_X1_offerByRows (va_Pc [.ref a, .ref p0, .ref p1, .ref p2] (XP E K F G)) (XQv E (fun (u : XG) => XFr [(a, 3)] [F a 2] [] G u ∧ (0 ≤ ((u.1 a 3).toInt) ∧ ((u.1 a 3).toInt) ≤ 60) ∧ (SO (u.2.1 (F a 2)) ((u.1 a 3).toInt)) ∧ (∀ y : Int, MB (u.2.1 (F a 2)) ((u.1 a 3).toInt) y ↔ ((((G.1 p0 0).toInt) = 2 ∨ ((G.1 p0 0).toInt) = 5) ∧ 0 ≤ y ∧ y < 30 ∧ bI (aI (G.2.1 (F a 0)) ((G.1 p0 2).toInt)) y = 1) ∨ (¬ (((G.1 p0 0).toInt) = 2 ∨ ((G.1 p0 0).toInt) = 5) ∧ ∃ k : Int, 0 ≤ k ∧ k < 30 ∧ bI (aI (G.2.1 (F a 0)) ((G.1 p0 2).toInt)) k = 1 ∧ OV ((G.1 p0 0).toInt) (cel (vw (G.2.1 (F p1 0))) ((G.1 p0 2).toInt) k ((G.1 p0 3).toInt)) (cel (vw (G.2.1 (F p2 0))) ((G.1 p0 2).toInt) k ((G.1 p0 3).toInt)) y))) (fun u H => TW E K F u H)) 0 0 (xA E) := by
  refine x_enter (by decide) (Nat.le_of_ble_eq_true rfl) ?_
  intro p e s m args below meth c Q S hr hlk hnm hQ hP ls hl
  obtain ⟨hz, hK, hT⟩ := hP
  obtain ⟨hx, hb, -, -, -⟩ := id S
  obtain ⟨H, hT, hS, hgo⟩ : ∃ H : Heap, TW E K F G H ∧ va_S (xA E) s.heap H [] ∧ H = s.heap := ⟨_, hT, va_S.rf, rfl⟩
  rw [← hgo]
  have hl : lv_has ls 6 [(0, .ref a), (1, .ref p0), (2, .ref p1), (3, .ref p2)] := hl
  obtain ⟨hk9999, hj9999⟩ := fkX1_2 hT ha
  obtain ⟨hk9999a, hj9999a⟩ := fkX6_0 hT hp1
  obtain ⟨hk9999b, hj9999b⟩ := fkX6_0 hT hp2
  obtain ⟨hk9999c, hj9999c⟩ := fkX1_0 hT ha
  have z0 : (0 ≤ ((G.1 p0 0).toInt) ∧ ((G.1 p0 0).toInt) ≤ 5) ∧ (0 ≤ ((G.1 p0 2).toInt) ∧ ((G.1 p0 2).toInt) ≤ 2) ∧ (0 ≤ ((G.1 p0 3).toInt) ∧ ((G.1 p0 3).toInt) ≤ 2) ∧ (-1 ≤ ((G.1 p0 4).toInt) ∧ ((G.1 p0 4).toInt) ≤ 2) ∧ (((G.1 p0 0).toInt) = 1 ∨ ((G.1 p0 0).toInt) = 3 ∨ ((G.1 p0 0).toInt) = 4 → 0 ≤ ((G.1 p0 4).toInt)) := RW.f hrw
  refine lv_aload_n hx hb dX1_offerByRows_0 rfl (lv_at hl 1 rfl) ?_
  refine gX7_2 S hK hT hp0 kf_X1_73 dX1_offerByRows_1 (v := (G.1 p0 2)) rfl (?_)
  refine x_clp (x_runSN (As := [.int (G.1 p0 2)]) (rest := []) S (c_X10_isTable l E K F G H (G.1 p0 2)) ms_X10_isTable (by decide +kernel) rfl rfl ⟨Nat.le_of_ble_eq_true rfl, Nat.le_of_ble_eq_true rfl⟩ hK (fun _ => XPh.blind) (fun U hU hW => XPh.at hK hz hS hT hU hW) rfl hl.1 (Nat.le_of_ble_eq_true rfl) dX1_offerByRows_4 ⟨Nat.le_of_ble_eq_true rfl, Nat.le_of_ble_eq_true rfl⟩) hS ?_
  rintro _ _ locs ⟨x4, rfl, b4, t4⟩ hS
  have t4 : (x4.toInt = 1 ∧ 0 ≤ ((G.1 p0 2).toInt) ∧ ((G.1 p0 2).toInt) < 3) ∨ (x4.toInt = 0 ∧ (((G.1 p0 2).toInt) < 0 ∨ 3 ≤ ((G.1 p0 2).toInt))) := t4
  refine xi_zeq (tgt := 22) hx hb (rfl : Int32.toInt x4 = x4.toInt) dX1_offerByRows_7 (by decide) (fun c7 => ?_) (fun c7 => ?_)
  · exact absurd ((z_X1_offerByRows_1 x4.toInt ((G.1 p0 2).toInt) (z0).2.1 t4 c7)).1 (by decide)
  · refine lv_aload_n hx hb dX1_offerByRows_10 rfl (lv_at hl 0 rfl) ?_
    refine gX1_0 S hK hT ha kf_X1_9 dX1_offerByRows_11 (fun _ _ => ?_)
    refine lv_aload_n hx hb dX1_offerByRows_14 rfl (lv_at hl 1 rfl) ?_
    refine gX7_2 S hK hT hp0 kf_X1_73 dX1_offerByRows_15 (v := (G.1 p0 2)) rfl (?_)
    refine al_0 S hK hT hk9999c ar_21 (by decide) (z_X1_offerByRows_2 ((G.1 p0 2).toInt) (z0).2.1) dX1_offerByRows_18 (fun x18 hv18 o18 => ?_)
    have hv18 : x18.toInt = (aI (G.2.1 (F a 0)) ((G.1 p0 2).toInt)) := hv18.trans (by rw [(rfl : Int32.toInt (G.1 p0 2) = ((G.1 p0 2).toInt))])
    refine lv_goto (tgt := 23) hx hb dX1_offerByRows_19 (by decide) ?_
    refine lv_istore (lv' := [(4, .int x18), (0, .ref a), (1, .ref p0), (2, .ref p1), (3, .ref p2)]) hx hb dX1_offerByRows_23 hl (by decide) rfl (fun ls hl => ?_)
    refine lv_aload_n hx hb dX1_offerByRows_25 rfl (lv_at hl 2 rfl) ?_
    refine gX7_0 S hK hT hp0 kf_X1_76 dX1_offerByRows_26 (v := (G.1 p0 0)) rfl (?_)
    refine lv_iconst (v := 2) hx hb dX1_offerByRows_29 (by decide) ?_
    refine xi_ceq (tgt := 41) hx hb (rfl : Int32.toInt (G.1 p0 0) = ((G.1 p0 0).toInt)) ((by decide) : Int32.toInt 2 = (2 : Int)) dX1_offerByRows_30 (by decide) (fun c30 => ?_) (fun c30 => ?_)
    · refine lv_aload_n hx hb dX1_offerByRows_41 rfl (lv_at hl 1 rfl) ?_
      refine lv_iload hx hb dX1_offerByRows_42 (lv_at hl 0 rfl) ?_
      refine x_cv0 (x_runV (b := a) (As := [.int x18]) (rest := []) S (c_X1_offerKeys l E K F G a x18 ha (z_X1_offerByRows_3 ((G.1 a 3).toInt) s0) (v_X1_offerByRows_44_1 a p0 p1 p2 G x4 ha hp0 hp1 hp2 s0 z0 t4 c7 c30)) mv_X1_offerKeys km_X1_55 rfl rfl ⟨Nat.le_of_ble_eq_true rfl, Nat.le_of_ble_eq_true rfl⟩ (rc_3 hK hT ha) hK (fun _ => XP.blind) (fun U hU hW => XP.at hK hz hS hT hU hW) rfl hl.1 (Nat.le_of_ble_eq_true rfl) dX1_offerByRows_44 ⟨Nat.le_of_ble_eq_true rfl, Nat.le_of_ble_eq_true rfl⟩) hS ?_
      rintro G44 H locs ⟨hF44, t44, oq44, oq44a⟩ hT hS
      have t44 : ((G.1 a 3).toInt) ≤ ((G44.1 a 3).toInt) ∧ ((G44.1 a 3).toInt) ≤ ((G.1 a 3).toInt) + 30 := t44
      have oq44a : ∀ y : Int, MB (G44.2.1 (F a 2)) ((G44.1 a 3).toInt) y ↔ MB (G.2.1 (F a 2)) ((G.1 a 3).toInt) y ∨ (0 ≤ y ∧ y < 30 ∧ bI (aI (G.2.1 (F a 0)) ((G.1 p0 2).toInt)) y = 1) := by simp only [(hv18 : Int32.toInt x18 = (aI (G.2.1 (F a 0)) ((G.1 p0 2).toInt)))] at oq44a; exact oq44a
      exact x_rv hx hb hr hlk hQ (Nat.le_of_ble_eq_true rfl) (Nat.le_of_ble_eq_true rfl) hS dX1_offerByRows_47 G44 ⟨(XFr.call XFr.rf hF44 (xm1 0 rfl xm0) (xm1 0 rfl xm0) xm0), (z_X1_offerByRows_4 ((G.1 a 3).toInt) ((G44.1 a 3).toInt) s0 t44), (v_X1_offerByRows_47_2 a G44 oq44), (v_X1_offerByRows_47_3 a p0 p1 p2 G G44 x18 x4 ha hp0 hp1 hp2 hv18 oq44 oq44a s0 z0 t4 c7 c30 t44)⟩ hT
    · refine lv_aload_n hx hb dX1_offerByRows_33 rfl (lv_at hl 2 rfl) ?_
      refine gX7_0 S hK hT hp0 kf_X1_76 dX1_offerByRows_34 (v := (G.1 p0 0)) rfl (?_)
      refine lv_iconst (v := 5) hx hb dX1_offerByRows_37 (by decide) ?_
      refine xi_cne (tgt := 48) hx hb (rfl : Int32.toInt (G.1 p0 0) = ((G.1 p0 0).toInt)) ((by decide) : Int32.toInt 5 = (5 : Int)) dX1_offerByRows_38 (by decide) (fun c38 => ?_) (fun c38 => ?_)
      · refine lv_iconst (v := 0) hx hb dX1_offerByRows_48 (by decide) ?_
        refine lv_istore (lv' := [(5, .int 0), (4, .int x18), (0, .ref a), (1, .ref p0), (2, .ref p1), (3, .ref p2)]) hx hb dX1_offerByRows_49 hl (by decide) rfl (fun ls hl => ?_)
        have L51 : ∀ (N51 : Nat) (l5_51 : Int32) (G_51 : XG) (H : Heap) (locs : List Loc) (ls : Array Slot), XFr [(a, 3)] [F a 2] [] G G_51 → SO (G_51.2.1 (F a 2)) ((G_51.1 a 3).toInt) → (∀ y : Int, MB (G_51.2.1 (F a 2)) ((G_51.1 a 3).toInt) y ↔ ∃ k : Int, 0 ≤ k ∧ k < l5_51.toInt ∧ bI (aI (G.2.1 (F a 0)) ((G.1 p0 2).toInt)) k = 1 ∧ OV ((G.1 p0 0).toInt) (cel (vw (G.2.1 (F p1 0))) ((G.1 p0 2).toInt) k ((G.1 p0 3).toInt)) (cel (vw (G.2.1 (F p2 0))) ((G.1 p0 2).toInt) k ((G.1 p0 3).toInt)) y) → 0 ≤ l5_51.toInt ∧ l5_51.toInt ≤ 30 → 0 ≤ ((G_51.1 a 3).toInt) ∧ ((G_51.1 a 3).toInt) ≤ 2 * l5_51.toInt → (0 : Int) ≤ l5_51.toInt → 2147483648 - l5_51.toInt < ((N51 : Nat) : Int) → TW E K F G_51 H → va_S (xA E) s.heap H locs → lv_has ls 6 [(0, .ref a), (1, .ref p0), (2, .ref p1), (3, .ref p2), (4, .int x18), (5, .int l5_51)] → W p l e rm_X1_offerByRows s m args below meth c H locs 0 0 Q (F0 m 51 ls []) := by
          intro N51
          induction N51 with
          | zero =>
            intro l5_51 G_51 H locs ls hF_51 ps pm I51_0 I51_1 I51_2 hm51
            exact absurd hm51 (z_X1_offerByRows_5 l5_51.toInt I51_0)
          | succ N51 ih51 =>
            intro l5_51 G_51 H locs ls hF_51 ps pm I51_0 I51_1 I51_2 hm51 hT hS hl
            refine lv_iload hx hb dX1_offerByRows_51 (lv_at hl 5 rfl) ?_
            refine lv_bipush (v := 30) hx hb dX1_offerByRows_53 (by decide) ?_
            refine xi_cge (tgt := 91) hx hb (rfl : Int32.toInt l5_51 = l5_51.toInt) ((by decide) : Int32.toInt 30 = (30 : Int)) dX1_offerByRows_55 (by decide) (fun c55 => ?_) (fun c55 => ?_)
            · exact x_rv hx hb hr hlk hQ (Nat.le_of_ble_eq_true rfl) (Nat.le_of_ble_eq_true rfl) hS dX1_offerByRows_91 G_51 ⟨(XFr.call XFr.rf hF_51 (xm1 0 rfl xm0) (xm1 0 rfl xm0) xm0), (z_X1_offerByRows_6 l5_51.toInt ((G_51.1 a 3).toInt) I51_0 I51_1), (v_X1_offerByRows_91_4 a G_51 ps), (v_X1_offerByRows_91_5 a p0 p1 p2 G G_51 x18 l5_51 x4 N51 ha hp0 hp1 hp2 hv18 ps pm s0 z0 t4 c7 c30 c38 I51_0 I51_1 I51_2 hm51 c55)⟩ hT
            · refine lv_iload hx hb dX1_offerByRows_58 (lv_at hl 4 rfl) ?_
              refine lv_iload hx hb dX1_offerByRows_60 (lv_at hl 5 rfl) ?_
              refine lv_ishr hx hb dX1_offerByRows_62 (lv_topi (fun x62 he62 => ?_))
              refine xi_zeq (tgt := 91) hx hb (rfl : Int32.toInt x62 = x62.toInt) dX1_offerByRows_63 (by decide) (fun c63 => ?_) (fun c63 => ?_)
              · exact x_rv hx hb hr hlk hQ (Nat.le_of_ble_eq_true rfl) (Nat.le_of_ble_eq_true rfl) hS dX1_offerByRows_91 G_51 ⟨(XFr.call XFr.rf hF_51 (xm1 0 rfl xm0) (xm1 0 rfl xm0) xm0), (z_X1_offerByRows_7 l5_51.toInt ((G_51.1 a 3).toInt) I51_1 c55), (v_X1_offerByRows_91_6 a G_51 ps), (v_X1_offerByRows_91_7 a p0 p1 p2 G G_51 x18 l5_51 x62 x4 N51 ha hp0 hp1 hp2 hv18 ps pm he62 s0 z0 t4 c7 c30 c38 I51_0 I51_1 I51_2 hm51 c55 c63)⟩ hT
              · refine lv_iload hx hb dX1_offerByRows_66 (lv_at hl 4 rfl) ?_
                refine lv_iload hx hb dX1_offerByRows_68 (lv_at hl 5 rfl) ?_
                refine lv_ishr hx hb dX1_offerByRows_70 (lv_topi (fun x70 he70 => ?_))
                refine lv_iconst (v := 1) hx hb dX1_offerByRows_71 (by decide) ?_
                refine lv_iand hx hb dX1_offerByRows_72 (lv_topi (fun x72 he72 => ?_))
                have hb72 : x72.toInt = (bI (aI (G.2.1 (F a 0)) ((G.1 p0 2).toInt)) (l5_51.toInt)) := bI_and he70 he72 (hv18 : Int32.toInt x18 = (aI (G.2.1 (F a 0)) ((G.1 p0 2).toInt))) (rfl : Int32.toInt l5_51 = l5_51.toInt) (z_X1_offerByRows_8 l5_51.toInt I51_0)
                have hb72a : x72.toInt = 0 ∨ x72.toInt = 1 := by rw [hb72]; exact bI01 _ _
                refine xi_zeq (tgt := 85) hx hb (rfl : Int32.toInt x72 = x72.toInt) dX1_offerByRows_73 (by decide) (fun c73 => ?_) (fun c73 => ?_)
                · refine xi_iinc (n := 1) (lv' := fun z9 => [(5, .int z9), (0, .ref a), (1, .ref p0), (2, .ref p1), (3, .ref p2), (4, .int x18)]) (k := 5) hx hb (rfl : Int32.toInt l5_51 = l5_51.toInt) (by decide) dX1_offerByRows_85 hl rfl (by decide) (fun _ => rfl) (fun x85 ls t85 hl => ?_)
                  have e85 : x85.toInt = (l5_51.toInt + 1) := (z_X1_offerByRows_9 l5_51.toInt x85.toInt I51_0 t85)
                  have hl : lv_has ls 6 [(5, .int x85), (0, .ref a), (1, .ref p0), (2, .ref p1), (3, .ref p2), (4, .int x18)] := hl
                  refine lv_goto (tgt := 51) hx hb dX1_offerByRows_88 (by decide) ?_
                  exact ih51 x85 G_51 _ _ _ (XFr.call XFr.rf hF_51 (xm1 0 rfl xm0) (xm1 0 rfl xm0) xm0) (v_X1_offerByRows_88_8 a G_51 ps) (by rw [(e85 : Int32.toInt x85 = (l5_51.toInt + 1))] <;> exact (v_X1_offerByRows_88_9 a p0 p1 p2 G G_51 x18 l5_51 x62 x70 x72 x4 N51 ha hp0 hp1 hp2 hv18 ps pm he62 he70 he72 s0 z0 t4 c7 c30 c38 I51_0 I51_1 I51_2 hm51 c55 c63 hb72 hb72a c73)) (by rw [(e85 : Int32.toInt x85 = (l5_51.toInt + 1))] <;> exact (z_X1_offerByRows_10 l5_51.toInt I51_0 c55)) (by rw [(e85 : Int32.toInt x85 = (l5_51.toInt + 1))] <;> exact (z_X1_offerByRows_11 l5_51.toInt ((G_51.1 a 3).toInt) I51_1)) (by rw [(e85 : Int32.toInt x85 = (l5_51.toInt + 1))] <;> exact (z_X1_offerByRows_12 l5_51.toInt I51_0)) (by rw [(e85 : Int32.toInt x85 = (l5_51.toInt + 1))] <;> exact (z_X1_offerByRows_13 l5_51.toInt N51 hm51)) hT hS (lv_sub hl [1, 2, 3, 4, 5, 0] rfl)
                · refine lv_aload_n hx hb dX1_offerByRows_76 rfl (lv_at hl 0 rfl) ?_
                  refine lv_aload_n hx hb dX1_offerByRows_77 rfl (lv_at hl 1 rfl) ?_
                  refine lv_aload_n hx hb dX1_offerByRows_78 rfl (lv_at hl 2 rfl) ?_
                  refine lv_aload_n hx hb dX1_offerByRows_79 rfl (lv_at hl 3 rfl) ?_
                  refine lv_iload hx hb dX1_offerByRows_80 (lv_at hl 5 rfl) ?_
                  refine x_cv0 (x_runV (b := a) (As := [.ref p0, .ref p1, .ref p2, .int l5_51]) (rest := []) S (c_X1_offerValues l E K F G_51 a p0 p1 p2 l5_51 ha hp0 hp1 hp2 (z_X1_offerByRows_14 l5_51.toInt ((G_51.1 a 3).toInt) I51_1 c55) (v_X1_offerByRows_82_10 a G_51 ps)) mv_X1_offerValues km_X1_79 rfl rfl ⟨Nat.le_of_ble_eq_true rfl, Nat.le_of_ble_eq_true rfl⟩ (rc_3 hK hT ha) hK (fun _ => XP.blind) (fun U hU hW => XP.at hK hz hS hT hU hW) rfl hl.1 (Nat.le_of_ble_eq_true rfl) dX1_offerByRows_82 ⟨Nat.le_of_ble_eq_true rfl, Nat.le_of_ble_eq_true rfl⟩) hS ?_
                  rintro G82 H locs ⟨hF82, t82, oq82, oq82a⟩ hT hS
                  have t82 : ((G_51.1 a 3).toInt) ≤ ((G82.1 a 3).toInt) ∧ ((G82.1 a 3).toInt) ≤ ((G_51.1 a 3).toInt) + 2 := t82
                  have oq82a : ∀ y : Int, MB (G82.2.1 (F a 2)) ((G82.1 a 3).toInt) y ↔ MB (G_51.2.1 (F a 2)) ((G_51.1 a 3).toInt) y ∨ OV ((G.1 p0 0).toInt) (cel (vw (G.2.1 (F p1 0))) ((G.1 p0 2).toInt) (l5_51.toInt) ((G.1 p0 3).toInt)) (cel (vw (G.2.1 (F p2 0))) ((G.1 p0 2).toInt) (l5_51.toInt) ((G.1 p0 3).toInt)) y := by simp only [(show G_51.1 p0 0 = G.1 p0 0 from (hF_51.1 _ _ (xnj (by decide) xn0))), (show G_51.2.1 (F p1 0) = G.2.1 (F p1 0) from (hF_51.2.1 _ (xn1 (xne_k hk9999a hk9999 (by decide)) xn0))), (show G_51.1 p0 2 = G.1 p0 2 from (hF_51.1 _ _ (xnj (by decide) xn0))), (show G_51.1 p0 3 = G.1 p0 3 from (hF_51.1 _ _ (xna (xne_k hp0 ha (by decide)) xn0))), (show G_51.2.1 (F p2 0) = G.2.1 (F p2 0) from (hF_51.2.1 _ (xn1 (xne_k hk9999b hk9999 (by decide)) xn0)))] at oq82a; exact oq82a
                  refine xi_iinc (n := 1) (lv' := fun z9 => [(5, .int z9), (0, .ref a), (1, .ref p0), (2, .ref p1), (3, .ref p2), (4, .int x18)]) (k := 5) hx hb (rfl : Int32.toInt l5_51 = l5_51.toInt) (by decide) dX1_offerByRows_85 hl rfl (by decide) (fun _ => rfl) (fun x85 ls t85 hl => ?_)
                  have e85 : x85.toInt = (l5_51.toInt + 1) := (z_X1_offerByRows_9 l5_51.toInt x85.toInt I51_0 t85)
                  have hl : lv_has ls 6 [(5, .int x85), (0, .ref a), (1, .ref p0), (2, .ref p1), (3, .ref p2), (4, .int x18)] := hl
                  refine lv_goto (tgt := 51) hx hb dX1_offerByRows_88 (by decide) ?_
                  exact ih51 x85 G82 _ _ _ (XFr.call (XFr.call XFr.rf hF_51 (xm1 0 rfl xm0) (xm1 0 rfl xm0) xm0) hF82 (xm1 0 rfl xm0) (xm1 0 rfl xm0) xm0) (v_X1_offerByRows_88_11 a G_51 G82 ps oq82) (by rw [(e85 : Int32.toInt x85 = (l5_51.toInt + 1))] <;> exact (v_X1_offerByRows_88_12 a p0 p1 p2 G G_51 G82 x18 l5_51 x62 x70 x72 x4 N51 ha hp0 hp1 hp2 hv18 ps pm he62 he70 he72 oq82 oq82a s0 z0 t4 c7 c30 c38 I51_0 I51_1 I51_2 hm51 c55 c63 hb72 hb72a c73 t82)) (by rw [(e85 : Int32.toInt x85 = (l5_51.toInt + 1))] <;> exact (z_X1_offerByRows_10 l5_51.toInt I51_0 c55)) (by rw [(e85 : Int32.toInt x85 = (l5_51.toInt + 1))] <;> exact (z_X1_offerByRows_17 l5_51.toInt ((G82.1 a 3).toInt) ((G_51.1 a 3).toInt) I51_1 t82)) (by rw [(e85 : Int32.toInt x85 = (l5_51.toInt + 1))] <;> exact (z_X1_offerByRows_12 l5_51.toInt I51_0)) (by rw [(e85 : Int32.toInt x85 = (l5_51.toInt + 1))] <;> exact (z_X1_offerByRows_13 l5_51.toInt N51 hm51)) hT hS (lv_sub hl [1, 2, 3, 4, 5, 0] rfl)
        exact L51 4294967297 0 G _ _ _ XFr.rf (v_X1_offerByRows_49_13 a p0 p1 p2 G x4 ha hp0 hp1 hp2 s0 z0 t4 c7 c30 c38) (v_X1_offerByRows_49_14 a p0 p1 p2 G x4 ha hp0 hp1 hp2 s0 z0 t4 c7 c30 c38) (by decide) (z_X1_offerByRows_20 ((G.1 a 3).toInt) s0) (by decide) (by decide) hT hS (lv_sub hl [2, 3, 4, 5, 1, 0] rfl)
      · refine lv_aload_n hx hb dX1_offerByRows_41 rfl (lv_at hl 1 rfl) ?_
        refine lv_iload hx hb dX1_offerByRows_42 (lv_at hl 0 rfl) ?_
        refine x_cv0 (x_runV (b := a) (As := [.int x18]) (rest := []) S (c_X1_offerKeys l E K F G a x18 ha (z_X1_offerByRows_3 ((G.1 a 3).toInt) s0) (v_X1_offerByRows_44_15 a p0 p1 p2 G x4 ha hp0 hp1 hp2 s0 z0 t4 c7 c30 c38)) mv_X1_offerKeys km_X1_55 rfl rfl ⟨Nat.le_of_ble_eq_true rfl, Nat.le_of_ble_eq_true rfl⟩ (rc_3 hK hT ha) hK (fun _ => XP.blind) (fun U hU hW => XP.at hK hz hS hT hU hW) rfl hl.1 (Nat.le_of_ble_eq_true rfl) dX1_offerByRows_44 ⟨Nat.le_of_ble_eq_true rfl, Nat.le_of_ble_eq_true rfl⟩) hS ?_
        rintro G44 H locs ⟨hF44, t44, oq44, oq44a⟩ hT hS
        have t44 : ((G.1 a 3).toInt) ≤ ((G44.1 a 3).toInt) ∧ ((G44.1 a 3).toInt) ≤ ((G.1 a 3).toInt) + 30 := t44
        have oq44a : ∀ y : Int, MB (G44.2.1 (F a 2)) ((G44.1 a 3).toInt) y ↔ MB (G.2.1 (F a 2)) ((G.1 a 3).toInt) y ∨ (0 ≤ y ∧ y < 30 ∧ bI (aI (G.2.1 (F a 0)) ((G.1 p0 2).toInt)) y = 1) := by simp only [(hv18 : Int32.toInt x18 = (aI (G.2.1 (F a 0)) ((G.1 p0 2).toInt)))] at oq44a; exact oq44a
        exact x_rv hx hb hr hlk hQ (Nat.le_of_ble_eq_true rfl) (Nat.le_of_ble_eq_true rfl) hS dX1_offerByRows_47 G44 ⟨(XFr.call XFr.rf hF44 (xm1 0 rfl xm0) (xm1 0 rfl xm0) xm0), (z_X1_offerByRows_4 ((G.1 a 3).toInt) ((G44.1 a 3).toInt) s0 t44), (v_X1_offerByRows_47_16 a G44 oq44), (v_X1_offerByRows_47_17 a p0 p1 p2 G G44 x18 x4 ha hp0 hp1 hp2 hv18 oq44 oq44a s0 z0 t4 c7 c30 c38 t44)⟩ hT

theorem z_X1_ofAllRows_1 (a0 : Int) (h0 : 0 ≤ a0 ∧ a0 ≤ 3) : ¬ (2147483648 - a0 < ((0 : Nat) : Int)) := by omega
theorem z_X1_ofAllRows_2 (a0 : Int) (h0 : 0 ≤ a0 ∧ a0 ≤ 3) (h1 : ¬ ((3 : Int) ≤ a0)) : 0 ≤ a0 ∧ a0 < ((3 : Nat) : Int) := by omega
theorem z_X1_ofAllRows_4 (a0 : Int) (h0 : 0 ≤ a0 ∧ a0 ≤ 3) : 0 ≤ a0 := by omega
theorem z_X1_ofAllRows_8 (a0 : Int) (a1 : Int) (h0 : 0 ≤ a0 ∧ a0 ≤ 3) (h1 : a1 = (a0 + 1) ∨ (a0 + 1) < -2147483648 ∨ 2147483648 ≤ (a0 + 1)) : a1 = (a0 + 1) := by omega
theorem z_X1_ofAllRows_9 (a0 : Int) (h0 : 0 ≤ a0 ∧ a0 ≤ 3) (h1 : ¬ ((3 : Int) ≤ a0)) : 0 ≤ (a0 + 1) ∧ (a0 + 1) ≤ 3 := by omega
theorem z_X1_ofAllRows_10 (a0 : Int) (h0 : 0 ≤ a0 ∧ a0 ≤ 3) : (0 : Int) ≤ (a0 + 1) := by omega
abbrev rm_X1_ofAllRows : Room := { frames := 3, cells := 0, slots := 0, locals := 68 }
set_option maxHeartbeats 4000000 in
set_option maxRecDepth 100000 in
theorem c_X1_ofAllRows (l : Launch) (E : XE) (K : Nat → Nat) (F : Nat → Nat → Nat) (G : XG) (a : Nat) (p0 : Nat) (p1 : Nat) (ha : K a = 3) (hp0 : K p0 = 8) (hp1 : K p1 = 8) (ro1 : RO (vw (G.2.1 (F p0 0))) (aI (G.2.1 (F p0 1)))) (ro2 : RO (vw (G.2.1 (F p1 0))) (aI (G.2.1 (F p1 1)))) (j0 : F p0 99 < 12) (j1 : F p1 99 < 12) : Met l yX1_ofAllRows (xw yX1_ofAllRows cX1_ofAllRows 6 none) rm_X1_ofAllRows (va_Pc [.ref a, .ref p0, .ref p1] (XP E K F G)) (XQv E (fun (u : XG) => XFr [] [F a 0, F a 1] [] G u ∧ (CH (vw (G.2.1 (F p0 0))) (vw (G.2.1 (F p1 0))) (aI (u.2.1 (F a 1))) (aI (u.2.1 (F a 0))))) (fun u H => TW E K F u H)) 0 0 (xA E) := by
  refine x_enter (by decide) (Nat.le_of_ble_eq_true rfl) ?_
  intro p e s m args below meth c Q S hr hlk hnm hQ hP ls hl
  obtain ⟨hz, hK, hT⟩ := hP
  obtain ⟨hx, hb, -, -, -⟩ := id S
  obtain ⟨H, hT, hS, hgo⟩ : ∃ H : Heap, TW E K F G H ∧ va_S (xA E) s.heap H [] ∧ H = s.heap := ⟨_, hT, va_S.rf, rfl⟩
  rw [← hgo]
  have hl : lv_has ls 6 [(0, .ref a), (1, .ref p0), (2, .ref p1)] := hl
  obtain ⟨hk9999, hj9999⟩ := fkX1_0 hT ha
  obtain ⟨hk9999a, hj9999a⟩ := fkX1_1 hT ha
  obtain ⟨hk9999b, hj9999b⟩ := fkX6_0 hT hp0
  obtain ⟨hk9999c, hj9999c⟩ := fkX6_1 hT hp0
  obtain ⟨hk9999d, hj9999d⟩ := fkX6_0 hT hp1
  obtain ⟨hk9999e, hj9999e⟩ := fkX6_1 hT hp1
  refine lv_iconst (v := 0) hx hb dX1_ofAllRows_0 (by decide) ?_
  refine lv_istore_n (lv' := [(3, .int 0), (0, .ref a), (1, .ref p0), (2, .ref p1)]) hx hb dX1_ofAllRows_1 rfl hl (by decide) rfl (fun ls hl => ?_)
  have L2 : ∀ (N2 : Nat) (l3_2 : Int32) (G_2 : XG) (H : Heap) (locs : List Loc) (ls : Array Slot), XFr [] [F a 0, F a 1] [] G G_2 → (∀ t : Int, 0 ≤ t → t < l3_2.toInt → CHt (vw (G.2.1 (F p0 0))) (vw (G.2.1 (F p1 0))) (aI (G_2.2.1 (F a 1))) (aI (G_2.2.1 (F a 0))) t) → 0 ≤ l3_2.toInt ∧ l3_2.toInt ≤ 3 → (0 : Int) ≤ l3_2.toInt → 2147483648 - l3_2.toInt < ((N2 : Nat) : Int) → TW E K F G_2 H → va_S (xA E) s.heap H locs → lv_has ls 6 [(0, .ref a), (1, .ref p0), (2, .ref p1), (3, .int l3_2)] → W p l e rm_X1_ofAllRows s m args below meth c H locs 0 0 Q (F0 m 2 ls []) := by
    intro N2
    induction N2 with
    | zero =>
      intro l3_2 G_2 H locs ls hF_2 pc I2_0 I2_1 hm2
      exact absurd hm2 (z_X1_ofAllRows_1 l3_2.toInt I2_0)
    | succ N2 ih2 =>
      intro l3_2 G_2 H locs ls hF_2 pc I2_0 I2_1 hm2 hT hS hl
      refine lv_iload_n hx hb dX1_ofAllRows_2 rfl (lv_at hl 3 rfl) ?_
      refine lv_iconst (v := 3) hx hb dX1_ofAllRows_3 (by decide) ?_
      refine xi_cge (tgt := 105) hx hb (rfl : Int32.toInt l3_2 = l3_2.toInt) ((by decide) : Int32.toInt 3 = (3 : Int)) dX1_ofAllRows_4 (by decide) (fun c4 => ?_) (fun c4 => ?_)
      · exact x_rv hx hb hr hlk hQ (Nat.le_of_ble_eq_true rfl) (Nat.le_of_ble_eq_true rfl) hS dX1_ofAllRows_105 G_2 ⟨(XFr.call XFr.rf hF_2 xm0 (xm1 0 rfl (xm1 1 rfl xm0)) xm0), (v_X1_ofAllRows_105_1 a p0 p1 G G_2 l3_2 N2 ha hp0 hp1 j0 j1 pc I2_0 I2_1 hm2 c4)⟩ hT
      · refine lv_aload_n hx hb dX1_ofAllRows_7 rfl (lv_at hl 0 rfl) ?_
        refine gX1_1 S hK hT ha kf_X1_15 dX1_ofAllRows_8 (fun _ _ => ?_)
        refine lv_iload_n hx hb dX1_ofAllRows_11 rfl (lv_at hl 3 rfl) ?_
        refine lv_aload_n hx hb dX1_ofAllRows_12 rfl (lv_at hl 1 rfl) ?_
        refine lv_iload_n hx hb dX1_ofAllRows_13 rfl (lv_at hl 3 rfl) ?_
        refine x_clp (x_runV (b := p0) (As := [.int l3_2]) (rest := [.int l3_2, .ref (F a 1)]) S (c_X6_keyBits l E K F G_2 H p0 l3_2 hp0) mv_X6_keyBits km_X1_21 rfl rfl ⟨Nat.le_of_ble_eq_true rfl, Nat.le_of_ble_eq_true rfl⟩ (rc_8 hK hT hp0) hK (fun _ => XPh.blind) (fun U hU hW => XPh.at hK hz hS hT hU hW) rfl hl.1 (Nat.le_of_ble_eq_true rfl) dX1_ofAllRows_14 ⟨Nat.le_of_ble_eq_true rfl, Nat.le_of_ble_eq_true rfl⟩) hS ?_
        rintro _ _ locs ⟨x14, rfl, t14⟩ hS
        have t14 : (0 ≤ l3_2.toInt ∧ l3_2.toInt < 3 ∧ x14.toInt = (aI (G.2.1 (F p0 1)) (l3_2.toInt))) ∨ ((l3_2.toInt < 0 ∨ 3 ≤ l3_2.toInt) ∧ x14.toInt = 0) := by rw [(show G_2.2.1 (F p0 1) = G.2.1 (F p0 1) from (hF_2.2.1 _ (xn1 (xne_j hj9999c hj9999 (by first | decide | omega)) (xn1 (xne_j hj9999c hj9999a (by first | decide | omega)) xn0))))] at t14; exact t14
        refine lv_aload_n hx hb dX1_ofAllRows_17 rfl (lv_at hl 2 rfl) ?_
        refine lv_iload_n hx hb dX1_ofAllRows_18 rfl (lv_at hl 3 rfl) ?_
        refine x_clp (x_runV (b := p1) (As := [.int l3_2]) (rest := [.int x14, .int l3_2, .ref (F a 1)]) S (c_X6_keyBits l E K F G_2 H p1 l3_2 hp1) mv_X6_keyBits km_X1_21 rfl rfl ⟨Nat.le_of_ble_eq_true rfl, Nat.le_of_ble_eq_true rfl⟩ (rc_8 hK hT hp1) hK (fun _ => XPh.blind) (fun U hU hW => XPh.at hK hz hS hT hU hW) rfl hl.1 (Nat.le_of_ble_eq_true rfl) dX1_ofAllRows_19 ⟨Nat.le_of_ble_eq_true rfl, Nat.le_of_ble_eq_true rfl⟩) hS ?_
        rintro _ _ locs ⟨x19, rfl, t19⟩ hS
        have t19 : (0 ≤ l3_2.toInt ∧ l3_2.toInt < 3 ∧ x19.toInt = (aI (G.2.1 (F p1 1)) (l3_2.toInt))) ∨ ((l3_2.toInt < 0 ∨ 3 ≤ l3_2.toInt) ∧ x19.toInt = 0) := by rw [(show G_2.2.1 (F p1 1) = G.2.1 (F p1 1) from (hF_2.2.1 _ (xn1 (xne_j hj9999e hj9999 (by first | decide | omega)) (xn1 (xne_j hj9999e hj9999a (by first | decide | omega)) xn0))))] at t19; exact t19
        refine lv_ixor hx hb dX1_ofAllRows_22 (lv_topi (fun x22 he22 => ?_))
        refine as_0 (x := x22) S hK hT hS hk9999a ar_21 aw_21 (by decide) (z_X1_ofAllRows_2 l3_2.toInt I2_0 c4) dX1_ofAllRows_23 (fun H locs hT hS => ?_)
        obtain ⟨G23, hG23⟩ : ∃ G9 : XG, G9 = cput G_2 (F a 1) l3_2.toNatClampNeg x22 := ⟨_, rfl⟩
        rw [← hG23] at hT
        refine lv_aload_n hx hb dX1_ofAllRows_24 rfl (lv_at hl 0 rfl) ?_
        refine gX1_0 S hK hT ha kf_X1_9 dX1_ofAllRows_25 (fun _ _ => ?_)
        refine lv_iload_n hx hb dX1_ofAllRows_28 rfl (lv_at hl 3 rfl) ?_
        refine lv_aload_n hx hb dX1_ofAllRows_29 rfl (lv_at hl 0 rfl) ?_
        refine gX1_1 S hK hT ha kf_X1_15 dX1_ofAllRows_30 (fun _ _ => ?_)
        refine lv_iload_n hx hb dX1_ofAllRows_33 rfl (lv_at hl 3 rfl) ?_
        refine al_0 S hK hT hk9999a ar_21 (by decide) (z_X1_ofAllRows_2 l3_2.toInt I2_0 c4) dX1_ofAllRows_34 (fun x34 hv34 o34 => ?_)
        have hv34 : x34.toInt = (aI (G23.2.1 (F a 1)) (l3_2.toInt)) := hv34.trans (by rw [(rfl : Int32.toInt l3_2 = l3_2.toInt)])
        have hc34 : (l3_2.toInt = l3_2.toInt → (aI (G23.2.1 (F a 1)) (l3_2.toInt)) = x22.toInt) ∧ (l3_2.toInt ≠ l3_2.toInt → (aI (G23.2.1 (F a 1)) (l3_2.toInt)) = (aI (G_2.2.1 (F a 1)) (l3_2.toInt))) := xlk hG23 rfl (rfl : Int32.toInt l3_2 = l3_2.toInt) (rfl : Int32.toInt x22 = x22.toInt) (z_X1_ofAllRows_4 l3_2.toInt I2_0) (z_X1_ofAllRows_4 l3_2.toInt I2_0)
        refine as_0 (x := x34) S hK hT hS hk9999 ar_21 aw_21 (by decide) (z_X1_ofAllRows_2 l3_2.toInt I2_0 c4) dX1_ofAllRows_35 (fun H locs hT hS => ?_)
        obtain ⟨G35, hG35⟩ : ∃ G9 : XG, G9 = cput G23 (F a 0) l3_2.toNatClampNeg x34 := ⟨_, rfl⟩
        rw [← hG35] at hT
        refine lv_aload_n hx hb dX1_ofAllRows_36 rfl (lv_at hl 1 rfl) ?_
        refine lv_iload_n hx hb dX1_ofAllRows_37 rfl (lv_at hl 3 rfl) ?_
        refine x_clp (x_runV (b := p0) (As := [.int l3_2]) (rest := []) S (c_X6_keyBits l E K F G35 H p0 l3_2 hp0) mv_X6_keyBits km_X1_21 rfl rfl ⟨Nat.le_of_ble_eq_true rfl, Nat.le_of_ble_eq_true rfl⟩ (rc_8 hK hT hp0) hK (fun _ => XPh.blind) (fun U hU hW => XPh.at hK hz hS hT hU hW) rfl hl.1 (Nat.le_of_ble_eq_true rfl) dX1_ofAllRows_38 ⟨Nat.le_of_ble_eq_true rfl, Nat.le_of_ble_eq_true rfl⟩) hS ?_
        rintro _ _ locs ⟨x38, rfl, t38⟩ hS
        have t38 : (0 ≤ l3_2.toInt ∧ l3_2.toInt < 3 ∧ x38.toInt = (aI (G.2.1 (F p0 1)) (l3_2.toInt))) ∨ ((l3_2.toInt < 0 ∨ 3 ≤ l3_2.toInt) ∧ x38.toInt = 0) := by rw [(show G35.2.1 (F p0 1) = G.2.1 (F p0 1) from ((lc_c hG35 (xne_j hj9999c hj9999 (by first | decide | omega))).trans ((lc_c hG23 (xne_j hj9999c hj9999a (by first | decide | omega))).trans (hF_2.2.1 _ (xn1 (xne_j hj9999c hj9999 (by first | decide | omega)) (xn1 (xne_j hj9999c hj9999a (by first | decide | omega)) xn0))))))] at t38; exact t38
        refine lv_aload_n hx hb dX1_ofAllRows_41 rfl (lv_at hl 2 rfl) ?_
        refine lv_iload_n hx hb dX1_ofAllRows_42 rfl (lv_at hl 3 rfl) ?_
        refine x_clp (x_runV (b := p1) (As := [.int l3_2]) (rest := [.int x38]) S (c_X6_keyBits l E K F G35 H p1 l3_2 hp1) mv_X6_keyBits km_X1_21 rfl rfl ⟨Nat.le_of_ble_eq_true rfl, Nat.le_of_ble_eq_true rfl⟩ (rc_8 hK hT hp1) hK (fun _ => XPh.blind) (fun U hU hW => XPh.at hK hz hS hT hU hW) rfl hl.1 (Nat.le_of_ble_eq_true rfl) dX1_ofAllRows_43 ⟨Nat.le_of_ble_eq_true rfl, Nat.le_of_ble_eq_true rfl⟩) hS ?_
        rintro _ _ locs ⟨x43, rfl, t43⟩ hS
        have t43 : (0 ≤ l3_2.toInt ∧ l3_2.toInt < 3 ∧ x43.toInt = (aI (G.2.1 (F p1 1)) (l3_2.toInt))) ∨ ((l3_2.toInt < 0 ∨ 3 ≤ l3_2.toInt) ∧ x43.toInt = 0) := by rw [(show G35.2.1 (F p1 1) = G.2.1 (F p1 1) from ((lc_c hG35 (xne_j hj9999e hj9999 (by first | decide | omega))).trans ((lc_c hG23 (xne_j hj9999e hj9999a (by first | decide | omega))).trans (hF_2.2.1 _ (xn1 (xne_j hj9999e hj9999 (by first | decide | omega)) (xn1 (xne_j hj9999e hj9999a (by first | decide | omega)) xn0))))))] at t43; exact t43
        refine lv_iand hx hb dX1_ofAllRows_46 (lv_topi (fun x46 he46 => ?_))
        refine lv_istore (lv' := [(4, .int x46), (0, .ref a), (1, .ref p0), (2, .ref p1), (3, .int l3_2)]) hx hb dX1_ofAllRows_47 hl (by decide) rfl (fun ls hl => ?_)
        refine lv_iconst (v := 0) hx hb dX1_ofAllRows_49 (by decide) ?_
        refine lv_istore (lv' := [(5, .int 0), (4, .int x46), (0, .ref a), (1, .ref p0), (2, .ref p1), (3, .int l3_2)]) hx hb dX1_ofAllRows_50 hl (by decide) rfl (fun ls hl => ?_)
        have L52 : ∀ (N52 : Nat) (l5_52 : Int32) (G_52 : XG) (H : Heap) (locs : List Loc) (ls : Array Slot), XFr [] [F a 0] [] G35 G_52 → CHk (vw (G.2.1 (F p0 0))) (vw (G.2.1 (F p1 0))) (aI (G_52.2.1 (F a 0)) l3_2.toInt) l3_2.toInt l5_52.toInt → (∀ t : Int, 0 ≤ t → t ≠ l3_2.toInt → aI (G_52.2.1 (F a 0)) t = aI (G35.2.1 (F a 0)) t) → 0 ≤ l5_52.toInt ∧ l5_52.toInt ≤ 30 → (0 : Int) ≤ l5_52.toInt → 2147483648 - l5_52.toInt < ((N52 : Nat) : Int) → TW E K F G_52 H → va_S (xA E) s.heap H locs → lv_has ls 6 [(0, .ref a), (1, .ref p0), (2, .ref p1), (3, .int l3_2), (4, .int x46), (5, .int l5_52)] → W p l e rm_X1_ofAllRows s m args below meth c H locs 0 0 Q (F0 m 52 ls []) := by
          intro N52
          induction N52 with
          | zero =>
            intro l5_52 G_52 H locs ls hF_52 pd po I52_0 I52_1 hm52
            exact absurd hm52 (z_X1_offerByRows_5 l5_52.toInt I52_0)
          | succ N52 ih52 =>
            intro l5_52 G_52 H locs ls hF_52 pd po I52_0 I52_1 hm52 hT hS hl
            refine lv_iload hx hb dX1_ofAllRows_52 (lv_at hl 5 rfl) ?_
            refine lv_bipush (v := 30) hx hb dX1_ofAllRows_54 (by decide) ?_
            refine xi_cge (tgt := 99) hx hb (rfl : Int32.toInt l5_52 = l5_52.toInt) ((by decide) : Int32.toInt 30 = (30 : Int)) dX1_ofAllRows_56 (by decide) (fun c56 => ?_) (fun c56 => ?_)
            · refine xi_iinc (n := 1) (lv' := fun z9 => [(3, .int z9), (0, .ref a), (1, .ref p0), (2, .ref p1), (4, .int x46), (5, .int l5_52)]) (k := 3) hx hb (rfl : Int32.toInt l3_2 = l3_2.toInt) (by decide) dX1_ofAllRows_99 hl rfl (by decide) (fun _ => rfl) (fun x99 ls t99 hl => ?_)
              have e99 : x99.toInt = (l3_2.toInt + 1) := (z_X1_ofAllRows_8 l3_2.toInt x99.toInt I2_0 t99)
              have hl : lv_has ls 6 [(3, .int x99), (0, .ref a), (1, .ref p0), (2, .ref p1), (4, .int x46), (5, .int l5_52)] := hl
              refine lv_goto (tgt := 2) hx hb dX1_ofAllRows_102 (by decide) ?_
              exact ih2 x99 G_52 _ _ _ (XFr.call (by rw [hG35]; exact XFr.cput (by rw [hG23]; exact XFr.cput (XFr.call XFr.rf hF_2 xm0 (xm1 0 rfl (xm1 1 rfl xm0)) xm0) (List.mem_of_getElem? (i := 1) rfl)) (List.mem_of_getElem? (i := 0) rfl)) hF_52 xm0 (xm1 0 rfl xm0) xm0) (by rw [(e99 : Int32.toInt x99 = (l3_2.toInt + 1))] <;> exact (v_X1_ofAllRows_102_2 a p0 p1 G G_2 G23 l3_2 x22 G35 x34 G_52 x14 x19 x46 x38 x43 l5_52 N2 N52 ha hp0 hp1 hG23 hG35 ro1 ro2 j0 j1 pc he22 hv34 he46 pd po I2_0 I2_1 hm2 c4 t14 t19 hc34 t38 t43 I52_0 I52_1 hm52 c56 (lc_c hG23 (xne_j hj9999 hj9999a (by first | decide | omega))) ((hF_52.2.1 _ (xn1 (xne_j hj9999a hj9999 (by first | decide | omega)) xn0)).trans (lc_c hG35 (xne_j hj9999a hj9999 (by first | decide | omega)))))) (by rw [(e99 : Int32.toInt x99 = (l3_2.toInt + 1))] <;> exact (z_X1_ofAllRows_9 l3_2.toInt I2_0 c4)) (by rw [(e99 : Int32.toInt x99 = (l3_2.toInt + 1))] <;> exact (z_X1_ofAllRows_10 l3_2.toInt I2_0)) (by rw [(e99 : Int32.toInt x99 = (l3_2.toInt + 1))] <;> exact (z_X1_offerByRows_13 l3_2.toInt N2 hm2)) hT hS (lv_sub hl [1, 2, 3, 0] rfl)
            · refine lv_iload hx hb dX1_ofAllRows_59 (lv_at hl 4 rfl) ?_
              refine lv_iload hx hb dX1_ofAllRows_61 (lv_at hl 5 rfl) ?_
              refine lv_ishr hx hb dX1_ofAllRows_63 (lv_topi (fun x63 he63 => ?_))
              refine lv_iconst (v := 1) hx hb dX1_ofAllRows_64 (by decide) ?_
              refine lv_iand hx hb dX1_ofAllRows_65 (lv_topi (fun x65 he65 => ?_))
              have hb65 : x65.toInt = (bI (x46.toInt) (l5_52.toInt)) := bI_and he63 he65 (rfl : Int32.toInt x46 = x46.toInt) (rfl : Int32.toInt l5_52 = l5_52.toInt) (z_X1_offerByRows_8 l5_52.toInt I52_0)
              have hb65a : x65.toInt = 0 ∨ x65.toInt = 1 := by rw [hb65]; exact bI01 _ _
              refine xi_zeq (tgt := 93) hx hb (rfl : Int32.toInt x65 = x65.toInt) dX1_ofAllRows_66 (by decide) (fun c66 => ?_) (fun c66 => ?_)
              · refine xi_iinc (n := 1) (lv' := fun z9 => [(5, .int z9), (0, .ref a), (1, .ref p0), (2, .ref p1), (3, .int l3_2), (4, .int x46)]) (k := 5) hx hb (rfl : Int32.toInt l5_52 = l5_52.toInt) (by decide) dX1_ofAllRows_93 hl rfl (by decide) (fun _ => rfl) (fun x93 ls t93 hl => ?_)
                have e93 : x93.toInt = (l5_52.toInt + 1) := (z_X1_offerByRows_9 l5_52.toInt x93.toInt I52_0 t93)
                have hl : lv_has ls 6 [(5, .int x93), (0, .ref a), (1, .ref p0), (2, .ref p1), (3, .int l3_2), (4, .int x46)] := hl
                refine lv_goto (tgt := 52) hx hb dX1_ofAllRows_96 (by decide) ?_
                exact ih52 x93 G_52 _ _ _ (XFr.call XFr.rf hF_52 xm0 (xm1 0 rfl xm0) xm0) (by rw [(e93 : Int32.toInt x93 = (l5_52.toInt + 1))] <;> exact (v_X1_ofAllRows_96_3 a p0 p1 G G_2 G23 l3_2 x22 G_52 x14 x19 x46 x38 x43 l5_52 x63 x65 N2 N52 ha hp0 hp1 ro1 ro2 j0 j1 he22 he46 pd he63 he65 I2_0 I2_1 hm2 c4 t14 t19 hc34 t38 t43 I52_0 I52_1 hm52 c56 hb65 hb65a c66)) (v_X1_ofAllRows_96_4 a p0 p1 G G_2 G23 l3_2 x22 G35 G_52 x14 x19 x46 x38 x43 l5_52 x63 x65 N2 N52 ha hp0 hp1 j0 j1 he22 he46 pd po he63 he65 I2_0 I2_1 hm2 c4 t14 t19 hc34 t38 t43 I52_0 I52_1 hm52 c56 hb65 hb65a c66) (by rw [(e93 : Int32.toInt x93 = (l5_52.toInt + 1))] <;> exact (z_X1_offerByRows_10 l5_52.toInt I52_0 c56)) (by rw [(e93 : Int32.toInt x93 = (l5_52.toInt + 1))] <;> exact (z_X1_offerByRows_12 l5_52.toInt I52_0)) (by rw [(e93 : Int32.toInt x93 = (l5_52.toInt + 1))] <;> exact (z_X1_offerByRows_13 l5_52.toInt N52 hm52)) hT hS (lv_sub hl [1, 2, 3, 4, 5, 0] rfl)
              · refine lv_aload_n hx hb dX1_ofAllRows_69 rfl (lv_at hl 1 rfl) ?_
                refine lv_aload_n hx hb dX1_ofAllRows_70 rfl (lv_at hl 2 rfl) ?_
                refine lv_iload_n hx hb dX1_ofAllRows_71 rfl (lv_at hl 3 rfl) ?_
                refine lv_iload hx hb dX1_ofAllRows_72 (lv_at hl 5 rfl) ?_
                refine x_clp (x_runS (As := [.ref p0, .ref p1, .int l3_2, .int l5_52]) (rest := []) S (c_X1_valuesDiffer l E K F G_52 H p0 p1 l3_2 l5_52 hp0 hp1) ms_X1_valuesDiffer km_X1_27 rfl rfl ⟨Nat.le_of_ble_eq_true rfl, Nat.le_of_ble_eq_true rfl⟩ hK (fun _ => XPh.blind) (fun U hU hW => XPh.at hK hz hS hT hU hW) rfl hl.1 (Nat.le_of_ble_eq_true rfl) dX1_ofAllRows_74 ⟨Nat.le_of_ble_eq_true rfl, Nat.le_of_ble_eq_true rfl⟩) hS ?_
                rintro _ _ locs ⟨x74, rfl, b74, t74⟩ hS
                have t74 : (((cel (vw (G.2.1 (F p0 0))) (l3_2.toInt) (l5_52.toInt) 0) ≠ (cel (vw (G.2.1 (F p1 0))) (l3_2.toInt) (l5_52.toInt) 0) ∨ (cel (vw (G.2.1 (F p0 0))) (l3_2.toInt) (l5_52.toInt) 1) ≠ (cel (vw (G.2.1 (F p1 0))) (l3_2.toInt) (l5_52.toInt) 1) ∨ (cel (vw (G.2.1 (F p0 0))) (l3_2.toInt) (l5_52.toInt) 2) ≠ (cel (vw (G.2.1 (F p1 0))) (l3_2.toInt) (l5_52.toInt) 2)) ∧ x74.toInt = 1) ∨ (¬ ((cel (vw (G.2.1 (F p0 0))) (l3_2.toInt) (l5_52.toInt) 0) ≠ (cel (vw (G.2.1 (F p1 0))) (l3_2.toInt) (l5_52.toInt) 0) ∨ (cel (vw (G.2.1 (F p0 0))) (l3_2.toInt) (l5_52.toInt) 1) ≠ (cel (vw (G.2.1 (F p1 0))) (l3_2.toInt) (l5_52.toInt) 1) ∨ (cel (vw (G.2.1 (F p0 0))) (l3_2.toInt) (l5_52.toInt) 2) ≠ (cel (vw (G.2.1 (F p1 0))) (l3_2.toInt) (l5_52.toInt) 2)) ∧ x74.toInt = 0) := by rw [(show G_52.2.1 (F p0 0) = G.2.1 (F p0 0) from ((hF_52.2.1 _ (xn1 (xne_k hk9999b hk9999 (by decide)) xn0)).trans ((lc_c hG35 (xne_k hk9999b hk9999 (by decide))).trans ((lc_c hG23 (xne_k hk9999b hk9999a (by decide))).trans (hF_2.2.1 _ (xn1 (xne_k hk9999b hk9999 (by decide)) (xn1 (xne_k hk9999b hk9999a (by decide)) xn0)))))))] at t74; rw [(show G_52.2.1 (F p1 0) = G.2.1 (F p1 0) from ((hF_52.2.1 _ (xn1 (xne_k hk9999d hk9999 (by decide)) xn0)).trans ((lc_c hG35 (xne_k hk9999d hk9999 (by decide))).trans ((lc_c hG23 (xne_k hk9999d hk9999a (by decide))).trans (hF_2.2.1 _ (xn1 (xne_k hk9999d hk9999 (by decide)) (xn1 (xne_k hk9999d hk9999a (by decide)) xn0)))))))] at t74; exact t74
                refine xi_zeq (tgt := 93) hx hb (rfl : Int32.toInt x74 = x74.toInt) dX1_ofAllRows_77 (by decide) (fun c77 => ?_) (fun c77 => ?_)
                · refine xi_iinc (n := 1) (lv' := fun z9 => [(5, .int z9), (0, .ref a), (1, .ref p0), (2, .ref p1), (3, .int l3_2), (4, .int x46)]) (k := 5) hx hb (rfl : Int32.toInt l5_52 = l5_52.toInt) (by decide) dX1_ofAllRows_93 hl rfl (by decide) (fun _ => rfl) (fun x93 ls t93 hl => ?_)
                  have e93 : x93.toInt = (l5_52.toInt + 1) := (z_X1_offerByRows_9 l5_52.toInt x93.toInt I52_0 t93)
                  have hl : lv_has ls 6 [(5, .int x93), (0, .ref a), (1, .ref p0), (2, .ref p1), (3, .int l3_2), (4, .int x46)] := hl
                  refine lv_goto (tgt := 52) hx hb dX1_ofAllRows_96 (by decide) ?_
                  exact ih52 x93 G_52 _ _ _ (XFr.call XFr.rf hF_52 xm0 (xm1 0 rfl xm0) xm0) (by rw [(e93 : Int32.toInt x93 = (l5_52.toInt + 1))] <;> exact (v_X1_ofAllRows_96_5 a p0 p1 G G_2 G23 l3_2 x22 G_52 x14 x19 x46 x38 x43 l5_52 x63 x65 N2 N52 x74 ha hp0 hp1 ro1 ro2 j0 j1 he22 he46 pd he63 he65 I2_0 I2_1 hm2 c4 t14 t19 hc34 t38 t43 I52_0 I52_1 hm52 c56 hb65 hb65a c66 t74 c77)) (v_X1_ofAllRows_96_6 a p0 p1 G G_2 G23 l3_2 x22 G35 G_52 x14 x19 x46 x38 x43 l5_52 x63 x65 N2 N52 x74 ha hp0 hp1 j0 j1 he22 he46 pd po he63 he65 I2_0 I2_1 hm2 c4 t14 t19 hc34 t38 t43 I52_0 I52_1 hm52 c56 hb65 hb65a c66 t74 c77) (by rw [(e93 : Int32.toInt x93 = (l5_52.toInt + 1))] <;> exact (z_X1_offerByRows_10 l5_52.toInt I52_0 c56)) (by rw [(e93 : Int32.toInt x93 = (l5_52.toInt + 1))] <;> exact (z_X1_offerByRows_12 l5_52.toInt I52_0)) (by rw [(e93 : Int32.toInt x93 = (l5_52.toInt + 1))] <;> exact (z_X1_offerByRows_13 l5_52.toInt N52 hm52)) hT hS (lv_sub hl [1, 2, 3, 4, 5, 0] rfl)
                · refine lv_aload_n hx hb dX1_ofAllRows_80 rfl (lv_at hl 0 rfl) ?_
                  refine gX1_0 S hK hT ha kf_X1_9 dX1_ofAllRows_81 (fun _ _ => ?_)
                  refine lv_iload_n hx hb dX1_ofAllRows_84 rfl (lv_at hl 3 rfl) ?_
                  refine lv_dup2_11 hx hb dX1_ofAllRows_85 rfl rfl ?_
                  refine al_0 S hK hT hk9999 ar_21 (by decide) (z_X1_ofAllRows_2 l3_2.toInt I2_0 c4) dX1_ofAllRows_86 (fun x86 hv86 o86 => ?_)
                  have hv86 : x86.toInt = (aI (G_52.2.1 (F a 0)) (l3_2.toInt)) := hv86.trans (by rw [(rfl : Int32.toInt l3_2 = l3_2.toInt)])
                  refine lv_iconst (v := 1) hx hb dX1_ofAllRows_87 (by decide) ?_
                  refine lv_iload hx hb dX1_ofAllRows_88 (lv_at hl 5 rfl) ?_
                  refine lv_ishl hx hb dX1_ofAllRows_90 (lv_topi (fun x90 he90 => ?_))
                  refine lv_ior hx hb dX1_ofAllRows_91 (lv_topi (fun x91 he91 => ?_))
                  refine as_0 (x := x91) S hK hT hS hk9999 ar_21 aw_21 (by decide) (z_X1_ofAllRows_2 l3_2.toInt I2_0 c4) dX1_ofAllRows_92 (fun H locs hT hS => ?_)
                  obtain ⟨G92, hG92⟩ : ∃ G9 : XG, G9 = cput G_52 (F a 0) l3_2.toNatClampNeg x91 := ⟨_, rfl⟩
                  rw [← hG92] at hT
                  refine xi_iinc (n := 1) (lv' := fun z9 => [(5, .int z9), (0, .ref a), (1, .ref p0), (2, .ref p1), (3, .int l3_2), (4, .int x46)]) (k := 5) hx hb (rfl : Int32.toInt l5_52 = l5_52.toInt) (by decide) dX1_ofAllRows_93 hl rfl (by decide) (fun _ => rfl) (fun x93 ls t93 hl => ?_)
                  have e93 : x93.toInt = (l5_52.toInt + 1) := (z_X1_offerByRows_9 l5_52.toInt x93.toInt I52_0 t93)
                  have hl : lv_has ls 6 [(5, .int x93), (0, .ref a), (1, .ref p0), (2, .ref p1), (3, .int l3_2), (4, .int x46)] := hl
                  refine lv_goto (tgt := 52) hx hb dX1_ofAllRows_96 (by decide) ?_
                  exact ih52 x93 G92 _ _ _ (by rw [hG92]; exact XFr.cput (XFr.call XFr.rf hF_52 xm0 (xm1 0 rfl xm0) xm0) (List.mem_of_getElem? (i := 0) rfl)) (by rw [(e93 : Int32.toInt x93 = (l5_52.toInt + 1))] <;> exact (v_X1_ofAllRows_96_7 a p0 p1 G G_2 G23 l3_2 x22 G_52 G92 x91 x14 x19 x46 x38 x43 l5_52 x63 x65 x86 x90 N2 N52 x74 ha hp0 hp1 hG92 ro1 ro2 j0 j1 he22 he46 pd he63 he65 hv86 he90 he91 I2_0 I2_1 hm2 c4 t14 t19 hc34 t38 t43 I52_0 I52_1 hm52 c56 hb65 hb65a c66 t74 c77)) (v_X1_ofAllRows_96_8 a p0 p1 G G_2 G23 l3_2 x22 G35 G_52 G92 x91 x14 x19 x46 x38 x43 l5_52 x63 x65 x86 x90 N2 N52 x74 ha hp0 hp1 hG92 j0 j1 he22 he46 pd po he63 he65 hv86 he90 he91 I2_0 I2_1 hm2 c4 t14 t19 hc34 t38 t43 I52_0 I52_1 hm52 c56 hb65 hb65a c66 t74 c77) (by rw [(e93 : Int32.toInt x93 = (l5_52.toInt + 1))] <;> exact (z_X1_offerByRows_10 l5_52.toInt I52_0 c56)) (by rw [(e93 : Int32.toInt x93 = (l5_52.toInt + 1))] <;> exact (z_X1_offerByRows_12 l5_52.toInt I52_0)) (by rw [(e93 : Int32.toInt x93 = (l5_52.toInt + 1))] <;> exact (z_X1_offerByRows_13 l5_52.toInt N52 hm52)) hT hS (lv_sub hl [1, 2, 3, 4, 5, 0] rfl)
        exact L52 4294967297 0 G35 _ _ _ XFr.rf (v_X1_ofAllRows_50_9 a p0 p1 G G_2 G23 l3_2 x22 G35 x34 x14 x19 x46 x38 x43 N2 ha hp0 hp1 hG35 ro1 ro2 j0 j1 he22 hv34 he46 I2_0 I2_1 hm2 c4 t14 t19 hc34 t38 t43) (v_X1_ofAllRows_50_10 a l3_2 G35) (by decide) (by decide) (by decide) hT hS (lv_sub hl [2, 3, 4, 5, 1, 0] rfl)
  exact L2 4294967297 0 G _ _ _ XFr.rf (v_X1_ofAllRows_1_11 a p0 p1 G ha hp0 hp1 j0 j1) (by decide) (by decide) (by decide) hT hS (lv_sub hl [1, 2, 3, 0] rfl)
theorem v_X1_addQuestions_9_1 {K : Nat → Nat} {F : Nat → Nat → Nat} (a : Nat) (p0 : Nat) (p1 : Nat) (p2 : Nat) (p3 : Nat) (G2 : XG) (G : XG)
    (ha : K a = 3)
    (hp0 : K p0 = 9)
    (hp1 : K p1 = 8)
    (hp2 : K p2 = 8)
    (hp3 : K p3 = 6)
    (hk9999 : K (F a 2) = 24)
    (hj9999 : F (F a 2) 99 = 4)
    (hk9999a : K (F p3 0) = 22)
    (hj9999a : F (F p3 0) 99 = 10 * F p3 99 + 0)
    (hk9999b : K (F p3 1) = 22)
    (hj9999b : F (F p3 1) 99 = 10 * F p3 99 + 1)
    (hk9999c : K (F p3 2) = 22)
    (hj9999c : F (F p3 2) 99 = 10 * F p3 99 + 2)
    (hk9999d : K (F p3 3) = 22)
    (hj9999d : F (F p3 3) 99 = 10 * F p3 99 + 3)
    (hk9999e : K (F p3 4) = 23)
    (hj9999e : F (F p3 4) 99 = 10 * F p3 99 + 4)
    (hk9999f : K (F p3 5) = 23)
    (hj9999f : F (F p3 5) 99 = 10 * F p3 99 + 5)
    (hk9999g : K (F p1 0) = 20)
    (hj9999g : F (F p1 0) 99 = F p1 99)
    (hk9999h : K (F p1 1) = 21)
    (hj9999h : F (F p1 1) 99 = F p1 99)
    (hk9999i : K (F p2 0) = 20)
    (hj9999i : F (F p2 0) 99 = F p2 99)
    (hk9999j : K (F p2 1) = 21)
    (hj9999j : F (F p2 1) 99 = F p2 99)
    (hk9999k : K (F a 1) = 21)
    (hj9999k : F (F a 1) 99 = 101)
    (hk9999l : K (F a 0) = 21)
    (hj9999l : F (F a 0) 99 = 100)
    (hG2 : G2 = dput G a 3 0)
    (ro1 : RO (vw (G.2.1 (F p1 0))) (aI (G.2.1 (F p1 1))))
    (ro2 : RO (vw (G.2.1 (F p2 0))) (aI (G.2.1 (F p2 1))))
    (hrw : RW (G.1 p0))
    (hch : CH (vw (G.2.1 (F p1 0))) (vw (G.2.1 (F p2 0))) (aI (G.2.1 (F a 1))) (aI (G.2.1 (F a 0))))
    (s0 : 0 ≤ ((G.1 p3 6).toInt) ∧ ((G.1 p3 6).toInt) ≤ 990)
    (z0 : (0 ≤ ((G.1 p0 0).toInt) ∧ ((G.1 p0 0).toInt) ≤ 5) ∧ (0 ≤ ((G.1 p0 2).toInt) ∧ ((G.1 p0 2).toInt) ≤ 2) ∧ (0 ≤ ((G.1 p0 3).toInt) ∧ ((G.1 p0 3).toInt) ≤ 2) ∧ (-1 ≤ ((G.1 p0 4).toInt) ∧ ((G.1 p0 4).toInt) ≤ 2) ∧ (((G.1 p0 0).toInt) = 1 ∨ ((G.1 p0 0).toInt) = 3 ∨ ((G.1 p0 0).toInt) = 4 → 0 ≤ ((G.1 p0 4).toInt)))
    (c_G2_F_a_2 : G2.2.1 (F a 2) = G.2.1 (F a 2))
    (c_G2_F_p3_0 : G2.2.1 (F p3 0) = G.2.1 (F p3 0))
    (c_G2_F_p3_1 : G2.2.1 (F p3 1) = G.2.1 (F p3 1))
    (c_G2_F_p3_2 : G2.2.1 (F p3 2) = G.2.1 (F p3 2))
    (c_G2_F_p3_3 : G2.2.1 (F p3 3) = G.2.1 (F p3 3))
    (c_G2_F_p3_4 : G2.2.1 (F p3 4) = G.2.1 (F p3 4))
    (c_G2_F_p3_5 : G2.2.1 (F p3 5) = G.2.1 (F p3 5))
    (D_G2_p0 : G2.1 p0 = G.1 p0)
    (d_G2_a_3 : G2.1 a 3 = 0)
    (d_G2_p3_6 : G2.1 p3 6 = G.1 p3 6) :
    RW (G2.1 p0) := by
  first | assumption | omega | (simp only [D_G2_p0]; assumption)
theorem v_X1_addQuestions_122_2 {K : Nat → Nat} {F : Nat → Nat → Nat} (a : Nat) (p0 : Nat) (p1 : Nat) (p2 : Nat) (p3 : Nat) (G : XG) (G9 : XG) (G_42 : XG) (G_45 : XG) (l5_45 : Int32) (x13 : Int32) (N45 : Nat)
    (ha : K a = 3)
    (hp0 : K p0 = 9)
    (hp1 : K p1 = 8)
    (hp2 : K p2 = 8)
    (hp3 : K p3 = 6)
    (hch : CH (vw (G.2.1 (F p1 0))) (vw (G.2.1 (F p2 0))) (aI (G.2.1 (F a 1))) (aI (G.2.1 (F a 0))))
    (oq9 : SO (G9.2.1 (F a 2)) ((G9.1 a 3).toInt))
    (ps : SO (G_42.2.1 (F a 2)) ((G_42.1 a 3).toInt))
    (pm : ∀ y : Int, MB (G_42.2.1 (F a 2)) ((G_42.1 a 3).toInt) y ↔ OFd (vw (G.2.1 (F p1 0))) (vw (G.2.1 (F p2 0))) (aI (G.2.1 (F a 1))) (aI (G.2.1 (F a 0))) ((G.1 p0 0).toInt) ((G.1 p0 2).toInt) ((G.1 p0 3).toInt) ((G.1 p0 4).toInt) y)
    (pq : qL G_45 F p3 = qL G F p3 ++ (lst (fun i => (G_42.2.1 (F a 2) i).toInt) (l5_45.toInt).toNat).filterMap (uq1 (vw (G.2.1 (F p1 0))) (vw (G.2.1 (F p2 0))) (G.1 p0)))
    (s0 : 0 ≤ ((G.1 p3 6).toInt) ∧ ((G.1 p3 6).toInt) ≤ 990)
    (z0 : (0 ≤ ((G.1 p0 0).toInt) ∧ ((G.1 p0 0).toInt) ≤ 5) ∧ (0 ≤ ((G.1 p0 2).toInt) ∧ ((G.1 p0 2).toInt) ≤ 2) ∧ (0 ≤ ((G.1 p0 3).toInt) ∧ ((G.1 p0 3).toInt) ≤ 2) ∧ (-1 ≤ ((G.1 p0 4).toInt) ∧ ((G.1 p0 4).toInt) ≤ 2) ∧ (((G.1 p0 0).toInt) = 1 ∨ ((G.1 p0 0).toInt) = 3 ∨ ((G.1 p0 0).toInt) = 4 → 0 ≤ ((G.1 p0 4).toInt)))
    (t9 : 0 ≤ ((G9.1 a 3).toInt) ∧ ((G9.1 a 3).toInt) ≤ 60)
    (t13 : ((((G.1 p0 0).toInt) = 1 ∨ ((G.1 p0 0).toInt) = 4) ∧ x13.toInt = 1) ∨ (¬ (((G.1 p0 0).toInt) = 1 ∨ ((G.1 p0 0).toInt) = 4) ∧ x13.toInt = 0))
    (I42_0 : 0 ≤ ((G_42.1 a 3).toInt) ∧ ((G_42.1 a 3).toInt) ≤ 90)
    (I45_0 : 0 ≤ l5_45.toInt ∧ l5_45.toInt ≤ ((G_42.1 a 3).toInt))
    (I45_1 : ((G_45.1 p3 6).toInt) ≤ ((G.1 p3 6).toInt) + l5_45.toInt ∧ ((G.1 p3 6).toInt) ≤ ((G_45.1 p3 6).toInt))
    (I45_2 : (0 : Int) ≤ l5_45.toInt)
    (hm45 : 2147483648 - l5_45.toInt < (((N45) + 1 : Nat) : Int))
    (c51 : ((G_42.1 a 3).toInt) ≤ l5_45.toInt) :
    qL G_45 F p3 = qL G F p3 ++ uqs (vw (G.2.1 (F p1 0))) (vw (G.2.1 (F p2 0))) (G.1 p0) := by
  rw [pq, show (l5_45.toInt).toNat = ((G_42.1 a 3).toInt).toNat from by omega, uqs_of (by omega) ps (fun y h => OFd.sb ((pm y).mp h)) (fun y h1 h2 => (pm y).mpr (OFd.all hch (by omega) (by omega) (by omega) (by omega) h1 h2))]
theorem v_X1_addQuestions_122_3 {K : Nat → Nat} {F : Nat → Nat → Nat} (a : Nat) (p0 : Nat) (p1 : Nat) (p2 : Nat) (p3 : Nat) (G : XG) (G9 : XG) (G_42 : XG) (G_45 : XG) (l5_45 : Int32) (x13 : Int32) (N45 : Nat)
    (ha : K a = 3)
    (hp0 : K p0 = 9)
    (hp1 : K p1 = 8)
    (hp2 : K p2 = 8)
    (hp3 : K p3 = 6)
    (hch : CH (vw (G.2.1 (F p1 0))) (vw (G.2.1 (F p2 0))) (aI (G.2.1 (F a 1))) (aI (G.2.1 (F a 0))))
    (oq9 : SO (G9.2.1 (F a 2)) ((G9.1 a 3).toInt))
    (ps : SO (G_42.2.1 (F a 2)) ((G_42.1 a 3).toInt))
    (pm : ∀ y : Int, MB (G_42.2.1 (F a 2)) ((G_42.1 a 3).toInt) y ↔ OFd (vw (G.2.1 (F p1 0))) (vw (G.2.1 (F p2 0))) (aI (G.2.1 (F a 1))) (aI (G.2.1 (F a 0))) ((G.1 p0 0).toInt) ((G.1 p0 2).toInt) ((G.1 p0 3).toInt) ((G.1 p0 4).toInt) y)
    (pq : qL G_45 F p3 = qL G F p3 ++ (lst (fun i => (G_42.2.1 (F a 2) i).toInt) (l5_45.toInt).toNat).filterMap (uq1 (vw (G.2.1 (F p1 0))) (vw (G.2.1 (F p2 0))) (G.1 p0)))
    (s0 : 0 ≤ ((G.1 p3 6).toInt) ∧ ((G.1 p3 6).toInt) ≤ 990)
    (z0 : (0 ≤ ((G.1 p0 0).toInt) ∧ ((G.1 p0 0).toInt) ≤ 5) ∧ (0 ≤ ((G.1 p0 2).toInt) ∧ ((G.1 p0 2).toInt) ≤ 2) ∧ (0 ≤ ((G.1 p0 3).toInt) ∧ ((G.1 p0 3).toInt) ≤ 2) ∧ (-1 ≤ ((G.1 p0 4).toInt) ∧ ((G.1 p0 4).toInt) ≤ 2) ∧ (((G.1 p0 0).toInt) = 1 ∨ ((G.1 p0 0).toInt) = 3 ∨ ((G.1 p0 0).toInt) = 4 → 0 ≤ ((G.1 p0 4).toInt)))
    (t9 : 0 ≤ ((G9.1 a 3).toInt) ∧ ((G9.1 a 3).toInt) ≤ 60)
    (t13 : ((((G.1 p0 0).toInt) = 1 ∨ ((G.1 p0 0).toInt) = 4) ∧ x13.toInt = 1) ∨ (¬ (((G.1 p0 0).toInt) = 1 ∨ ((G.1 p0 0).toInt) = 4) ∧ x13.toInt = 0))
    (I42_0 : 0 ≤ ((G_42.1 a 3).toInt) ∧ ((G_42.1 a 3).toInt) ≤ 90)
    (I45_0 : 0 ≤ l5_45.toInt ∧ l5_45.toInt ≤ ((G_42.1 a 3).toInt))
    (I45_1 : ((G_45.1 p3 6).toInt) ≤ ((G.1 p3 6).toInt) + l5_45.toInt ∧ ((G.1 p3 6).toInt) ≤ ((G_45.1 p3 6).toInt))
    (I45_2 : (0 : Int) ≤ l5_45.toInt)
    (hm45 : 2147483648 - l5_45.toInt < (((N45) + 1 : Nat) : Int))
    (c51 : ¬ (((G_42.1 a 3).toInt) ≤ l5_45.toInt))
    (c58 : (90 : Int) ≤ l5_45.toInt) :
    qL G_45 F p3 = qL G F p3 ++ uqs (vw (G.2.1 (F p1 0))) (vw (G.2.1 (F p2 0))) (G.1 p0) := by
  rw [pq, show (l5_45.toInt).toNat = ((G_42.1 a 3).toInt).toNat from by omega, uqs_of (by omega) ps (fun y h => OFd.sb ((pm y).mp h)) (fun y h1 h2 => (pm y).mpr (OFd.all hch (by omega) (by omega) (by omega) (by omega) h1 h2))]
theorem v_X1_addQuestions_74_4 {F : Nat → Nat → Nat} (p1 : Nat) (p2 : Nat) (G : XG) (G_45 : XG)
    (ro1 : RO (vw (G.2.1 (F p1 0))) (aI (G.2.1 (F p1 1))))
    (ro2 : RO (vw (G.2.1 (F p2 0))) (aI (G.2.1 (F p2 1))))
    (c_G_45_F_p1_0 : G_45.2.1 (F p1 0) = G.2.1 (F p1 0))
    (c_G_45_F_p1_1 : G_45.2.1 (F p1 1) = G.2.1 (F p1 1)) :
    RO (vw (G_45.2.1 (F p1 0))) (aI (G_45.2.1 (F p1 1))) := by simp only [c_G_45_F_p1_0, c_G_45_F_p1_1]; assumption
theorem v_X1_addQuestions_74_5 {K : Nat → Nat} {F : Nat → Nat → Nat} (a : Nat) (p0 : Nat) (p1 : Nat) (p2 : Nat) (p3 : Nat) (G2 : XG) (G : XG) (G9 : XG) (G_42 : XG) (G_45 : XG) (l5_45 : Int32) (x67 : Int32) (x13 : Int32) (N45 : Nat)
    (ha : K a = 3)
    (hp0 : K p0 = 9)
    (hp1 : K p1 = 8)
    (hp2 : K p2 = 8)
    (hp3 : K p3 = 6)
    (hk9999 : K (F a 2) = 24)
    (hj9999 : F (F a 2) 99 = 4)
    (hk9999a : K (F p3 0) = 22)
    (hj9999a : F (F p3 0) 99 = 10 * F p3 99 + 0)
    (hk9999b : K (F p3 1) = 22)
    (hj9999b : F (F p3 1) 99 = 10 * F p3 99 + 1)
    (hk9999c : K (F p3 2) = 22)
    (hj9999c : F (F p3 2) 99 = 10 * F p3 99 + 2)
    (hk9999d : K (F p3 3) = 22)
    (hj9999d : F (F p3 3) 99 = 10 * F p3 99 + 3)
    (hk9999e : K (F p3 4) = 23)
    (hj9999e : F (F p3 4) 99 = 10 * F p3 99 + 4)
    (hk9999f : K (F p3 5) = 23)
    (hj9999f : F (F p3 5) 99 = 10 * F p3 99 + 5)
    (hk9999g : K (F p1 0) = 20)
    (hj9999g : F (F p1 0) 99 = F p1 99)
    (hk9999h : K (F p1 1) = 21)
    (hj9999h : F (F p1 1) 99 = F p1 99)
    (hk9999i : K (F p2 0) = 20)
    (hj9999i : F (F p2 0) 99 = F p2 99)
    (hk9999j : K (F p2 1) = 21)
    (hj9999j : F (F p2 1) 99 = F p2 99)
    (hk9999k : K (F a 1) = 21)
    (hj9999k : F (F a 1) 99 = 101)
    (hk9999l : K (F a 0) = 21)
    (hj9999l : F (F a 0) 99 = 100)
    (hG2 : G2 = dput G a 3 0)
    (hF9 : XFr [(a, 3)] [F a 2] [] G2 G9)
    (hF_42 : XFr [(a, 3)] [F a 2] [] G9 G_42)
    (hF_45 : XFr [(p3, 6)] [F p3 0, F p3 1, F p3 2, F p3 3, F p3 4, F p3 5] [] G_42 G_45)
    (ro1 : RO (vw (G.2.1 (F p1 0))) (aI (G.2.1 (F p1 1))))
    (ro2 : RO (vw (G.2.1 (F p2 0))) (aI (G.2.1 (F p2 1))))
    (hrw : RW (G.1 p0))
    (hch : CH (vw (G.2.1 (F p1 0))) (vw (G.2.1 (F p2 0))) (aI (G.2.1 (F a 1))) (aI (G.2.1 (F a 0))))
    (oq9 : SO (G9.2.1 (F a 2)) ((G9.1 a 3).toInt))
    (oq9a : ∀ y : Int, MB (G9.2.1 (F a 2)) ((G9.1 a 3).toInt) y ↔ ((((G.1 p0 0).toInt) = 2 ∨ ((G.1 p0 0).toInt) = 5) ∧ 0 ≤ y ∧ y < 30 ∧ bI (aI (G2.2.1 (F a 0)) ((G.1 p0 2).toInt)) y = 1) ∨ (¬ (((G.1 p0 0).toInt) = 2 ∨ ((G.1 p0 0).toInt) = 5) ∧ ∃ k : Int, 0 ≤ k ∧ k < 30 ∧ bI (aI (G2.2.1 (F a 0)) ((G.1 p0 2).toInt)) k = 1 ∧ OV ((G.1 p0 0).toInt) (cel (vw (G.2.1 (F p1 0))) ((G.1 p0 2).toInt) k ((G.1 p0 3).toInt)) (cel (vw (G.2.1 (F p2 0))) ((G.1 p0 2).toInt) k ((G.1 p0 3).toInt)) y))
    (ps : SO (G_42.2.1 (F a 2)) ((G_42.1 a 3).toInt))
    (pm : ∀ y : Int, MB (G_42.2.1 (F a 2)) ((G_42.1 a 3).toInt) y ↔ OFd (vw (G.2.1 (F p1 0))) (vw (G.2.1 (F p2 0))) (aI (G.2.1 (F a 1))) (aI (G.2.1 (F a 0))) ((G.1 p0 0).toInt) ((G.1 p0 2).toInt) ((G.1 p0 3).toInt) ((G.1 p0 4).toInt) y)
    (pq : qL G_45 F p3 = qL G F p3 ++ (lst (fun i => (G_42.2.1 (F a 2) i).toInt) (l5_45.toInt).toNat).filterMap (uq1 (vw (G.2.1 (F p1 0))) (vw (G.2.1 (F p2 0))) (G.1 p0)))
    (hv67 : x67.toInt = (aI (G_42.2.1 (F a 2)) (l5_45.toInt)))
    (s0 : 0 ≤ ((G.1 p3 6).toInt) ∧ ((G.1 p3 6).toInt) ≤ 990)
    (z0 : (0 ≤ ((G.1 p0 0).toInt) ∧ ((G.1 p0 0).toInt) ≤ 5) ∧ (0 ≤ ((G.1 p0 2).toInt) ∧ ((G.1 p0 2).toInt) ≤ 2) ∧ (0 ≤ ((G.1 p0 3).toInt) ∧ ((G.1 p0 3).toInt) ≤ 2) ∧ (-1 ≤ ((G.1 p0 4).toInt) ∧ ((G.1 p0 4).toInt) ≤ 2) ∧ (((G.1 p0 0).toInt) = 1 ∨ ((G.1 p0 0).toInt) = 3 ∨ ((G.1 p0 0).toInt) = 4 → 0 ≤ ((G.1 p0 4).toInt)))
    (t9 : 0 ≤ ((G9.1 a 3).toInt) ∧ ((G9.1 a 3).toInt) ≤ 60)
    (t13 : ((((G.1 p0 0).toInt) = 1 ∨ ((G.1 p0 0).toInt) = 4) ∧ x13.toInt = 1) ∨ (¬ (((G.1 p0 0).toInt) = 1 ∨ ((G.1 p0 0).toInt) = 4) ∧ x13.toInt = 0))
    (I42_0 : 0 ≤ ((G_42.1 a 3).toInt) ∧ ((G_42.1 a 3).toInt) ≤ 90)
    (I45_0 : 0 ≤ l5_45.toInt ∧ l5_45.toInt ≤ ((G_42.1 a 3).toInt))
    (I45_1 : ((G_45.1 p3 6).toInt) ≤ ((G.1 p3 6).toInt) + l5_45.toInt ∧ ((G.1 p3 6).toInt) ≤ ((G_45.1 p3 6).toInt))
    (I45_2 : (0 : Int) ≤ l5_45.toInt)
    (hm45 : 2147483648 - l5_45.toInt < (((N45) + 1 : Nat) : Int))
    (c51 : ¬ (((G_42.1 a 3).toInt) ≤ l5_45.toInt))
    (c58 : ¬ ((90 : Int) ≤ l5_45.toInt))
    (c_G2_F_a_0 : G2.2.1 (F a 0) = G.2.1 (F a 0))
    (c_G_45_F_a_2 : G_45.2.1 (F a 2) = G_42.2.1 (F a 2))
    (D_G_45_p0 : G_45.1 p0 = G.1 p0)
    (d_G_45_a_3 : G_45.1 a 3 = G_42.1 a 3) :
    RW (G_45.1 p0) := by
  first | assumption | omega | (simp only [D_G_45_p0]; assumption)
theorem v_X1_addQuestions_83_6 {F : Nat → Nat → Nat} (p1 : Nat) (p2 : Nat) (G : XG) (G_45 : XG)
    (ro1 : RO (vw (G.2.1 (F p1 0))) (aI (G.2.1 (F p1 1))))
    (ro2 : RO (vw (G.2.1 (F p2 0))) (aI (G.2.1 (F p2 1))))
    (c_G_45_F_p2_0 : G_45.2.1 (F p2 0) = G.2.1 (F p2 0))
    (c_G_45_F_p2_1 : G_45.2.1 (F p2 1) = G.2.1 (F p2 1)) :
    RO (vw (G_45.2.1 (F p2 0))) (aI (G_45.2.1 (F p2 1))) := by simp only [c_G_45_F_p2_0, c_G_45_F_p2_1]; assumption
theorem v_X1_addQuestions_83_7 {K : Nat → Nat} {F : Nat → Nat → Nat} (a : Nat) (p0 : Nat) (p1 : Nat) (p2 : Nat) (p3 : Nat) (G2 : XG) (G : XG) (G9 : XG) (G_42 : XG) (G_45 : XG) (l5_45 : Int32) (x67 : Int32) (x13 : Int32) (N45 : Nat)
    (ha : K a = 3)
    (hp0 : K p0 = 9)
    (hp1 : K p1 = 8)
    (hp2 : K p2 = 8)
    (hp3 : K p3 = 6)
    (hk9999 : K (F a 2) = 24)
    (hj9999 : F (F a 2) 99 = 4)
    (hk9999a : K (F p3 0) = 22)
    (hj9999a : F (F p3 0) 99 = 10 * F p3 99 + 0)
    (hk9999b : K (F p3 1) = 22)
    (hj9999b : F (F p3 1) 99 = 10 * F p3 99 + 1)
    (hk9999c : K (F p3 2) = 22)
    (hj9999c : F (F p3 2) 99 = 10 * F p3 99 + 2)
    (hk9999d : K (F p3 3) = 22)
    (hj9999d : F (F p3 3) 99 = 10 * F p3 99 + 3)
    (hk9999e : K (F p3 4) = 23)
    (hj9999e : F (F p3 4) 99 = 10 * F p3 99 + 4)
    (hk9999f : K (F p3 5) = 23)
    (hj9999f : F (F p3 5) 99 = 10 * F p3 99 + 5)
    (hk9999g : K (F p1 0) = 20)
    (hj9999g : F (F p1 0) 99 = F p1 99)
    (hk9999h : K (F p1 1) = 21)
    (hj9999h : F (F p1 1) 99 = F p1 99)
    (hk9999i : K (F p2 0) = 20)
    (hj9999i : F (F p2 0) 99 = F p2 99)
    (hk9999j : K (F p2 1) = 21)
    (hj9999j : F (F p2 1) 99 = F p2 99)
    (hk9999k : K (F a 1) = 21)
    (hj9999k : F (F a 1) 99 = 101)
    (hk9999l : K (F a 0) = 21)
    (hj9999l : F (F a 0) 99 = 100)
    (hG2 : G2 = dput G a 3 0)
    (hF9 : XFr [(a, 3)] [F a 2] [] G2 G9)
    (hF_42 : XFr [(a, 3)] [F a 2] [] G9 G_42)
    (hF_45 : XFr [(p3, 6)] [F p3 0, F p3 1, F p3 2, F p3 3, F p3 4, F p3 5] [] G_42 G_45)
    (ro1 : RO (vw (G.2.1 (F p1 0))) (aI (G.2.1 (F p1 1))))
    (ro2 : RO (vw (G.2.1 (F p2 0))) (aI (G.2.1 (F p2 1))))
    (hrw : RW (G.1 p0))
    (hch : CH (vw (G.2.1 (F p1 0))) (vw (G.2.1 (F p2 0))) (aI (G.2.1 (F a 1))) (aI (G.2.1 (F a 0))))
    (oq9 : SO (G9.2.1 (F a 2)) ((G9.1 a 3).toInt))
    (oq9a : ∀ y : Int, MB (G9.2.1 (F a 2)) ((G9.1 a 3).toInt) y ↔ ((((G.1 p0 0).toInt) = 2 ∨ ((G.1 p0 0).toInt) = 5) ∧ 0 ≤ y ∧ y < 30 ∧ bI (aI (G2.2.1 (F a 0)) ((G.1 p0 2).toInt)) y = 1) ∨ (¬ (((G.1 p0 0).toInt) = 2 ∨ ((G.1 p0 0).toInt) = 5) ∧ ∃ k : Int, 0 ≤ k ∧ k < 30 ∧ bI (aI (G2.2.1 (F a 0)) ((G.1 p0 2).toInt)) k = 1 ∧ OV ((G.1 p0 0).toInt) (cel (vw (G.2.1 (F p1 0))) ((G.1 p0 2).toInt) k ((G.1 p0 3).toInt)) (cel (vw (G.2.1 (F p2 0))) ((G.1 p0 2).toInt) k ((G.1 p0 3).toInt)) y))
    (ps : SO (G_42.2.1 (F a 2)) ((G_42.1 a 3).toInt))
    (pm : ∀ y : Int, MB (G_42.2.1 (F a 2)) ((G_42.1 a 3).toInt) y ↔ OFd (vw (G.2.1 (F p1 0))) (vw (G.2.1 (F p2 0))) (aI (G.2.1 (F a 1))) (aI (G.2.1 (F a 0))) ((G.1 p0 0).toInt) ((G.1 p0 2).toInt) ((G.1 p0 3).toInt) ((G.1 p0 4).toInt) y)
    (pq : qL G_45 F p3 = qL G F p3 ++ (lst (fun i => (G_42.2.1 (F a 2) i).toInt) (l5_45.toInt).toNat).filterMap (uq1 (vw (G.2.1 (F p1 0))) (vw (G.2.1 (F p2 0))) (G.1 p0)))
    (hv67 : x67.toInt = (aI (G_42.2.1 (F a 2)) (l5_45.toInt)))
    (s0 : 0 ≤ ((G.1 p3 6).toInt) ∧ ((G.1 p3 6).toInt) ≤ 990)
    (z0 : (0 ≤ ((G.1 p0 0).toInt) ∧ ((G.1 p0 0).toInt) ≤ 5) ∧ (0 ≤ ((G.1 p0 2).toInt) ∧ ((G.1 p0 2).toInt) ≤ 2) ∧ (0 ≤ ((G.1 p0 3).toInt) ∧ ((G.1 p0 3).toInt) ≤ 2) ∧ (-1 ≤ ((G.1 p0 4).toInt) ∧ ((G.1 p0 4).toInt) ≤ 2) ∧ (((G.1 p0 0).toInt) = 1 ∨ ((G.1 p0 0).toInt) = 3 ∨ ((G.1 p0 0).toInt) = 4 → 0 ≤ ((G.1 p0 4).toInt)))
    (t9 : 0 ≤ ((G9.1 a 3).toInt) ∧ ((G9.1 a 3).toInt) ≤ 60)
    (t13 : ((((G.1 p0 0).toInt) = 1 ∨ ((G.1 p0 0).toInt) = 4) ∧ x13.toInt = 1) ∨ (¬ (((G.1 p0 0).toInt) = 1 ∨ ((G.1 p0 0).toInt) = 4) ∧ x13.toInt = 0))
    (I42_0 : 0 ≤ ((G_42.1 a 3).toInt) ∧ ((G_42.1 a 3).toInt) ≤ 90)
    (I45_0 : 0 ≤ l5_45.toInt ∧ l5_45.toInt ≤ ((G_42.1 a 3).toInt))
    (I45_1 : ((G_45.1 p3 6).toInt) ≤ ((G.1 p3 6).toInt) + l5_45.toInt ∧ ((G.1 p3 6).toInt) ≤ ((G_45.1 p3 6).toInt))
    (I45_2 : (0 : Int) ≤ l5_45.toInt)
    (hm45 : 2147483648 - l5_45.toInt < (((N45) + 1 : Nat) : Int))
    (c51 : ¬ (((G_42.1 a 3).toInt) ≤ l5_45.toInt))
    (c58 : ¬ ((90 : Int) ≤ l5_45.toInt))
    (c_G2_F_a_0 : G2.2.1 (F a 0) = G.2.1 (F a 0))
    (c_G_45_F_a_2 : G_45.2.1 (F a 2) = G_42.2.1 (F a 2))
    (D_G_45_p0 : G_45.1 p0 = G.1 p0)
    (d_G_45_a_3 : G_45.1 a 3 = G_42.1 a 3) :
    RW (G_45.1 p0) := by
  first | assumption | omega | (simp only [D_G_45_p0]; assumption)
theorem v_X1_addQuestions_119_8 {K : Nat → Nat} {F : Nat → Nat → Nat} (a : Nat) (p0 : Nat) (p1 : Nat) (p2 : Nat) (p3 : Nat) (G : XG) (G9 : XG) (G_42 : XG) (G_45 : XG) (l5_45 : Int32) (x13 : Int32) (N45 : Nat)
    (ha : K a = 3)
    (hp0 : K p0 = 9)
    (hp1 : K p1 = 8)
    (hp2 : K p2 = 8)
    (hp3 : K p3 = 6)
    (hch : CH (vw (G.2.1 (F p1 0))) (vw (G.2.1 (F p2 0))) (aI (G.2.1 (F a 1))) (aI (G.2.1 (F a 0))))
    (oq9 : SO (G9.2.1 (F a 2)) ((G9.1 a 3).toInt))
    (ps : SO (G_42.2.1 (F a 2)) ((G_42.1 a 3).toInt))
    (pq : qL G_45 F p3 = qL G F p3 ++ (lst (fun i => (G_42.2.1 (F a 2) i).toInt) (l5_45.toInt).toNat).filterMap (uq1 (vw (G.2.1 (F p1 0))) (vw (G.2.1 (F p2 0))) (G.1 p0)))
    (s0 : 0 ≤ ((G.1 p3 6).toInt) ∧ ((G.1 p3 6).toInt) ≤ 990)
    (z0 : (0 ≤ ((G.1 p0 0).toInt) ∧ ((G.1 p0 0).toInt) ≤ 5) ∧ (0 ≤ ((G.1 p0 2).toInt) ∧ ((G.1 p0 2).toInt) ≤ 2) ∧ (0 ≤ ((G.1 p0 3).toInt) ∧ ((G.1 p0 3).toInt) ≤ 2) ∧ (-1 ≤ ((G.1 p0 4).toInt) ∧ ((G.1 p0 4).toInt) ≤ 2) ∧ (((G.1 p0 0).toInt) = 1 ∨ ((G.1 p0 0).toInt) = 3 ∨ ((G.1 p0 0).toInt) = 4 → 0 ≤ ((G.1 p0 4).toInt)))
    (t9 : 0 ≤ ((G9.1 a 3).toInt) ∧ ((G9.1 a 3).toInt) ≤ 60)
    (t13 : ((((G.1 p0 0).toInt) = 1 ∨ ((G.1 p0 0).toInt) = 4) ∧ x13.toInt = 1) ∨ (¬ (((G.1 p0 0).toInt) = 1 ∨ ((G.1 p0 0).toInt) = 4) ∧ x13.toInt = 0))
    (I42_0 : 0 ≤ ((G_42.1 a 3).toInt) ∧ ((G_42.1 a 3).toInt) ≤ 90)
    (I45_0 : 0 ≤ l5_45.toInt ∧ l5_45.toInt ≤ ((G_42.1 a 3).toInt))
    (I45_1 : ((G_45.1 p3 6).toInt) ≤ ((G.1 p3 6).toInt) + l5_45.toInt ∧ ((G.1 p3 6).toInt) ≤ ((G_45.1 p3 6).toInt))
    (I45_2 : (0 : Int) ≤ l5_45.toInt)
    (hm45 : 2147483648 - l5_45.toInt < (((N45) + 1 : Nat) : Int))
    (c51 : ¬ (((G_42.1 a 3).toInt) ≤ l5_45.toInt))
    (c58 : ¬ ((90 : Int) ≤ l5_45.toInt))
    (c92 : (stt (vw (G.2.1 (F p1 0))) ((G.1 p0 0).toInt) ((G.1 p0 2).toInt) ((G.1 p0 3).toInt) ((G.1 p0 4).toInt) (aI (G_42.2.1 (F a 2)) (l5_45.toInt))) = (stt (vw (G.2.1 (F p2 0))) ((G.1 p0 0).toInt) ((G.1 p0 2).toInt) ((G.1 p0 3).toInt) ((G.1 p0 4).toInt) (aI (G_42.2.1 (F a 2)) (l5_45.toInt)))) :
    qL G_45 F p3 = qL G F p3 ++ (lst (fun i => (G_42.2.1 (F a 2) i).toInt) (l5_45.toInt + 1).toNat).filterMap (uq1 (vw (G.2.1 (F p1 0))) (vw (G.2.1 (F p2 0))) (G.1 p0)) := by
  have e : (l5_45.toInt + 1).toNat = l5_45.toInt.toNat + 1 := by omega
  rw [e, lst_s, List.filterMap_append, ← List.append_assoc, ← pq]
  by_cases hq : stt (vw (G.2.1 (F p1 0))) ((G.1 p0 0).toInt) ((G.1 p0 2).toInt) ((G.1 p0 3).toInt) ((G.1 p0 4).toInt) (aI (G_42.2.1 (F a 2)) (l5_45.toInt)) = stt (vw (G.2.1 (F p2 0))) ((G.1 p0 0).toInt) ((G.1 p0 2).toInt) ((G.1 p0 3).toInt) ((G.1 p0 4).toInt) (aI (G_42.2.1 (F a 2)) (l5_45.toInt))
  · first
      | exact absurd hq c92
      | (have hn : uq1 (vw (G.2.1 (F p1 0))) (vw (G.2.1 (F p2 0))) (G.1 p0) ((G_42.2.1 (F a 2) l5_45.toInt.toNat).toInt) = none := if_neg (fun z => z hq)
         rw [filterMap_1n hn, List.append_nil])
  · first
      | exact absurd c92 hq
      | (have hs : uq1 (vw (G.2.1 (F p1 0))) (vw (G.2.1 (F p2 0))) (G.1 p0) ((G_42.2.1 (F a 2) l5_45.toInt.toNat).toInt) = some _ := if_pos hq
         rw [filterMap_1s hs, oq113, t110]
         rfl)
theorem v_X1_addQuestions_110_9 {F : Nat → Nat → Nat} (p1 : Nat) (p2 : Nat) (G : XG) (G_45 : XG)
    (ro1 : RO (vw (G.2.1 (F p1 0))) (aI (G.2.1 (F p1 1))))
    (ro2 : RO (vw (G.2.1 (F p2 0))) (aI (G.2.1 (F p2 1))))
    (c_G_45_F_p2_0 : G_45.2.1 (F p2 0) = G.2.1 (F p2 0))
    (c_G_45_F_p2_1 : G_45.2.1 (F p2 1) = G.2.1 (F p2 1)) :
    RO (vw (G_45.2.1 (F p2 0))) (aI (G_45.2.1 (F p2 1))) := by simp only [c_G_45_F_p2_0, c_G_45_F_p2_1]; assumption
theorem v_X1_addQuestions_110_10 {K : Nat → Nat} {F : Nat → Nat → Nat} (a : Nat) (p0 : Nat) (p1 : Nat) (p2 : Nat) (p3 : Nat) (G2 : XG) (G : XG) (G9 : XG) (G_42 : XG) (G_45 : XG) (l5_45 : Int32) (x67 : Int32) (x13 : Int32) (N45 : Nat)
    (ha : K a = 3)
    (hp0 : K p0 = 9)
    (hp1 : K p1 = 8)
    (hp2 : K p2 = 8)
    (hp3 : K p3 = 6)
    (hk9999 : K (F a 2) = 24)
    (hj9999 : F (F a 2) 99 = 4)
    (hk9999a : K (F p3 0) = 22)
    (hj9999a : F (F p3 0) 99 = 10 * F p3 99 + 0)
    (hk9999b : K (F p3 1) = 22)
    (hj9999b : F (F p3 1) 99 = 10 * F p3 99 + 1)
    (hk9999c : K (F p3 2) = 22)
    (hj9999c : F (F p3 2) 99 = 10 * F p3 99 + 2)
    (hk9999d : K (F p3 3) = 22)
    (hj9999d : F (F p3 3) 99 = 10 * F p3 99 + 3)
    (hk9999e : K (F p3 4) = 23)
    (hj9999e : F (F p3 4) 99 = 10 * F p3 99 + 4)
    (hk9999f : K (F p3 5) = 23)
    (hj9999f : F (F p3 5) 99 = 10 * F p3 99 + 5)
    (hk9999g : K (F p1 0) = 20)
    (hj9999g : F (F p1 0) 99 = F p1 99)
    (hk9999h : K (F p1 1) = 21)
    (hj9999h : F (F p1 1) 99 = F p1 99)
    (hk9999i : K (F p2 0) = 20)
    (hj9999i : F (F p2 0) 99 = F p2 99)
    (hk9999j : K (F p2 1) = 21)
    (hj9999j : F (F p2 1) 99 = F p2 99)
    (hk9999k : K (F a 1) = 21)
    (hj9999k : F (F a 1) 99 = 101)
    (hk9999l : K (F a 0) = 21)
    (hj9999l : F (F a 0) 99 = 100)
    (hG2 : G2 = dput G a 3 0)
    (hF9 : XFr [(a, 3)] [F a 2] [] G2 G9)
    (hF_42 : XFr [(a, 3)] [F a 2] [] G9 G_42)
    (hF_45 : XFr [(p3, 6)] [F p3 0, F p3 1, F p3 2, F p3 3, F p3 4, F p3 5] [] G_42 G_45)
    (ro1 : RO (vw (G.2.1 (F p1 0))) (aI (G.2.1 (F p1 1))))
    (ro2 : RO (vw (G.2.1 (F p2 0))) (aI (G.2.1 (F p2 1))))
    (hrw : RW (G.1 p0))
    (hch : CH (vw (G.2.1 (F p1 0))) (vw (G.2.1 (F p2 0))) (aI (G.2.1 (F a 1))) (aI (G.2.1 (F a 0))))
    (oq9 : SO (G9.2.1 (F a 2)) ((G9.1 a 3).toInt))
    (oq9a : ∀ y : Int, MB (G9.2.1 (F a 2)) ((G9.1 a 3).toInt) y ↔ ((((G.1 p0 0).toInt) = 2 ∨ ((G.1 p0 0).toInt) = 5) ∧ 0 ≤ y ∧ y < 30 ∧ bI (aI (G2.2.1 (F a 0)) ((G.1 p0 2).toInt)) y = 1) ∨ (¬ (((G.1 p0 0).toInt) = 2 ∨ ((G.1 p0 0).toInt) = 5) ∧ ∃ k : Int, 0 ≤ k ∧ k < 30 ∧ bI (aI (G2.2.1 (F a 0)) ((G.1 p0 2).toInt)) k = 1 ∧ OV ((G.1 p0 0).toInt) (cel (vw (G.2.1 (F p1 0))) ((G.1 p0 2).toInt) k ((G.1 p0 3).toInt)) (cel (vw (G.2.1 (F p2 0))) ((G.1 p0 2).toInt) k ((G.1 p0 3).toInt)) y))
    (ps : SO (G_42.2.1 (F a 2)) ((G_42.1 a 3).toInt))
    (pm : ∀ y : Int, MB (G_42.2.1 (F a 2)) ((G_42.1 a 3).toInt) y ↔ OFd (vw (G.2.1 (F p1 0))) (vw (G.2.1 (F p2 0))) (aI (G.2.1 (F a 1))) (aI (G.2.1 (F a 0))) ((G.1 p0 0).toInt) ((G.1 p0 2).toInt) ((G.1 p0 3).toInt) ((G.1 p0 4).toInt) y)
    (pq : qL G_45 F p3 = qL G F p3 ++ (lst (fun i => (G_42.2.1 (F a 2) i).toInt) (l5_45.toInt).toNat).filterMap (uq1 (vw (G.2.1 (F p1 0))) (vw (G.2.1 (F p2 0))) (G.1 p0)))
    (hv67 : x67.toInt = (aI (G_42.2.1 (F a 2)) (l5_45.toInt)))
    (s0 : 0 ≤ ((G.1 p3 6).toInt) ∧ ((G.1 p3 6).toInt) ≤ 990)
    (z0 : (0 ≤ ((G.1 p0 0).toInt) ∧ ((G.1 p0 0).toInt) ≤ 5) ∧ (0 ≤ ((G.1 p0 2).toInt) ∧ ((G.1 p0 2).toInt) ≤ 2) ∧ (0 ≤ ((G.1 p0 3).toInt) ∧ ((G.1 p0 3).toInt) ≤ 2) ∧ (-1 ≤ ((G.1 p0 4).toInt) ∧ ((G.1 p0 4).toInt) ≤ 2) ∧ (((G.1 p0 0).toInt) = 1 ∨ ((G.1 p0 0).toInt) = 3 ∨ ((G.1 p0 0).toInt) = 4 → 0 ≤ ((G.1 p0 4).toInt)))
    (t9 : 0 ≤ ((G9.1 a 3).toInt) ∧ ((G9.1 a 3).toInt) ≤ 60)
    (t13 : ((((G.1 p0 0).toInt) = 1 ∨ ((G.1 p0 0).toInt) = 4) ∧ x13.toInt = 1) ∨ (¬ (((G.1 p0 0).toInt) = 1 ∨ ((G.1 p0 0).toInt) = 4) ∧ x13.toInt = 0))
    (I42_0 : 0 ≤ ((G_42.1 a 3).toInt) ∧ ((G_42.1 a 3).toInt) ≤ 90)
    (I45_0 : 0 ≤ l5_45.toInt ∧ l5_45.toInt ≤ ((G_42.1 a 3).toInt))
    (I45_1 : ((G_45.1 p3 6).toInt) ≤ ((G.1 p3 6).toInt) + l5_45.toInt ∧ ((G.1 p3 6).toInt) ≤ ((G_45.1 p3 6).toInt))
    (I45_2 : (0 : Int) ≤ l5_45.toInt)
    (hm45 : 2147483648 - l5_45.toInt < (((N45) + 1 : Nat) : Int))
    (c51 : ¬ (((G_42.1 a 3).toInt) ≤ l5_45.toInt))
    (c58 : ¬ ((90 : Int) ≤ l5_45.toInt))
    (c92 : ¬ ((stt (vw (G.2.1 (F p1 0))) ((G.1 p0 0).toInt) ((G.1 p0 2).toInt) ((G.1 p0 3).toInt) ((G.1 p0 4).toInt) (aI (G_42.2.1 (F a 2)) (l5_45.toInt))) = (stt (vw (G.2.1 (F p2 0))) ((G.1 p0 0).toInt) ((G.1 p0 2).toInt) ((G.1 p0 3).toInt) ((G.1 p0 4).toInt) (aI (G_42.2.1 (F a 2)) (l5_45.toInt)))))
    (c_G2_F_a_0 : G2.2.1 (F a 0) = G.2.1 (F a 0))
    (c_G_45_F_a_2 : G_45.2.1 (F a 2) = G_42.2.1 (F a 2))
    (D_G_45_p0 : G_45.1 p0 = G.1 p0)
    (d_G_45_a_3 : G_45.1 a 3 = G_42.1 a 3) :
    RW (G_45.1 p0) := by
  first | assumption | omega | (simp only [D_G_45_p0]; assumption)
theorem v_X1_addQuestions_119_11 {K : Nat → Nat} {F : Nat → Nat → Nat} (a : Nat) (p0 : Nat) (p1 : Nat) (p2 : Nat) (p3 : Nat) (G : XG) (G9 : XG) (G_42 : XG) (G_45 : XG) (G113 : XG) (l5_45 : Int32) (x110 : Int32) (x13 : Int32) (N45 : Nat)
    (ha : K a = 3)
    (hp0 : K p0 = 9)
    (hp1 : K p1 = 8)
    (hp2 : K p2 = 8)
    (hp3 : K p3 = 6)
    (hch : CH (vw (G.2.1 (F p1 0))) (vw (G.2.1 (F p2 0))) (aI (G.2.1 (F a 1))) (aI (G.2.1 (F a 0))))
    (oq9 : SO (G9.2.1 (F a 2)) ((G9.1 a 3).toInt))
    (ps : SO (G_42.2.1 (F a 2)) ((G_42.1 a 3).toInt))
    (pq : qL G_45 F p3 = qL G F p3 ++ (lst (fun i => (G_42.2.1 (F a 2) i).toInt) (l5_45.toInt).toNat).filterMap (uq1 (vw (G.2.1 (F p1 0))) (vw (G.2.1 (F p2 0))) (G.1 p0)))
    (oq113 : qL G113 F p3 = qL G_45 F p3 ++ [(((G.1 p0 1).toInt), (aI (G_42.2.1 (F a 2)) (l5_45.toInt)), (stt (vw (G.2.1 (F p1 0))) ((G.1 p0 0).toInt) ((G.1 p0 2).toInt) ((G.1 p0 3).toInt) ((G.1 p0 4).toInt) (aI (G_42.2.1 (F a 2)) (l5_45.toInt))), (stt (vw (G.2.1 (F p2 0))) ((G.1 p0 0).toInt) ((G.1 p0 2).toInt) ((G.1 p0 3).toInt) ((G.1 p0 4).toInt) (aI (G_42.2.1 (F a 2)) (l5_45.toInt))), ((G.1 p0 9).toInt), x110.toInt)])
    (s0 : 0 ≤ ((G.1 p3 6).toInt) ∧ ((G.1 p3 6).toInt) ≤ 990)
    (z0 : (0 ≤ ((G.1 p0 0).toInt) ∧ ((G.1 p0 0).toInt) ≤ 5) ∧ (0 ≤ ((G.1 p0 2).toInt) ∧ ((G.1 p0 2).toInt) ≤ 2) ∧ (0 ≤ ((G.1 p0 3).toInt) ∧ ((G.1 p0 3).toInt) ≤ 2) ∧ (-1 ≤ ((G.1 p0 4).toInt) ∧ ((G.1 p0 4).toInt) ≤ 2) ∧ (((G.1 p0 0).toInt) = 1 ∨ ((G.1 p0 0).toInt) = 3 ∨ ((G.1 p0 0).toInt) = 4 → 0 ≤ ((G.1 p0 4).toInt)))
    (t9 : 0 ≤ ((G9.1 a 3).toInt) ∧ ((G9.1 a 3).toInt) ≤ 60)
    (t13 : ((((G.1 p0 0).toInt) = 1 ∨ ((G.1 p0 0).toInt) = 4) ∧ x13.toInt = 1) ∨ (¬ (((G.1 p0 0).toInt) = 1 ∨ ((G.1 p0 0).toInt) = 4) ∧ x13.toInt = 0))
    (I42_0 : 0 ≤ ((G_42.1 a 3).toInt) ∧ ((G_42.1 a 3).toInt) ≤ 90)
    (I45_0 : 0 ≤ l5_45.toInt ∧ l5_45.toInt ≤ ((G_42.1 a 3).toInt))
    (I45_1 : ((G_45.1 p3 6).toInt) ≤ ((G.1 p3 6).toInt) + l5_45.toInt ∧ ((G.1 p3 6).toInt) ≤ ((G_45.1 p3 6).toInt))
    (I45_2 : (0 : Int) ≤ l5_45.toInt)
    (hm45 : 2147483648 - l5_45.toInt < (((N45) + 1 : Nat) : Int))
    (c51 : ¬ (((G_42.1 a 3).toInt) ≤ l5_45.toInt))
    (c58 : ¬ ((90 : Int) ≤ l5_45.toInt))
    (c92 : ¬ ((stt (vw (G.2.1 (F p1 0))) ((G.1 p0 0).toInt) ((G.1 p0 2).toInt) ((G.1 p0 3).toInt) ((G.1 p0 4).toInt) (aI (G_42.2.1 (F a 2)) (l5_45.toInt))) = (stt (vw (G.2.1 (F p2 0))) ((G.1 p0 0).toInt) ((G.1 p0 2).toInt) ((G.1 p0 3).toInt) ((G.1 p0 4).toInt) (aI (G_42.2.1 (F a 2)) (l5_45.toInt)))))
    (t110 : x110.toInt = (flq (vw (G.2.1 (F p2 0))) ((G.1 p0 0).toInt) ((G.1 p0 2).toInt) ((G.1 p0 3).toInt) ((G.1 p0 5).toInt) ((G.1 p0 6).toInt) (aI (G_42.2.1 (F a 2)) (l5_45.toInt)) (stt (vw (G.2.1 (F p2 0))) ((G.1 p0 0).toInt) ((G.1 p0 2).toInt) ((G.1 p0 3).toInt) ((G.1 p0 4).toInt) (aI (G_42.2.1 (F a 2)) (l5_45.toInt)))))
    (f61 : x110.toInt = 0 ∨ x110.toInt = 1)
    (t113 : ((G113.1 p3 6).toInt) = ((G_45.1 p3 6).toInt) + 1) :
    qL G113 F p3 = qL G F p3 ++ (lst (fun i => (G_42.2.1 (F a 2) i).toInt) (l5_45.toInt + 1).toNat).filterMap (uq1 (vw (G.2.1 (F p1 0))) (vw (G.2.1 (F p2 0))) (G.1 p0)) := by
  have e : (l5_45.toInt + 1).toNat = l5_45.toInt.toNat + 1 := by omega
  rw [e, lst_s, List.filterMap_append, ← List.append_assoc, ← pq]
  by_cases hq : stt (vw (G.2.1 (F p1 0))) ((G.1 p0 0).toInt) ((G.1 p0 2).toInt) ((G.1 p0 3).toInt) ((G.1 p0 4).toInt) (aI (G_42.2.1 (F a 2)) (l5_45.toInt)) = stt (vw (G.2.1 (F p2 0))) ((G.1 p0 0).toInt) ((G.1 p0 2).toInt) ((G.1 p0 3).toInt) ((G.1 p0 4).toInt) (aI (G_42.2.1 (F a 2)) (l5_45.toInt))
  · first
      | exact absurd hq c92
      | (have hn : uq1 (vw (G.2.1 (F p1 0))) (vw (G.2.1 (F p2 0))) (G.1 p0) ((G_42.2.1 (F a 2) l5_45.toInt.toNat).toInt) = none := if_neg (fun z => z hq)
         rw [filterMap_1n hn, List.append_nil])
  · first
      | exact absurd c92 hq
      | (have hs : uq1 (vw (G.2.1 (F p1 0))) (vw (G.2.1 (F p2 0))) (G.1 p0) ((G_42.2.1 (F a 2) l5_45.toInt.toNat).toInt) = some _ := if_pos hq
         rw [filterMap_1s hs, oq113, t110]
         rfl)
theorem v_X1_addQuestions_43_12 {F : Nat → Nat → Nat} (a : Nat) (p0 : Nat) (p1 : Nat) (p2 : Nat) (p3 : Nat) (G : XG) (G_42 : XG)
    (c_G_42_F_p3_0 : G_42.2.1 (F p3 0) = G.2.1 (F p3 0))
    (c_G_42_F_p3_1 : G_42.2.1 (F p3 1) = G.2.1 (F p3 1))
    (c_G_42_F_p3_2 : G_42.2.1 (F p3 2) = G.2.1 (F p3 2))
    (c_G_42_F_p3_3 : G_42.2.1 (F p3 3) = G.2.1 (F p3 3))
    (c_G_42_F_p3_4 : G_42.2.1 (F p3 4) = G.2.1 (F p3 4))
    (c_G_42_F_p3_5 : G_42.2.1 (F p3 5) = G.2.1 (F p3 5))
    (d_G_42_p3_6 : G_42.1 p3 6 = G.1 p3 6) :
    qL G_42 F p3 = qL G F p3 ++ (lst (fun i => (G_42.2.1 (F a 2) i).toInt) (0 : Int).toNat).filterMap (uq1 (vw (G.2.1 (F p1 0))) (vw (G.2.1 (F p2 0))) (G.1 p0)) := by
  show qL G_42 F p3 = qL G F p3 ++ []
  rw [List.append_nil]
  exact qL_cg d_G_42_p3_6 c_G_42_F_p3_0 c_G_42_F_p3_1 c_G_42_F_p3_2 c_G_42_F_p3_3 c_G_42_F_p3_4 c_G_42_F_p3_5
theorem v_X1_addQuestions_16_13 {F : Nat → Nat → Nat} (a : Nat) (G9 : XG)
    (oq9 : SO (G9.2.1 (F a 2)) ((G9.1 a 3).toInt)) :
    SO (G9.2.1 (F a 2)) ((G9.1 a 3).toInt) := by
  exact oq9
theorem v_X1_addQuestions_16_14 {K : Nat → Nat} {F : Nat → Nat → Nat} (a : Nat) (p0 : Nat) (p1 : Nat) (p2 : Nat) (p3 : Nat) (G2 : XG) (G : XG) (G9 : XG) (x13 : Int32)
    (ha : K a = 3)
    (hp0 : K p0 = 9)
    (hp1 : K p1 = 8)
    (hp2 : K p2 = 8)
    (hp3 : K p3 = 6)
    (hch : CH (vw (G.2.1 (F p1 0))) (vw (G.2.1 (F p2 0))) (aI (G.2.1 (F a 1))) (aI (G.2.1 (F a 0))))
    (oq9 : SO (G9.2.1 (F a 2)) ((G9.1 a 3).toInt))
    (oq9a : ∀ y : Int, MB (G9.2.1 (F a 2)) ((G9.1 a 3).toInt) y ↔ ((((G.1 p0 0).toInt) = 2 ∨ ((G.1 p0 0).toInt) = 5) ∧ 0 ≤ y ∧ y < 30 ∧ bI (aI (G2.2.1 (F a 0)) ((G.1 p0 2).toInt)) y = 1) ∨ (¬ (((G.1 p0 0).toInt) = 2 ∨ ((G.1 p0 0).toInt) = 5) ∧ ∃ k : Int, 0 ≤ k ∧ k < 30 ∧ bI (aI (G2.2.1 (F a 0)) ((G.1 p0 2).toInt)) k = 1 ∧ OV ((G.1 p0 0).toInt) (cel (vw (G.2.1 (F p1 0))) ((G.1 p0 2).toInt) k ((G.1 p0 3).toInt)) (cel (vw (G.2.1 (F p2 0))) ((G.1 p0 2).toInt) k ((G.1 p0 3).toInt)) y))
    (s0 : 0 ≤ ((G.1 p3 6).toInt) ∧ ((G.1 p3 6).toInt) ≤ 990)
    (z0 : (0 ≤ ((G.1 p0 0).toInt) ∧ ((G.1 p0 0).toInt) ≤ 5) ∧ (0 ≤ ((G.1 p0 2).toInt) ∧ ((G.1 p0 2).toInt) ≤ 2) ∧ (0 ≤ ((G.1 p0 3).toInt) ∧ ((G.1 p0 3).toInt) ≤ 2) ∧ (-1 ≤ ((G.1 p0 4).toInt) ∧ ((G.1 p0 4).toInt) ≤ 2) ∧ (((G.1 p0 0).toInt) = 1 ∨ ((G.1 p0 0).toInt) = 3 ∨ ((G.1 p0 0).toInt) = 4 → 0 ≤ ((G.1 p0 4).toInt)))
    (t9 : 0 ≤ ((G9.1 a 3).toInt) ∧ ((G9.1 a 3).toInt) ≤ 60)
    (t13 : ((((G.1 p0 0).toInt) = 1 ∨ ((G.1 p0 0).toInt) = 4) ∧ x13.toInt = 1) ∨ (¬ (((G.1 p0 0).toInt) = 1 ∨ ((G.1 p0 0).toInt) = 4) ∧ x13.toInt = 0))
    (c16 : x13.toInt = 0)
    (c_G2_F_a_0 : G2.2.1 (F a 0) = G.2.1 (F a 0)) :
    ∀ y : Int, MB (G9.2.1 (F a 2)) ((G9.1 a 3).toInt) y ↔ OFd (vw (G.2.1 (F p1 0))) (vw (G.2.1 (F p2 0))) (aI (G.2.1 (F a 1))) (aI (G.2.1 (F a 0))) ((G.1 p0 0).toInt) ((G.1 p0 2).toInt) ((G.1 p0 3).toInt) ((G.1 p0 4).toInt) y := by
  intro y
  rw [oq9a y, c_G2_F_a_0]
  unfold OFd
  constructor
  · rintro (h | h)
    · exact Or.inl h
    · exact Or.inr (Or.inl h)
  · rintro (h | h | h)
    · exact Or.inl h
    · exact Or.inr h
    · exact absurd h.1 (by omega)
theorem v_X1_addQuestions_26_15 {F : Nat → Nat → Nat} (a : Nat) (G9 : XG)
    (oq9 : SO (G9.2.1 (F a 2)) ((G9.1 a 3).toInt)) :
    SO (G9.2.1 (F a 2)) ((G9.1 a 3).toInt) := by
  exact oq9
theorem v_X1_addQuestions_26_16 {K : Nat → Nat} {F : Nat → Nat → Nat} (a : Nat) (p0 : Nat) (p1 : Nat) (p2 : Nat) (p3 : Nat) (G : XG) (G9 : XG) (x13 : Int32) (x23 : Int32)
    (ha : K a = 3)
    (hp0 : K p0 = 9)
    (hp1 : K p1 = 8)
    (hp2 : K p2 = 8)
    (hp3 : K p3 = 6)
    (hch : CH (vw (G.2.1 (F p1 0))) (vw (G.2.1 (F p2 0))) (aI (G.2.1 (F a 1))) (aI (G.2.1 (F a 0))))
    (oq9 : SO (G9.2.1 (F a 2)) ((G9.1 a 3).toInt))
    (s0 : 0 ≤ ((G.1 p3 6).toInt) ∧ ((G.1 p3 6).toInt) ≤ 990)
    (z0 : (0 ≤ ((G.1 p0 0).toInt) ∧ ((G.1 p0 0).toInt) ≤ 5) ∧ (0 ≤ ((G.1 p0 2).toInt) ∧ ((G.1 p0 2).toInt) ≤ 2) ∧ (0 ≤ ((G.1 p0 3).toInt) ∧ ((G.1 p0 3).toInt) ≤ 2) ∧ (-1 ≤ ((G.1 p0 4).toInt) ∧ ((G.1 p0 4).toInt) ≤ 2) ∧ (((G.1 p0 0).toInt) = 1 ∨ ((G.1 p0 0).toInt) = 3 ∨ ((G.1 p0 0).toInt) = 4 → 0 ≤ ((G.1 p0 4).toInt)))
    (t9 : 0 ≤ ((G9.1 a 3).toInt) ∧ ((G9.1 a 3).toInt) ≤ 60)
    (t13 : ((((G.1 p0 0).toInt) = 1 ∨ ((G.1 p0 0).toInt) = 4) ∧ x13.toInt = 1) ∨ (¬ (((G.1 p0 0).toInt) = 1 ∨ ((G.1 p0 0).toInt) = 4) ∧ x13.toInt = 0))
    (c16 : ¬ (x13.toInt = 0))
    (t23 : (x23.toInt = 1 ∧ 0 ≤ ((G.1 p0 4).toInt) ∧ ((G.1 p0 4).toInt) < 3) ∨ (x23.toInt = 0 ∧ (((G.1 p0 4).toInt) < 0 ∨ 3 ≤ ((G.1 p0 4).toInt))))
    (c26 : x23.toInt = 0) :
    ∀ y : Int, MB (G9.2.1 (F a 2)) ((G9.1 a 3).toInt) y ↔ OFd (vw (G.2.1 (F p1 0))) (vw (G.2.1 (F p2 0))) (aI (G.2.1 (F a 1))) (aI (G.2.1 (F a 0))) ((G.1 p0 0).toInt) ((G.1 p0 2).toInt) ((G.1 p0 3).toInt) ((G.1 p0 4).toInt) y := by
  exfalso; omega
theorem v_X1_addQuestions_39_17 {F : Nat → Nat → Nat} (a : Nat) (G9 : XG)
    (oq9 : SO (G9.2.1 (F a 2)) ((G9.1 a 3).toInt)) :
    SO (G9.2.1 (F a 2)) ((G9.1 a 3).toInt) := by
  exact oq9
theorem v_X1_addQuestions_39_18 {F : Nat → Nat → Nat} (a : Nat) (G39 : XG)
    (oq39 : SO (G39.2.1 (F a 2)) ((G39.1 a 3).toInt)) :
    SO (G39.2.1 (F a 2)) ((G39.1 a 3).toInt) := by
  exact oq39
theorem v_X1_addQuestions_39_19 {K : Nat → Nat} {F : Nat → Nat → Nat} (a : Nat) (p0 : Nat) (p1 : Nat) (p2 : Nat) (p3 : Nat) (G2 : XG) (G : XG) (G9 : XG) (G39 : XG) (x13 : Int32) (x23 : Int32)
    (ha : K a = 3)
    (hp0 : K p0 = 9)
    (hp1 : K p1 = 8)
    (hp2 : K p2 = 8)
    (hp3 : K p3 = 6)
    (hch : CH (vw (G.2.1 (F p1 0))) (vw (G.2.1 (F p2 0))) (aI (G.2.1 (F a 1))) (aI (G.2.1 (F a 0))))
    (oq9 : SO (G9.2.1 (F a 2)) ((G9.1 a 3).toInt))
    (oq9a : ∀ y : Int, MB (G9.2.1 (F a 2)) ((G9.1 a 3).toInt) y ↔ ((((G.1 p0 0).toInt) = 2 ∨ ((G.1 p0 0).toInt) = 5) ∧ 0 ≤ y ∧ y < 30 ∧ bI (aI (G2.2.1 (F a 0)) ((G.1 p0 2).toInt)) y = 1) ∨ (¬ (((G.1 p0 0).toInt) = 2 ∨ ((G.1 p0 0).toInt) = 5) ∧ ∃ k : Int, 0 ≤ k ∧ k < 30 ∧ bI (aI (G2.2.1 (F a 0)) ((G.1 p0 2).toInt)) k = 1 ∧ OV ((G.1 p0 0).toInt) (cel (vw (G.2.1 (F p1 0))) ((G.1 p0 2).toInt) k ((G.1 p0 3).toInt)) (cel (vw (G.2.1 (F p2 0))) ((G.1 p0 2).toInt) k ((G.1 p0 3).toInt)) y))
    (oq39 : SO (G39.2.1 (F a 2)) ((G39.1 a 3).toInt))
    (oq39a : ∀ y : Int, MB (G39.2.1 (F a 2)) ((G39.1 a 3).toInt) y ↔ MB (G9.2.1 (F a 2)) ((G9.1 a 3).toInt) y ∨ (0 ≤ y ∧ y < 30 ∧ bI (aI (G.2.1 (F a 1)) ((G.1 p0 4).toInt)) y = 1))
    (s0 : 0 ≤ ((G.1 p3 6).toInt) ∧ ((G.1 p3 6).toInt) ≤ 990)
    (z0 : (0 ≤ ((G.1 p0 0).toInt) ∧ ((G.1 p0 0).toInt) ≤ 5) ∧ (0 ≤ ((G.1 p0 2).toInt) ∧ ((G.1 p0 2).toInt) ≤ 2) ∧ (0 ≤ ((G.1 p0 3).toInt) ∧ ((G.1 p0 3).toInt) ≤ 2) ∧ (-1 ≤ ((G.1 p0 4).toInt) ∧ ((G.1 p0 4).toInt) ≤ 2) ∧ (((G.1 p0 0).toInt) = 1 ∨ ((G.1 p0 0).toInt) = 3 ∨ ((G.1 p0 0).toInt) = 4 → 0 ≤ ((G.1 p0 4).toInt)))
    (t9 : 0 ≤ ((G9.1 a 3).toInt) ∧ ((G9.1 a 3).toInt) ≤ 60)
    (t13 : ((((G.1 p0 0).toInt) = 1 ∨ ((G.1 p0 0).toInt) = 4) ∧ x13.toInt = 1) ∨ (¬ (((G.1 p0 0).toInt) = 1 ∨ ((G.1 p0 0).toInt) = 4) ∧ x13.toInt = 0))
    (c16 : ¬ (x13.toInt = 0))
    (t23 : (x23.toInt = 1 ∧ 0 ≤ ((G.1 p0 4).toInt) ∧ ((G.1 p0 4).toInt) < 3) ∨ (x23.toInt = 0 ∧ (((G.1 p0 4).toInt) < 0 ∨ 3 ≤ ((G.1 p0 4).toInt))))
    (c26 : ¬ (x23.toInt = 0))
    (t39 : ((G9.1 a 3).toInt) ≤ ((G39.1 a 3).toInt) ∧ ((G39.1 a 3).toInt) ≤ ((G9.1 a 3).toInt) + 30)
    (c_G2_F_a_0 : G2.2.1 (F a 0) = G.2.1 (F a 0)) :
    ∀ y : Int, MB (G39.2.1 (F a 2)) ((G39.1 a 3).toInt) y ↔ OFd (vw (G.2.1 (F p1 0))) (vw (G.2.1 (F p2 0))) (aI (G.2.1 (F a 1))) (aI (G.2.1 (F a 0))) ((G.1 p0 0).toInt) ((G.1 p0 2).toInt) ((G.1 p0 3).toInt) ((G.1 p0 4).toInt) y := by
  intro y
  rw [oq39a y, oq9a y, c_G2_F_a_0]
  unfold OFd
  constructor
  · rintro ((h | h) | h)
    · exact Or.inl h
    · exact Or.inr (Or.inl h)
    · exact Or.inr (Or.inr ⟨by omega, h⟩)
  · rintro (h | h | h)
    · exact Or.inl (Or.inl h)
    · exact Or.inl (Or.inr h)
    · exact Or.inr h.2
theorem z_X1_addQuestions_1 (a0 : Int) (h0 : -2147483648 ≤ a0 ∧ a0 < 2147483648) : ¬ (2147483648 - a0 < ((0 : Nat) : Int)) := by omega
theorem z_X1_addQuestions_2 (a0 : Int) (a1 : Int) (a2 : Int) (a3 : Int) (h0 : 0 ≤ a2 ∧ a2 ≤ 90) (h1 : 0 ≤ a0 ∧ a0 ≤ a2) (h2 : a3 ≤ a1 + a0 ∧ a1 ≤ a3) : a1 ≤ a3 ∧ a3 ≤ a1 + 90 := by omega
theorem z_X1_addQuestions_3 (a0 : Int) (a1 : Int) (a2 : Int) (a3 : Int) (h0 : 0 ≤ a2 ∧ a2 ≤ 90) (h1 : ¬ (a2 ≤ a0)) (h2 : (90 : Int) ≤ a0) : a1 ≤ a3 ∧ a3 ≤ a1 + 90 := by omega
theorem z_X1_addQuestions_4 (a0 : Int) (a1 : Int) (h0 : 0 ≤ a0 ∧ a0 ≤ a1) (h1 : ¬ ((90 : Int) ≤ a0)) : 0 ≤ a0 ∧ a0 < ((90 : Nat) : Int) := by omega
theorem z_X1_addQuestions_5 (a0 : Int) (a1 : Int) (a2 : Int) (h0 : 0 ≤ a0 ∧ a0 ≤ a2) (h1 : ¬ ((90 : Int) ≤ a0)) (h2 : a1 = (a0 + 1) ∨ (a0 + 1) < -2147483648 ∨ 2147483648 ≤ (a0 + 1)) : a1 = (a0 + 1) := by omega
theorem z_X1_addQuestions_6 (a0 : Int) (a1 : Int) (h0 : 0 ≤ a0 ∧ a0 ≤ a1) (h1 : ¬ (a1 ≤ a0)) : 0 ≤ (a0 + 1) ∧ (a0 + 1) ≤ a1 := by omega
theorem z_X1_addQuestions_7 (a0 : Int) (a1 : Int) (a2 : Int) (h0 : a2 ≤ a1 + a0 ∧ a1 ≤ a2) : a2 ≤ a1 + (a0 + 1) ∧ a1 ≤ a2 := by omega
theorem z_X1_addQuestions_8 (a0 : Int) (a1 : Int) (h0 : 0 ≤ a0 ∧ a0 ≤ a1) : (0 : Int) ≤ (a0 + 1) := by omega
theorem z_X1_addQuestions_9 (a0 : Int) (a1 : Nat) (h0 : 2147483648 - a0 < ((a1 + 1 : Nat) : Int)) : 2147483648 - (a0 + 1) < ((a1 : Nat) : Int) := by omega
theorem z_X1_addQuestions_10 (a0 : Int) (a1 : Int) (a2 : Int) (h0 : 0 ≤ a1 ∧ a1 ≤ 990) (h1 : a2 ≤ a1 + a0 ∧ a1 ≤ a2) (h2 : ¬ ((90 : Int) ≤ a0)) : 0 ≤ a2 ∧ a2 < 1080 := by omega
theorem z_X1_addQuestions_13 (a0 : Int) (a1 : Int) (a2 : Int) (a3 : Int) (h0 : a3 ≤ a1 + a0 ∧ a1 ≤ a3) (h1 : a2 = a3 + 1) : a2 ≤ a1 + (a0 + 1) ∧ a1 ≤ a2 := by omega
theorem z_X1_addQuestions_16 (a0 : Int) (h0 : 0 ≤ a0 ∧ a0 ≤ 90) : 0 ≤ (0 : Int) ∧ (0 : Int) ≤ a0 := by omega
theorem z_X1_addQuestions_17 (a0 : Int) : a0 ≤ a0 + (0 : Int) ∧ a0 ≤ a0 := by omega
theorem z_X1_addQuestions_18 (a0 : Int) (h0 : 0 ≤ a0 ∧ a0 ≤ 60) : 0 ≤ a0 ∧ a0 ≤ 90 := by omega
theorem z_X1_addQuestions_20 (a0 : Int) (a1 : Int) (h0 : (a0 = 1 ∧ 0 ≤ a1 ∧ a1 < 3) ∨ (a0 = 0 ∧ (a1 < 0 ∨ 3 ≤ a1))) (h1 : ¬ (a0 = 0)) : 0 ≤ a1 ∧ a1 < ((3 : Nat) : Int) := by omega
theorem z_X1_addQuestions_22 (a0 : Int) (a1 : Int) (h0 : 0 ≤ a1 ∧ a1 ≤ 60) (h1 : a1 ≤ a0 ∧ a0 ≤ a1 + 30) : 0 ≤ a0 ∧ a0 ≤ 90 := by omega
abbrev rm_X1_addQuestions : Room := { frames := 4, cells := 0, slots := 0, locals := 95 }
set_option maxHeartbeats 4000000 in
set_option maxRecDepth 100000 in
theorem c_X1_addQuestions (l : Launch) (E : XE) (K : Nat → Nat) (F : Nat → Nat → Nat) (G : XG) (a : Nat) (p0 : Nat) (p1 : Nat) (p2 : Nat) (p3 : Nat) (ha : K a = 3) (hp0 : K p0 = 9) (hp1 : K p1 = 8) (hp2 : K p2 = 8) (hp3 : K p3 = 6) (s0 : 0 ≤ ((G.1 p3 6).toInt) ∧ ((G.1 p3 6).toInt) ≤ 990) (ro1 : RO (vw (G.2.1 (F p1 0))) (aI (G.2.1 (F p1 1)))) (ro2 : RO (vw (G.2.1 (F p2 0))) (aI (G.2.1 (F p2 1)))) (hrw : RW (G.1 p0)) (hch : CH (vw (G.2.1 (F p1 0))) (vw (G.2.1 (F p2 0))) (aI (G.2.1 (F a 1))) (aI (G.2.1 (F a 0)))) : Met l yX1_addQuestions (xw yX1_addQuestions cX1_addQuestions 9 none) rm_X1_addQuestions (va_Pc [.ref a, .ref p0, .ref p1, .ref p2, .ref p3] (XP E K F G)) (XQv E (fun (u : XG) => XFr [(a, 3), (p3, 6)] [F a 2, F p3 0, F p3 1, F p3 2, F p3 3, F p3 4, F p3 5] [] G u ∧ (((G.1 p3 6).toInt) ≤ ((u.1 p3 6).toInt) ∧ ((u.1 p3 6).toInt) ≤ ((G.1 p3 6).toInt) + 90) ∧ (qL u F p3 = qL G F p3 ++ uqs (vw (G.2.1 (F p1 0))) (vw (G.2.1 (F p2 0))) (G.1 p0))) (fun u H => TW E K F u H)) 0 0 (xA E) := by
  refine x_enter (by decide) (Nat.le_of_ble_eq_true rfl) ?_
  intro p e s m args below meth c Q S hr hlk hnm hQ hP ls hl
  obtain ⟨hz, hK, hT⟩ := hP
  obtain ⟨hx, hb, -, -, -⟩ := id S
  obtain ⟨H, hT, hS, hgo⟩ : ∃ H : Heap, TW E K F G H ∧ va_S (xA E) s.heap H [] ∧ H = s.heap := ⟨_, hT, va_S.rf, rfl⟩
  rw [← hgo]
  have hl : lv_has ls 9 [(0, .ref a), (1, .ref p0), (2, .ref p1), (3, .ref p2), (4, .ref p3)] := hl
  obtain ⟨hk9999, hj9999⟩ := fkX1_2 hT ha
  obtain ⟨hk9999a, hj9999a⟩ := fkX4_0 hT hp3
  obtain ⟨hk9999b, hj9999b⟩ := fkX4_1 hT hp3
  obtain ⟨hk9999c, hj9999c⟩ := fkX4_2 hT hp3
  obtain ⟨hk9999d, hj9999d⟩ := fkX4_3 hT hp3
  obtain ⟨hk9999e, hj9999e⟩ := fkX4_4 hT hp3
  obtain ⟨hk9999f, hj9999f⟩ := fkX4_5 hT hp3
  obtain ⟨hk9999g, hj9999g⟩ := fkX6_0 hT hp1
  obtain ⟨hk9999h, hj9999h⟩ := fkX6_1 hT hp1
  obtain ⟨hk9999i, hj9999i⟩ := fkX6_0 hT hp2
  obtain ⟨hk9999j, hj9999j⟩ := fkX6_1 hT hp2
  obtain ⟨hk9999k, hj9999k⟩ := fkX1_1 hT ha
  obtain ⟨hk9999l, hj9999l⟩ := fkX1_0 hT ha
  have z0 : (0 ≤ ((G.1 p0 0).toInt) ∧ ((G.1 p0 0).toInt) ≤ 5) ∧ (0 ≤ ((G.1 p0 2).toInt) ∧ ((G.1 p0 2).toInt) ≤ 2) ∧ (0 ≤ ((G.1 p0 3).toInt) ∧ ((G.1 p0 3).toInt) ≤ 2) ∧ (-1 ≤ ((G.1 p0 4).toInt) ∧ ((G.1 p0 4).toInt) ≤ 2) ∧ (((G.1 p0 0).toInt) = 1 ∨ ((G.1 p0 0).toInt) = 3 ∨ ((G.1 p0 0).toInt) = 4 → 0 ≤ ((G.1 p0 4).toInt)) := RW.f hrw
  refine lv_aload_n hx hb dX1_addQuestions_0 rfl (lv_at hl 0 rfl) ?_
  refine lv_iconst (v := 0) hx hb dX1_addQuestions_1 (by decide) ?_
  refine pX1_3 (v := 0) S hK hT hS ha kf_X1_38 dX1_addQuestions_2 (fun H locs hT hS => ?_)
  obtain ⟨G2, hG2⟩ : ∃ G9 : XG, G9 = dput G a 3 0 := ⟨_, rfl⟩
  rw [← hG2] at hT
  refine lv_aload_n hx hb dX1_addQuestions_5 rfl (lv_at hl 0 rfl) ?_
  refine lv_aload_n hx hb dX1_addQuestions_6 rfl (lv_at hl 1 rfl) ?_
  refine lv_aload_n hx hb dX1_addQuestions_7 rfl (lv_at hl 2 rfl) ?_
  refine lv_aload_n hx hb dX1_addQuestions_8 rfl (lv_at hl 3 rfl) ?_
  refine x_cv0 (x_runV (b := a) (As := [.ref p0, .ref p1, .ref p2]) (rest := []) S (c_X1_offerByRows l E K F G2 a p0 p1 p2 ha hp0 hp1 hp2 (by rw [(show (G2.1 a 3).toInt = (0 : Int) from (congrArg Int32.toInt (ld_at hG2)).trans ((by decide) : Int32.toInt 0 = (0 : Int)))] <;> exact (by decide)) (v_X1_addQuestions_9_1 a p0 p1 p2 p3 G2 G ha hp0 hp1 hp2 hp3 hk9999 hj9999 hk9999a hj9999a hk9999b hj9999b hk9999c hj9999c hk9999d hj9999d hk9999e hj9999e hk9999f hj9999f hk9999g hj9999g hk9999h hj9999h hk9999i hj9999i hk9999j hj9999j hk9999k hj9999k hk9999l hj9999l hG2 ro1 ro2 hrw hch s0 z0 (ld_c hG2) (ld_c hG2) (ld_c hG2) (ld_c hG2) (ld_c hG2) (ld_c hG2) (ld_c hG2) (ld_A hG2 (xne_k hp0 ha (by decide))) (ld_at hG2) (ld_j hG2 (by decide)))) mv_X1_offerByRows km_X1_42 rfl rfl ⟨Nat.le_of_ble_eq_true rfl, Nat.le_of_ble_eq_true rfl⟩ (rc_3 hK hT ha) hK (fun _ => XP.blind) (fun U hU hW => XP.at hK hz hS hT hU hW) rfl hl.1 (Nat.le_of_ble_eq_true rfl) dX1_addQuestions_9 ⟨Nat.le_of_ble_eq_true rfl, Nat.le_of_ble_eq_true rfl⟩) hS ?_
  rintro G9 H locs ⟨hF9, t9, oq9, oq9a⟩ hT hS
  have t9 : 0 ≤ ((G9.1 a 3).toInt) ∧ ((G9.1 a 3).toInt) ≤ 60 := t9
  have oq9a : ∀ y : Int, MB (G9.2.1 (F a 2)) ((G9.1 a 3).toInt) y ↔ ((((G.1 p0 0).toInt) = 2 ∨ ((G.1 p0 0).toInt) = 5) ∧ 0 ≤ y ∧ y < 30 ∧ bI (aI (G2.2.1 (F a 0)) ((G.1 p0 2).toInt)) y = 1) ∨ (¬ (((G.1 p0 0).toInt) = 2 ∨ ((G.1 p0 0).toInt) = 5) ∧ ∃ k : Int, 0 ≤ k ∧ k < 30 ∧ bI (aI (G2.2.1 (F a 0)) ((G.1 p0 2).toInt)) k = 1 ∧ OV ((G.1 p0 0).toInt) (cel (vw (G.2.1 (F p1 0))) ((G.1 p0 2).toInt) k ((G.1 p0 3).toInt)) (cel (vw (G.2.1 (F p2 0))) ((G.1 p0 2).toInt) k ((G.1 p0 3).toInt)) y) := by simp only [(show G2.1 p0 0 = G.1 p0 0 from (ld_j hG2 (by decide))), (show G2.1 p0 2 = G.1 p0 2 from (ld_j hG2 (by decide))), (show G2.2.1 (F p1 0) = G.2.1 (F p1 0) from (ld_c hG2)), (show G2.1 p0 3 = G.1 p0 3 from (ld_a hG2 (xne_k hp0 ha (by decide)))), (show G2.2.1 (F p2 0) = G.2.1 (F p2 0) from (ld_c hG2))] at oq9a; exact oq9a
  refine lv_aload_n hx hb dX1_addQuestions_12 rfl (lv_at hl 1 rfl) ?_
  refine x_clp (x_runV (b := p0) (As := []) (rest := []) S (c_X7_looksAtKeys l E K F G9 H p0 hp0) mv_X7_looksAtKeys km_X1_46 rfl rfl ⟨Nat.le_of_ble_eq_true rfl, Nat.le_of_ble_eq_true rfl⟩ (rc_9 hK hT hp0) hK (fun _ => XPh.blind) (fun U hU hW => XPh.at hK hz hS hT hU hW) rfl hl.1 (Nat.le_of_ble_eq_true rfl) dX1_addQuestions_13 ⟨Nat.le_of_ble_eq_true rfl, Nat.le_of_ble_eq_true rfl⟩) hS ?_
  rintro _ _ locs ⟨x13, rfl, b13, t13⟩ hS
  have t13 : ((((G.1 p0 0).toInt) = 1 ∨ ((G.1 p0 0).toInt) = 4) ∧ x13.toInt = 1) ∨ (¬ (((G.1 p0 0).toInt) = 1 ∨ ((G.1 p0 0).toInt) = 4) ∧ x13.toInt = 0) := by rw [(show (G9.1 p0 0).toInt = ((G.1 p0 0).toInt) from (congrArg Int32.toInt ((hF9.1 _ _ (xnj (by decide) xn0)).trans (ld_j hG2 (by decide)))).trans (rfl : Int32.toInt (G.1 p0 0) = ((G.1 p0 0).toInt)))] at t13; exact t13
  have J42 : ∀ (G_42 : XG) (H : Heap) (locs : List Loc) (ls : Array Slot), XFr [(a, 3)] [F a 2] [] G9 G_42 → SO (G_42.2.1 (F a 2)) ((G_42.1 a 3).toInt) → (∀ y : Int, MB (G_42.2.1 (F a 2)) ((G_42.1 a 3).toInt) y ↔ OFd (vw (G.2.1 (F p1 0))) (vw (G.2.1 (F p2 0))) (aI (G.2.1 (F a 1))) (aI (G.2.1 (F a 0))) ((G.1 p0 0).toInt) ((G.1 p0 2).toInt) ((G.1 p0 3).toInt) ((G.1 p0 4).toInt) y) → 0 ≤ ((G_42.1 a 3).toInt) ∧ ((G_42.1 a 3).toInt) ≤ 90 → TW E K F G_42 H → va_S (xA E) s.heap H locs → lv_has ls 9 [(0, .ref a), (1, .ref p0), (2, .ref p1), (3, .ref p2), (4, .ref p3)] → W p l e rm_X1_addQuestions s m args below meth c H locs 0 0 Q (F0 m 42 ls []) := by
    intro G_42 H locs ls hF_42 ps pm I42_0 hT hS hl
    refine lv_iconst (v := 0) hx hb dX1_addQuestions_42 (by decide) ?_
    refine lv_istore (lv' := [(5, .int 0), (0, .ref a), (1, .ref p0), (2, .ref p1), (3, .ref p2), (4, .ref p3)]) hx hb dX1_addQuestions_43 hl (by decide) rfl (fun ls hl => ?_)
    have L45 : ∀ (N45 : Nat) (l5_45 : Int32) (G_45 : XG) (H : Heap) (locs : List Loc) (ls : Array Slot), XFr [(p3, 6)] [F p3 0, F p3 1, F p3 2, F p3 3, F p3 4, F p3 5] [] G_42 G_45 → qL G_45 F p3 = qL G F p3 ++ (lst (fun i => (G_42.2.1 (F a 2) i).toInt) (l5_45.toInt).toNat).filterMap (uq1 (vw (G.2.1 (F p1 0))) (vw (G.2.1 (F p2 0))) (G.1 p0)) → 0 ≤ l5_45.toInt ∧ l5_45.toInt ≤ ((G_42.1 a 3).toInt) → ((G_45.1 p3 6).toInt) ≤ ((G.1 p3 6).toInt) + l5_45.toInt ∧ ((G.1 p3 6).toInt) ≤ ((G_45.1 p3 6).toInt) → (0 : Int) ≤ l5_45.toInt → 2147483648 - l5_45.toInt < ((N45 : Nat) : Int) → TW E K F G_45 H → va_S (xA E) s.heap H locs → lv_has ls 9 [(0, .ref a), (1, .ref p0), (2, .ref p1), (3, .ref p2), (4, .ref p3), (5, .int l5_45)] → W p l e rm_X1_addQuestions s m args below meth c H locs 0 0 Q (F0 m 45 ls []) := by
      intro N45
      induction N45 with
      | zero =>
        intro l5_45 G_45 H locs ls hF_45 pq I45_0 I45_1 I45_2 hm45
        exact absurd hm45 (z_X1_addQuestions_1 l5_45.toInt (xr l5_45))
      | succ N45 ih45 =>
        intro l5_45 G_45 H locs ls hF_45 pq I45_0 I45_1 I45_2 hm45 hT hS hl
        refine lv_iload hx hb dX1_addQuestions_45 (lv_at hl 5 rfl) ?_
        refine lv_aload_n hx hb dX1_addQuestions_47 rfl (lv_at hl 0 rfl) ?_
        refine gX1_3 S hK hT ha kf_X1_38 dX1_addQuestions_48 (v := (G_42.1 a 3)) (hF_45.1 _ _ (xnj (by decide) xn0)) (?_)
        refine xi_cge (tgt := 122) hx hb (rfl : Int32.toInt l5_45 = l5_45.toInt) (rfl : Int32.toInt (G_42.1 a 3) = ((G_42.1 a 3).toInt)) dX1_addQuestions_51 (by decide) (fun c51 => ?_) (fun c51 => ?_)
        · exact x_rv hx hb hr hlk hQ (Nat.le_of_ble_eq_true rfl) (Nat.le_of_ble_eq_true rfl) hS dX1_addQuestions_122 G_45 ⟨(XFr.call (XFr.call (XFr.call (by rw [hG2]; exact XFr.dput XFr.rf (List.mem_of_getElem? (i := 0) rfl)) hF9 (xm1 0 rfl xm0) (xm1 0 rfl xm0) xm0) hF_42 (xm1 0 rfl xm0) (xm1 0 rfl xm0) xm0) hF_45 (xm1 1 rfl xm0) (xm1 1 rfl (xm1 2 rfl (xm1 3 rfl (xm1 4 rfl (xm1 5 rfl (xm1 6 rfl xm0)))))) xm0), (z_X1_addQuestions_2 l5_45.toInt ((G.1 p3 6).toInt) ((G_42.1 a 3).toInt) ((G_45.1 p3 6).toInt) I42_0 I45_0 I45_1), (v_X1_addQuestions_122_2 a p0 p1 p2 p3 G G9 G_42 G_45 l5_45 x13 N45 ha hp0 hp1 hp2 hp3 hch oq9 ps pm pq s0 z0 t9 t13 I42_0 I45_0 I45_1 I45_2 hm45 c51)⟩ hT
        · refine lv_iload hx hb dX1_addQuestions_54 (lv_at hl 5 rfl) ?_
          refine lv_bipush (v := 90) hx hb dX1_addQuestions_56 (by decide) ?_
          refine xi_cge (tgt := 122) hx hb (rfl : Int32.toInt l5_45 = l5_45.toInt) ((by decide) : Int32.toInt 90 = (90 : Int)) dX1_addQuestions_58 (by decide) (fun c58 => ?_) (fun c58 => ?_)
          · exact x_rv hx hb hr hlk hQ (Nat.le_of_ble_eq_true rfl) (Nat.le_of_ble_eq_true rfl) hS dX1_addQuestions_122 G_45 ⟨(XFr.call (XFr.call (XFr.call (by rw [hG2]; exact XFr.dput XFr.rf (List.mem_of_getElem? (i := 0) rfl)) hF9 (xm1 0 rfl xm0) (xm1 0 rfl xm0) xm0) hF_42 (xm1 0 rfl xm0) (xm1 0 rfl xm0) xm0) hF_45 (xm1 1 rfl xm0) (xm1 1 rfl (xm1 2 rfl (xm1 3 rfl (xm1 4 rfl (xm1 5 rfl (xm1 6 rfl xm0)))))) xm0), (z_X1_addQuestions_3 l5_45.toInt ((G.1 p3 6).toInt) ((G_42.1 a 3).toInt) ((G_45.1 p3 6).toInt) I42_0 c51 c58), (v_X1_addQuestions_122_3 a p0 p1 p2 p3 G G9 G_42 G_45 l5_45 x13 N45 ha hp0 hp1 hp2 hp3 hch oq9 ps pm pq s0 z0 t9 t13 I42_0 I45_0 I45_1 I45_2 hm45 c51 c58)⟩ hT
          · refine lv_aload_n hx hb dX1_addQuestions_61 rfl (lv_at hl 0 rfl) ?_
            refine gX1_2 S hK hT ha kf_X1_18 dX1_addQuestions_62 (fun _ _ => ?_)
            refine lv_iload hx hb dX1_addQuestions_65 (lv_at hl 5 rfl) ?_
            refine al_0 S hK hT hk9999 ar_24 (by decide) (z_X1_addQuestions_4 l5_45.toInt ((G_42.1 a 3).toInt) I45_0 c58) dX1_addQuestions_67 (fun x67 hv67 o67 => ?_)
            have hv67 : x67.toInt = (aI (G_42.2.1 (F a 2)) (l5_45.toInt)) := hv67.trans (by rw [(rfl : Int32.toInt l5_45 = l5_45.toInt), ((hF_45.2.1 _ (xn1 (xne_k hk9999 hk9999a (by decide)) (xn1 (xne_k hk9999 hk9999b (by decide)) (xn1 (xne_k hk9999 hk9999c (by decide)) (xn1 (xne_k hk9999 hk9999d (by decide)) (xn1 (xne_k hk9999 hk9999e (by decide)) (xn1 (xne_k hk9999 hk9999f (by decide)) xn0))))))) : G_45.2.1 (F a 2) = G_42.2.1 (F a 2))])
            refine lv_istore (lv' := [(6, .int x67), (0, .ref a), (1, .ref p0), (2, .ref p1), (3, .ref p2), (4, .ref p3), (5, .int l5_45)]) hx hb dX1_addQuestions_68 hl (by decide) rfl (fun ls hl => ?_)
            refine lv_aload_n hx hb dX1_addQuestions_70 rfl (lv_at hl 2 rfl) ?_
            refine lv_aload_n hx hb dX1_addQuestions_71 rfl (lv_at hl 3 rfl) ?_
            refine lv_iload hx hb dX1_addQuestions_72 (lv_at hl 0 rfl) ?_
            refine x_clp (x_runV (b := p0) (As := [.ref p1, .int x67]) (rest := []) S (c_X7_state l E K F G_45 H p0 p1 x67 hp0 hp1 (v_X1_addQuestions_74_4 p1 p2 G G_45 ro1 ro2 ((hF_45.2.1 _ (xn1 (xne_k hk9999g hk9999a (by decide)) (xn1 (xne_k hk9999g hk9999b (by decide)) (xn1 (xne_k hk9999g hk9999c (by decide)) (xn1 (xne_k hk9999g hk9999d (by decide)) (xn1 (xne_k hk9999g hk9999e (by decide)) (xn1 (xne_k hk9999g hk9999f (by decide)) xn0))))))).trans ((hF_42.2.1 _ (xn1 (xne_k hk9999g hk9999 (by decide)) xn0)).trans ((hF9.2.1 _ (xn1 (xne_k hk9999g hk9999 (by decide)) xn0)).trans (ld_c hG2)))) ((hF_45.2.1 _ (xn1 (xne_k hk9999h hk9999a (by decide)) (xn1 (xne_k hk9999h hk9999b (by decide)) (xn1 (xne_k hk9999h hk9999c (by decide)) (xn1 (xne_k hk9999h hk9999d (by decide)) (xn1 (xne_k hk9999h hk9999e (by decide)) (xn1 (xne_k hk9999h hk9999f (by decide)) xn0))))))).trans ((hF_42.2.1 _ (xn1 (xne_k hk9999h hk9999 (by decide)) xn0)).trans ((hF9.2.1 _ (xn1 (xne_k hk9999h hk9999 (by decide)) xn0)).trans (ld_c hG2))))) (v_X1_addQuestions_74_5 a p0 p1 p2 p3 G2 G G9 G_42 G_45 l5_45 x67 x13 N45 ha hp0 hp1 hp2 hp3 hk9999 hj9999 hk9999a hj9999a hk9999b hj9999b hk9999c hj9999c hk9999d hj9999d hk9999e hj9999e hk9999f hj9999f hk9999g hj9999g hk9999h hj9999h hk9999i hj9999i hk9999j hj9999j hk9999k hj9999k hk9999l hj9999l hG2 hF9 hF_42 hF_45 ro1 ro2 hrw hch oq9 oq9a ps pm pq hv67 s0 z0 t9 t13 I42_0 I45_0 I45_1 I45_2 hm45 c51 c58 (ld_c hG2) (hF_45.2.1 _ (xn1 (xne_k hk9999 hk9999a (by decide)) (xn1 (xne_k hk9999 hk9999b (by decide)) (xn1 (xne_k hk9999 hk9999c (by decide)) (xn1 (xne_k hk9999 hk9999d (by decide)) (xn1 (xne_k hk9999 hk9999e (by decide)) (xn1 (xne_k hk9999 hk9999f (by decide)) xn0))))))) ((fr_A hF_45 (fun _ => (xna (xne_k hp0 hp3 (by decide)) xn0))).trans ((fr_A hF_42 (fun _ => (xna (xne_k hp0 ha (by decide)) xn0))).trans ((fr_A hF9 (fun _ => (xna (xne_k hp0 ha (by decide)) xn0))).trans (ld_A hG2 (xne_k hp0 ha (by decide)))))) (hF_45.1 _ _ (xnj (by decide) xn0)))) mv_X7_state km_X1_59 rfl rfl ⟨Nat.le_of_ble_eq_true rfl, Nat.le_of_ble_eq_true rfl⟩ (rc_9 hK hT hp0) hK (fun _ => XPh.blind) (fun U hU hW => XPh.at hK hz hS hT hU hW) rfl hl.1 (Nat.le_of_ble_eq_true rfl) dX1_addQuestions_74 ⟨Nat.le_of_ble_eq_true rfl, Nat.le_of_ble_eq_true rfl⟩) hS ?_
            rintro _ _ locs ⟨x74, rfl, t74⟩ hS
            have t74 : x74.toInt = (stt (vw (G.2.1 (F p1 0))) ((G.1 p0 0).toInt) ((G.1 p0 2).toInt) ((G.1 p0 3).toInt) ((G.1 p0 4).toInt) (aI (G_42.2.1 (F a 2)) (l5_45.toInt))) := by rw [(hv67 : Int32.toInt x67 = (aI (G_42.2.1 (F a 2)) (l5_45.toInt)))] at t74; rw [(show G_45.2.1 (F p1 0) = G.2.1 (F p1 0) from ((hF_45.2.1 _ (xn1 (xne_k hk9999g hk9999a (by decide)) (xn1 (xne_k hk9999g hk9999b (by decide)) (xn1 (xne_k hk9999g hk9999c (by decide)) (xn1 (xne_k hk9999g hk9999d (by decide)) (xn1 (xne_k hk9999g hk9999e (by decide)) (xn1 (xne_k hk9999g hk9999f (by decide)) xn0))))))).trans ((hF_42.2.1 _ (xn1 (xne_k hk9999g hk9999 (by decide)) xn0)).trans ((hF9.2.1 _ (xn1 (xne_k hk9999g hk9999 (by decide)) xn0)).trans (ld_c hG2)))))] at t74; rw [(show (G_45.1 p0 0).toInt = ((G.1 p0 0).toInt) from (congrArg Int32.toInt ((hF_45.1 _ _ (xnj (by decide) xn0)).trans ((hF_42.1 _ _ (xnj (by decide) xn0)).trans ((hF9.1 _ _ (xnj (by decide) xn0)).trans (ld_j hG2 (by decide)))))).trans (rfl : Int32.toInt (G.1 p0 0) = ((G.1 p0 0).toInt)))] at t74; rw [(show (G_45.1 p0 2).toInt = ((G.1 p0 2).toInt) from (congrArg Int32.toInt ((hF_45.1 _ _ (xnj (by decide) xn0)).trans ((hF_42.1 _ _ (xnj (by decide) xn0)).trans ((hF9.1 _ _ (xnj (by decide) xn0)).trans (ld_j hG2 (by decide)))))).trans (rfl : Int32.toInt (G.1 p0 2) = ((G.1 p0 2).toInt)))] at t74; rw [(show (G_45.1 p0 3).toInt = ((G.1 p0 3).toInt) from (congrArg Int32.toInt ((hF_45.1 _ _ (xnj (by decide) xn0)).trans ((hF_42.1 _ _ (xna (xne_k hp0 ha (by decide)) xn0)).trans ((hF9.1 _ _ (xna (xne_k hp0 ha (by decide)) xn0)).trans (ld_a hG2 (xne_k hp0 ha (by decide))))))).trans (rfl : Int32.toInt (G.1 p0 3) = ((G.1 p0 3).toInt)))] at t74; rw [(show (G_45.1 p0 4).toInt = ((G.1 p0 4).toInt) from (congrArg Int32.toInt ((hF_45.1 _ _ (xnj (by decide) xn0)).trans ((hF_42.1 _ _ (xnj (by decide) xn0)).trans ((hF9.1 _ _ (xnj (by decide) xn0)).trans (ld_j hG2 (by decide)))))).trans (rfl : Int32.toInt (G.1 p0 4) = ((G.1 p0 4).toInt)))] at t74; exact t74
            refine lv_istore (lv' := [(7, .int x74), (6, .int x67), (0, .ref a), (1, .ref p0), (2, .ref p1), (3, .ref p2), (4, .ref p3), (5, .int l5_45)]) hx hb dX1_addQuestions_77 hl (by decide) rfl (fun ls hl => ?_)
            refine lv_aload_n hx hb dX1_addQuestions_79 rfl (lv_at hl 3 rfl) ?_
            refine lv_aload_n hx hb dX1_addQuestions_80 rfl (lv_at hl 5 rfl) ?_
            refine lv_iload hx hb dX1_addQuestions_81 (lv_at hl 1 rfl) ?_
            refine x_clp (x_runV (b := p0) (As := [.ref p2, .int x67]) (rest := []) S (c_X7_state l E K F G_45 H p0 p2 x67 hp0 hp2 (v_X1_addQuestions_83_6 p1 p2 G G_45 ro1 ro2 ((hF_45.2.1 _ (xn1 (xne_k hk9999i hk9999a (by decide)) (xn1 (xne_k hk9999i hk9999b (by decide)) (xn1 (xne_k hk9999i hk9999c (by decide)) (xn1 (xne_k hk9999i hk9999d (by decide)) (xn1 (xne_k hk9999i hk9999e (by decide)) (xn1 (xne_k hk9999i hk9999f (by decide)) xn0))))))).trans ((hF_42.2.1 _ (xn1 (xne_k hk9999i hk9999 (by decide)) xn0)).trans ((hF9.2.1 _ (xn1 (xne_k hk9999i hk9999 (by decide)) xn0)).trans (ld_c hG2)))) ((hF_45.2.1 _ (xn1 (xne_k hk9999j hk9999a (by decide)) (xn1 (xne_k hk9999j hk9999b (by decide)) (xn1 (xne_k hk9999j hk9999c (by decide)) (xn1 (xne_k hk9999j hk9999d (by decide)) (xn1 (xne_k hk9999j hk9999e (by decide)) (xn1 (xne_k hk9999j hk9999f (by decide)) xn0))))))).trans ((hF_42.2.1 _ (xn1 (xne_k hk9999j hk9999 (by decide)) xn0)).trans ((hF9.2.1 _ (xn1 (xne_k hk9999j hk9999 (by decide)) xn0)).trans (ld_c hG2))))) (v_X1_addQuestions_83_7 a p0 p1 p2 p3 G2 G G9 G_42 G_45 l5_45 x67 x13 N45 ha hp0 hp1 hp2 hp3 hk9999 hj9999 hk9999a hj9999a hk9999b hj9999b hk9999c hj9999c hk9999d hj9999d hk9999e hj9999e hk9999f hj9999f hk9999g hj9999g hk9999h hj9999h hk9999i hj9999i hk9999j hj9999j hk9999k hj9999k hk9999l hj9999l hG2 hF9 hF_42 hF_45 ro1 ro2 hrw hch oq9 oq9a ps pm pq hv67 s0 z0 t9 t13 I42_0 I45_0 I45_1 I45_2 hm45 c51 c58 (ld_c hG2) (hF_45.2.1 _ (xn1 (xne_k hk9999 hk9999a (by decide)) (xn1 (xne_k hk9999 hk9999b (by decide)) (xn1 (xne_k hk9999 hk9999c (by decide)) (xn1 (xne_k hk9999 hk9999d (by decide)) (xn1 (xne_k hk9999 hk9999e (by decide)) (xn1 (xne_k hk9999 hk9999f (by decide)) xn0))))))) ((fr_A hF_45 (fun _ => (xna (xne_k hp0 hp3 (by decide)) xn0))).trans ((fr_A hF_42 (fun _ => (xna (xne_k hp0 ha (by decide)) xn0))).trans ((fr_A hF9 (fun _ => (xna (xne_k hp0 ha (by decide)) xn0))).trans (ld_A hG2 (xne_k hp0 ha (by decide)))))) (hF_45.1 _ _ (xnj (by decide) xn0)))) mv_X7_state km_X1_59 rfl rfl ⟨Nat.le_of_ble_eq_true rfl, Nat.le_of_ble_eq_true rfl⟩ (rc_9 hK hT hp0) hK (fun _ => XPh.blind) (fun U hU hW => XPh.at hK hz hS hT hU hW) rfl hl.1 (Nat.le_of_ble_eq_true rfl) dX1_addQuestions_83 ⟨Nat.le_of_ble_eq_true rfl, Nat.le_of_ble_eq_true rfl⟩) hS ?_
            rintro _ _ locs ⟨x83, rfl, t83⟩ hS
            have t83 : x83.toInt = (stt (vw (G.2.1 (F p2 0))) ((G.1 p0 0).toInt) ((G.1 p0 2).toInt) ((G.1 p0 3).toInt) ((G.1 p0 4).toInt) (aI (G_42.2.1 (F a 2)) (l5_45.toInt))) := by rw [(hv67 : Int32.toInt x67 = (aI (G_42.2.1 (F a 2)) (l5_45.toInt)))] at t83; rw [(show G_45.2.1 (F p2 0) = G.2.1 (F p2 0) from ((hF_45.2.1 _ (xn1 (xne_k hk9999i hk9999a (by decide)) (xn1 (xne_k hk9999i hk9999b (by decide)) (xn1 (xne_k hk9999i hk9999c (by decide)) (xn1 (xne_k hk9999i hk9999d (by decide)) (xn1 (xne_k hk9999i hk9999e (by decide)) (xn1 (xne_k hk9999i hk9999f (by decide)) xn0))))))).trans ((hF_42.2.1 _ (xn1 (xne_k hk9999i hk9999 (by decide)) xn0)).trans ((hF9.2.1 _ (xn1 (xne_k hk9999i hk9999 (by decide)) xn0)).trans (ld_c hG2)))))] at t83; rw [(show (G_45.1 p0 0).toInt = ((G.1 p0 0).toInt) from (congrArg Int32.toInt ((hF_45.1 _ _ (xnj (by decide) xn0)).trans ((hF_42.1 _ _ (xnj (by decide) xn0)).trans ((hF9.1 _ _ (xnj (by decide) xn0)).trans (ld_j hG2 (by decide)))))).trans (rfl : Int32.toInt (G.1 p0 0) = ((G.1 p0 0).toInt)))] at t83; rw [(show (G_45.1 p0 2).toInt = ((G.1 p0 2).toInt) from (congrArg Int32.toInt ((hF_45.1 _ _ (xnj (by decide) xn0)).trans ((hF_42.1 _ _ (xnj (by decide) xn0)).trans ((hF9.1 _ _ (xnj (by decide) xn0)).trans (ld_j hG2 (by decide)))))).trans (rfl : Int32.toInt (G.1 p0 2) = ((G.1 p0 2).toInt)))] at t83; rw [(show (G_45.1 p0 3).toInt = ((G.1 p0 3).toInt) from (congrArg Int32.toInt ((hF_45.1 _ _ (xnj (by decide) xn0)).trans ((hF_42.1 _ _ (xna (xne_k hp0 ha (by decide)) xn0)).trans ((hF9.1 _ _ (xna (xne_k hp0 ha (by decide)) xn0)).trans (ld_a hG2 (xne_k hp0 ha (by decide))))))).trans (rfl : Int32.toInt (G.1 p0 3) = ((G.1 p0 3).toInt)))] at t83; rw [(show (G_45.1 p0 4).toInt = ((G.1 p0 4).toInt) from (congrArg Int32.toInt ((hF_45.1 _ _ (xnj (by decide) xn0)).trans ((hF_42.1 _ _ (xnj (by decide) xn0)).trans ((hF9.1 _ _ (xnj (by decide) xn0)).trans (ld_j hG2 (by decide)))))).trans (rfl : Int32.toInt (G.1 p0 4) = ((G.1 p0 4).toInt)))] at t83; exact t83
            refine lv_istore (lv' := [(8, .int x83), (7, .int x74), (6, .int x67), (0, .ref a), (1, .ref p0), (2, .ref p1), (3, .ref p2), (4, .ref p3), (5, .int l5_45)]) hx hb dX1_addQuestions_86 hl (by decide) rfl (fun ls hl => ?_)
            refine lv_iload hx hb dX1_addQuestions_88 (lv_at hl 1 rfl) ?_
            refine lv_iload hx hb dX1_addQuestions_90 (lv_at hl 0 rfl) ?_
            refine xi_ceq (tgt := 116) hx hb (t74 : Int32.toInt x74 = (stt (vw (G.2.1 (F p1 0))) ((G.1 p0 0).toInt) ((G.1 p0 2).toInt) ((G.1 p0 3).toInt) ((G.1 p0 4).toInt) (aI (G_42.2.1 (F a 2)) (l5_45.toInt)))) (t83 : Int32.toInt x83 = (stt (vw (G.2.1 (F p2 0))) ((G.1 p0 0).toInt) ((G.1 p0 2).toInt) ((G.1 p0 3).toInt) ((G.1 p0 4).toInt) (aI (G_42.2.1 (F a 2)) (l5_45.toInt)))) dX1_addQuestions_92 (by decide) (fun c92 => ?_) (fun c92 => ?_)
            · refine xi_iinc (n := 1) (lv' := fun z9 => [(5, .int z9), (8, .int x83), (7, .int x74), (6, .int x67), (0, .ref a), (1, .ref p0), (2, .ref p1), (3, .ref p2), (4, .ref p3)]) (k := 8) hx hb (rfl : Int32.toInt l5_45 = l5_45.toInt) (by decide) dX1_addQuestions_116 hl rfl (by decide) (fun _ => rfl) (fun x116 ls t116 hl => ?_)
              have e116 : x116.toInt = (l5_45.toInt + 1) := (z_X1_addQuestions_5 l5_45.toInt x116.toInt ((G_42.1 a 3).toInt) I45_0 c58 t116)
              have hl : lv_has ls 9 [(5, .int x116), (8, .int x83), (7, .int x74), (6, .int x67), (0, .ref a), (1, .ref p0), (2, .ref p1), (3, .ref p2), (4, .ref p3)] := hl
              refine lv_goto (tgt := 45) hx hb dX1_addQuestions_119 (by decide) ?_
              exact ih45 x116 G_45 _ _ _ (XFr.call XFr.rf hF_45 (xm1 0 rfl xm0) (xm1 0 rfl (xm1 1 rfl (xm1 2 rfl (xm1 3 rfl (xm1 4 rfl (xm1 5 rfl xm0)))))) xm0) (by rw [(e116 : Int32.toInt x116 = (l5_45.toInt + 1))] <;> exact (v_X1_addQuestions_119_8 a p0 p1 p2 p3 G G9 G_42 G_45 l5_45 x13 N45 ha hp0 hp1 hp2 hp3 hch oq9 ps pq s0 z0 t9 t13 I42_0 I45_0 I45_1 I45_2 hm45 c51 c58 c92)) (by rw [(e116 : Int32.toInt x116 = (l5_45.toInt + 1))] <;> exact (z_X1_addQuestions_6 l5_45.toInt ((G_42.1 a 3).toInt) I45_0 c51)) (by rw [(e116 : Int32.toInt x116 = (l5_45.toInt + 1))] <;> exact (z_X1_addQuestions_7 l5_45.toInt ((G.1 p3 6).toInt) ((G_45.1 p3 6).toInt) I45_1)) (by rw [(e116 : Int32.toInt x116 = (l5_45.toInt + 1))] <;> exact (z_X1_addQuestions_8 l5_45.toInt ((G_42.1 a 3).toInt) I45_0)) (by rw [(e116 : Int32.toInt x116 = (l5_45.toInt + 1))] <;> exact (z_X1_addQuestions_9 l5_45.toInt N45 hm45)) hT hS (lv_sub hl [4, 5, 6, 7, 8, 0] rfl)
            · refine lv_aload hx hb dX1_addQuestions_95 (lv_at hl 7 rfl) ?_
              refine lv_aload_n hx hb dX1_addQuestions_97 rfl (lv_at hl 4 rfl) ?_
              refine lv_iload hx hb dX1_addQuestions_98 (lv_at hl 2 rfl) ?_
              refine lv_iload hx hb dX1_addQuestions_100 (lv_at hl 1 rfl) ?_
              refine lv_iload hx hb dX1_addQuestions_102 (lv_at hl 0 rfl) ?_
              refine lv_aload_n hx hb dX1_addQuestions_104 rfl (lv_at hl 4 rfl) ?_
              refine lv_aload_n hx hb dX1_addQuestions_105 rfl (lv_at hl 6 rfl) ?_
              refine lv_iload hx hb dX1_addQuestions_106 (lv_at hl 2 rfl) ?_
              refine lv_iload hx hb dX1_addQuestions_108 (lv_at hl 0 rfl) ?_
              refine x_clp (x_runV (b := p0) (As := [.ref p2, .int x67, .int x83]) (rest := [.int x83, .int x74, .int x67, .ref p0, .ref p3]) S (c_X7_fails l E K F G_45 H p0 p2 x67 x83 hp0 hp2 (v_X1_addQuestions_110_9 p1 p2 G G_45 ro1 ro2 ((hF_45.2.1 _ (xn1 (xne_k hk9999i hk9999a (by decide)) (xn1 (xne_k hk9999i hk9999b (by decide)) (xn1 (xne_k hk9999i hk9999c (by decide)) (xn1 (xne_k hk9999i hk9999d (by decide)) (xn1 (xne_k hk9999i hk9999e (by decide)) (xn1 (xne_k hk9999i hk9999f (by decide)) xn0))))))).trans ((hF_42.2.1 _ (xn1 (xne_k hk9999i hk9999 (by decide)) xn0)).trans ((hF9.2.1 _ (xn1 (xne_k hk9999i hk9999 (by decide)) xn0)).trans (ld_c hG2)))) ((hF_45.2.1 _ (xn1 (xne_k hk9999j hk9999a (by decide)) (xn1 (xne_k hk9999j hk9999b (by decide)) (xn1 (xne_k hk9999j hk9999c (by decide)) (xn1 (xne_k hk9999j hk9999d (by decide)) (xn1 (xne_k hk9999j hk9999e (by decide)) (xn1 (xne_k hk9999j hk9999f (by decide)) xn0))))))).trans ((hF_42.2.1 _ (xn1 (xne_k hk9999j hk9999 (by decide)) xn0)).trans ((hF9.2.1 _ (xn1 (xne_k hk9999j hk9999 (by decide)) xn0)).trans (ld_c hG2))))) (v_X1_addQuestions_110_10 a p0 p1 p2 p3 G2 G G9 G_42 G_45 l5_45 x67 x13 N45 ha hp0 hp1 hp2 hp3 hk9999 hj9999 hk9999a hj9999a hk9999b hj9999b hk9999c hj9999c hk9999d hj9999d hk9999e hj9999e hk9999f hj9999f hk9999g hj9999g hk9999h hj9999h hk9999i hj9999i hk9999j hj9999j hk9999k hj9999k hk9999l hj9999l hG2 hF9 hF_42 hF_45 ro1 ro2 hrw hch oq9 oq9a ps pm pq hv67 s0 z0 t9 t13 I42_0 I45_0 I45_1 I45_2 hm45 c51 c58 c92 (ld_c hG2) (hF_45.2.1 _ (xn1 (xne_k hk9999 hk9999a (by decide)) (xn1 (xne_k hk9999 hk9999b (by decide)) (xn1 (xne_k hk9999 hk9999c (by decide)) (xn1 (xne_k hk9999 hk9999d (by decide)) (xn1 (xne_k hk9999 hk9999e (by decide)) (xn1 (xne_k hk9999 hk9999f (by decide)) xn0))))))) ((fr_A hF_45 (fun _ => (xna (xne_k hp0 hp3 (by decide)) xn0))).trans ((fr_A hF_42 (fun _ => (xna (xne_k hp0 ha (by decide)) xn0))).trans ((fr_A hF9 (fun _ => (xna (xne_k hp0 ha (by decide)) xn0))).trans (ld_A hG2 (xne_k hp0 ha (by decide)))))) (hF_45.1 _ _ (xnj (by decide) xn0)))) mv_X7_fails km_X1_63 rfl rfl ⟨Nat.le_of_ble_eq_true rfl, Nat.le_of_ble_eq_true rfl⟩ (rc_9 hK hT hp0) hK (fun _ => XPh.blind) (fun U hU hW => XPh.at hK hz hS hT hU hW) rfl hl.1 (Nat.le_of_ble_eq_true rfl) dX1_addQuestions_110 ⟨Nat.le_of_ble_eq_true rfl, Nat.le_of_ble_eq_true rfl⟩) hS ?_
              rintro _ _ locs ⟨x110, rfl, b110, t110⟩ hS
              have t110 : x110.toInt = (flq (vw (G.2.1 (F p2 0))) ((G.1 p0 0).toInt) ((G.1 p0 2).toInt) ((G.1 p0 3).toInt) ((G.1 p0 5).toInt) ((G.1 p0 6).toInt) (aI (G_42.2.1 (F a 2)) (l5_45.toInt)) (stt (vw (G.2.1 (F p2 0))) ((G.1 p0 0).toInt) ((G.1 p0 2).toInt) ((G.1 p0 3).toInt) ((G.1 p0 4).toInt) (aI (G_42.2.1 (F a 2)) (l5_45.toInt)))) := by rw [(hv67 : Int32.toInt x67 = (aI (G_42.2.1 (F a 2)) (l5_45.toInt)))] at t110; rw [(t83 : Int32.toInt x83 = (stt (vw (G.2.1 (F p2 0))) ((G.1 p0 0).toInt) ((G.1 p0 2).toInt) ((G.1 p0 3).toInt) ((G.1 p0 4).toInt) (aI (G_42.2.1 (F a 2)) (l5_45.toInt))))] at t110; rw [(show G_45.2.1 (F p2 0) = G.2.1 (F p2 0) from ((hF_45.2.1 _ (xn1 (xne_k hk9999i hk9999a (by decide)) (xn1 (xne_k hk9999i hk9999b (by decide)) (xn1 (xne_k hk9999i hk9999c (by decide)) (xn1 (xne_k hk9999i hk9999d (by decide)) (xn1 (xne_k hk9999i hk9999e (by decide)) (xn1 (xne_k hk9999i hk9999f (by decide)) xn0))))))).trans ((hF_42.2.1 _ (xn1 (xne_k hk9999i hk9999 (by decide)) xn0)).trans ((hF9.2.1 _ (xn1 (xne_k hk9999i hk9999 (by decide)) xn0)).trans (ld_c hG2)))))] at t110; rw [(show (G_45.1 p0 0).toInt = ((G.1 p0 0).toInt) from (congrArg Int32.toInt ((hF_45.1 _ _ (xnj (by decide) xn0)).trans ((hF_42.1 _ _ (xnj (by decide) xn0)).trans ((hF9.1 _ _ (xnj (by decide) xn0)).trans (ld_j hG2 (by decide)))))).trans (rfl : Int32.toInt (G.1 p0 0) = ((G.1 p0 0).toInt)))] at t110; rw [(show (G_45.1 p0 2).toInt = ((G.1 p0 2).toInt) from (congrArg Int32.toInt ((hF_45.1 _ _ (xnj (by decide) xn0)).trans ((hF_42.1 _ _ (xnj (by decide) xn0)).trans ((hF9.1 _ _ (xnj (by decide) xn0)).trans (ld_j hG2 (by decide)))))).trans (rfl : Int32.toInt (G.1 p0 2) = ((G.1 p0 2).toInt)))] at t110; rw [(show (G_45.1 p0 3).toInt = ((G.1 p0 3).toInt) from (congrArg Int32.toInt ((hF_45.1 _ _ (xnj (by decide) xn0)).trans ((hF_42.1 _ _ (xna (xne_k hp0 ha (by decide)) xn0)).trans ((hF9.1 _ _ (xna (xne_k hp0 ha (by decide)) xn0)).trans (ld_a hG2 (xne_k hp0 ha (by decide))))))).trans (rfl : Int32.toInt (G.1 p0 3) = ((G.1 p0 3).toInt)))] at t110; rw [(show (G_45.1 p0 5).toInt = ((G.1 p0 5).toInt) from (congrArg Int32.toInt ((hF_45.1 _ _ (xnj (by decide) xn0)).trans ((hF_42.1 _ _ (xnj (by decide) xn0)).trans ((hF9.1 _ _ (xnj (by decide) xn0)).trans (ld_j hG2 (by decide)))))).trans (rfl : Int32.toInt (G.1 p0 5) = ((G.1 p0 5).toInt)))] at t110; rw [(show (G_45.1 p0 6).toInt = ((G.1 p0 6).toInt) from (congrArg Int32.toInt ((hF_45.1 _ _ (xna (xne_k hp0 hp3 (by decide)) xn0)).trans ((hF_42.1 _ _ (xnj (by decide) xn0)).trans ((hF9.1 _ _ (xnj (by decide) xn0)).trans (ld_j hG2 (by decide)))))).trans (rfl : Int32.toInt (G.1 p0 6) = ((G.1 p0 6).toInt)))] at t110; exact t110
              refine x_cv0 (x_runV (b := p3) (As := [.ref p0, .int x67, .int x74, .int x83, .int x110]) (rest := []) S (c_X4_add l E K F G_45 p3 p0 x67 x74 x83 x110 hp3 hp0 b110 (z_X1_addQuestions_10 l5_45.toInt ((G.1 p3 6).toInt) ((G_45.1 p3 6).toInt) s0 I45_1 c58)) mv_X4_add km_X1_67 rfl rfl ⟨Nat.le_of_ble_eq_true rfl, Nat.le_of_ble_eq_true rfl⟩ (rc_6 hK hT hp3) hK (fun _ => XP.blind) (fun U hU hW => XP.at hK hz hS hT hU hW) rfl hl.1 (Nat.le_of_ble_eq_true rfl) dX1_addQuestions_113 ⟨Nat.le_of_ble_eq_true rfl, Nat.le_of_ble_eq_true rfl⟩) hS ?_
              rintro G113 H locs ⟨hF113, t113, oq113⟩ hT hS
              have t113 : ((G113.1 p3 6).toInt) = ((G_45.1 p3 6).toInt) + 1 := t113
              have oq113 : qL G113 F p3 = qL G_45 F p3 ++ [(((G.1 p0 1).toInt), (aI (G_42.2.1 (F a 2)) (l5_45.toInt)), (stt (vw (G.2.1 (F p1 0))) ((G.1 p0 0).toInt) ((G.1 p0 2).toInt) ((G.1 p0 3).toInt) ((G.1 p0 4).toInt) (aI (G_42.2.1 (F a 2)) (l5_45.toInt))), (stt (vw (G.2.1 (F p2 0))) ((G.1 p0 0).toInt) ((G.1 p0 2).toInt) ((G.1 p0 3).toInt) ((G.1 p0 4).toInt) (aI (G_42.2.1 (F a 2)) (l5_45.toInt))), ((G.1 p0 9).toInt), x110.toInt)] := by simp only [(hv67 : Int32.toInt x67 = (aI (G_42.2.1 (F a 2)) (l5_45.toInt))), (t74 : Int32.toInt x74 = (stt (vw (G.2.1 (F p1 0))) ((G.1 p0 0).toInt) ((G.1 p0 2).toInt) ((G.1 p0 3).toInt) ((G.1 p0 4).toInt) (aI (G_42.2.1 (F a 2)) (l5_45.toInt)))), (t83 : Int32.toInt x83 = (stt (vw (G.2.1 (F p2 0))) ((G.1 p0 0).toInt) ((G.1 p0 2).toInt) ((G.1 p0 3).toInt) ((G.1 p0 4).toInt) (aI (G_42.2.1 (F a 2)) (l5_45.toInt)))), (show G_45.1 p0 1 = G.1 p0 1 from ((hF_45.1 _ _ (xnj (by decide) xn0)).trans ((hF_42.1 _ _ (xnj (by decide) xn0)).trans ((hF9.1 _ _ (xnj (by decide) xn0)).trans (ld_j hG2 (by decide)))))), (show G_45.1 p0 9 = G.1 p0 9 from ((hF_45.1 _ _ (xnj (by decide) xn0)).trans ((hF_42.1 _ _ (xnj (by decide) xn0)).trans ((hF9.1 _ _ (xnj (by decide) xn0)).trans (ld_j hG2 (by decide))))))] at oq113; exact oq113
              refine xi_iinc (n := 1) (lv' := fun z9 => [(5, .int z9), (8, .int x83), (7, .int x74), (6, .int x67), (0, .ref a), (1, .ref p0), (2, .ref p1), (3, .ref p2), (4, .ref p3)]) (k := 8) hx hb (rfl : Int32.toInt l5_45 = l5_45.toInt) (by decide) dX1_addQuestions_116 hl rfl (by decide) (fun _ => rfl) (fun x116 ls t116 hl => ?_)
              have e116 : x116.toInt = (l5_45.toInt + 1) := (z_X1_addQuestions_5 l5_45.toInt x116.toInt ((G_42.1 a 3).toInt) I45_0 c58 t116)
              have hl : lv_has ls 9 [(5, .int x116), (8, .int x83), (7, .int x74), (6, .int x67), (0, .ref a), (1, .ref p0), (2, .ref p1), (3, .ref p2), (4, .ref p3)] := hl
              refine lv_goto (tgt := 45) hx hb dX1_addQuestions_119 (by decide) ?_
              exact ih45 x116 G113 _ _ _ (XFr.call (XFr.call XFr.rf hF_45 (xm1 0 rfl xm0) (xm1 0 rfl (xm1 1 rfl (xm1 2 rfl (xm1 3 rfl (xm1 4 rfl (xm1 5 rfl xm0)))))) xm0) hF113 (xm1 0 rfl xm0) (xm1 0 rfl (xm1 1 rfl (xm1 2 rfl (xm1 3 rfl (xm1 4 rfl (xm1 5 rfl xm0)))))) xm0) (by rw [(e116 : Int32.toInt x116 = (l5_45.toInt + 1))] <;> exact (v_X1_addQuestions_119_11 a p0 p1 p2 p3 G G9 G_42 G_45 G113 l5_45 x110 x13 N45 ha hp0 hp1 hp2 hp3 hch oq9 ps pq oq113 s0 z0 t9 t13 I42_0 I45_0 I45_1 I45_2 hm45 c51 c58 c92 t110 (xzi b110) t113)) (by rw [(e116 : Int32.toInt x116 = (l5_45.toInt + 1))] <;> exact (z_X1_addQuestions_6 l5_45.toInt ((G_42.1 a 3).toInt) I45_0 c51)) (by rw [(e116 : Int32.toInt x116 = (l5_45.toInt + 1))] <;> exact (z_X1_addQuestions_13 l5_45.toInt ((G.1 p3 6).toInt) ((G113.1 p3 6).toInt) ((G_45.1 p3 6).toInt) I45_1 t113)) (by rw [(e116 : Int32.toInt x116 = (l5_45.toInt + 1))] <;> exact (z_X1_addQuestions_8 l5_45.toInt ((G_42.1 a 3).toInt) I45_0)) (by rw [(e116 : Int32.toInt x116 = (l5_45.toInt + 1))] <;> exact (z_X1_addQuestions_9 l5_45.toInt N45 hm45)) hT hS (lv_sub hl [4, 5, 6, 7, 8, 0] rfl)
    exact L45 4294967297 0 G_42 _ _ _ XFr.rf (v_X1_addQuestions_43_12 a p0 p1 p2 p3 G G_42 ((hF_42.2.1 _ (xn1 (xne_k hk9999a hk9999 (by decide)) xn0)).trans ((hF9.2.1 _ (xn1 (xne_k hk9999a hk9999 (by decide)) xn0)).trans (ld_c hG2))) ((hF_42.2.1 _ (xn1 (xne_k hk9999b hk9999 (by decide)) xn0)).trans ((hF9.2.1 _ (xn1 (xne_k hk9999b hk9999 (by decide)) xn0)).trans (ld_c hG2))) ((hF_42.2.1 _ (xn1 (xne_k hk9999c hk9999 (by decide)) xn0)).trans ((hF9.2.1 _ (xn1 (xne_k hk9999c hk9999 (by decide)) xn0)).trans (ld_c hG2))) ((hF_42.2.1 _ (xn1 (xne_k hk9999d hk9999 (by decide)) xn0)).trans ((hF9.2.1 _ (xn1 (xne_k hk9999d hk9999 (by decide)) xn0)).trans (ld_c hG2))) ((hF_42.2.1 _ (xn1 (xne_k hk9999e hk9999 (by decide)) xn0)).trans ((hF9.2.1 _ (xn1 (xne_k hk9999e hk9999 (by decide)) xn0)).trans (ld_c hG2))) ((hF_42.2.1 _ (xn1 (xne_k hk9999f hk9999 (by decide)) xn0)).trans ((hF9.2.1 _ (xn1 (xne_k hk9999f hk9999 (by decide)) xn0)).trans (ld_c hG2))) ((hF_42.1 _ _ (xnj (by decide) xn0)).trans ((hF9.1 _ _ (xnj (by decide) xn0)).trans (ld_j hG2 (by decide))))) (z_X1_addQuestions_16 ((G_42.1 a 3).toInt) I42_0) (by rw [(show (G_42.1 p3 6).toInt = ((G.1 p3 6).toInt) from (congrArg Int32.toInt ((hF_42.1 _ _ (xnj (by decide) xn0)).trans ((hF9.1 _ _ (xnj (by decide) xn0)).trans (ld_j hG2 (by decide))))).trans (rfl : Int32.toInt (G.1 p3 6) = ((G.1 p3 6).toInt)))] <;> exact (z_X1_addQuestions_17 ((G.1 p3 6).toInt))) (by decide) (by decide) hT hS (lv_sub hl [1, 2, 3, 4, 5, 0] rfl)
  refine xi_zeq (tgt := 42) hx hb (rfl : Int32.toInt x13 = x13.toInt) dX1_addQuestions_16 (by decide) (fun c16 => ?_) (fun c16 => ?_)
  · exact J42 G9 _ _ _ XFr.rf (v_X1_addQuestions_16_13 a G9 oq9) (v_X1_addQuestions_16_14 a p0 p1 p2 p3 G2 G G9 x13 ha hp0 hp1 hp2 hp3 hch oq9 oq9a s0 z0 t9 t13 c16 (ld_c hG2)) (z_X1_addQuestions_18 ((G9.1 a 3).toInt) t9) hT hS (lv_sub hl [0, 1, 2, 3, 4] rfl)
  · refine lv_aload_n hx hb dX1_addQuestions_19 rfl (lv_at hl 1 rfl) ?_
    refine gX7_4 S hK hT hp0 kf_X1_52 dX1_addQuestions_20 (v := (G.1 p0 4)) ((hF9.1 _ _ (xnj (by decide) xn0)).trans (ld_j hG2 (by decide))) (?_)
    refine x_clp (x_runSN (As := [.int (G.1 p0 4)]) (rest := []) S (c_X10_isTable l E K F G9 H (G.1 p0 4)) ms_X10_isTable (by decide +kernel) rfl rfl ⟨Nat.le_of_ble_eq_true rfl, Nat.le_of_ble_eq_true rfl⟩ hK (fun _ => XPh.blind) (fun U hU hW => XPh.at hK hz hS hT hU hW) rfl hl.1 (Nat.le_of_ble_eq_true rfl) dX1_addQuestions_23 ⟨Nat.le_of_ble_eq_true rfl, Nat.le_of_ble_eq_true rfl⟩) hS ?_
    rintro _ _ locs ⟨x23, rfl, b23, t23⟩ hS
    have t23 : (x23.toInt = 1 ∧ 0 ≤ ((G.1 p0 4).toInt) ∧ ((G.1 p0 4).toInt) < 3) ∨ (x23.toInt = 0 ∧ (((G.1 p0 4).toInt) < 0 ∨ 3 ≤ ((G.1 p0 4).toInt))) := t23
    refine xi_zeq (tgt := 42) hx hb (rfl : Int32.toInt x23 = x23.toInt) dX1_addQuestions_26 (by decide) (fun c26 => ?_) (fun c26 => ?_)
    · exact J42 G9 _ _ _ XFr.rf (v_X1_addQuestions_26_15 a G9 oq9) (v_X1_addQuestions_26_16 a p0 p1 p2 p3 G G9 x13 x23 ha hp0 hp1 hp2 hp3 hch oq9 s0 z0 t9 t13 c16 t23 c26) (z_X1_addQuestions_18 ((G9.1 a 3).toInt) t9) hT hS (lv_sub hl [0, 1, 2, 3, 4] rfl)
    · refine lv_aload_n hx hb dX1_addQuestions_29 rfl (lv_at hl 0 rfl) ?_
      refine lv_aload_n hx hb dX1_addQuestions_30 rfl (lv_at hl 0 rfl) ?_
      refine gX1_1 S hK hT ha kf_X1_15 dX1_addQuestions_31 (fun _ _ => ?_)
      refine lv_aload_n hx hb dX1_addQuestions_34 rfl (lv_at hl 1 rfl) ?_
      refine gX7_4 S hK hT hp0 kf_X1_52 dX1_addQuestions_35 (v := (G.1 p0 4)) ((hF9.1 _ _ (xnj (by decide) xn0)).trans (ld_j hG2 (by decide))) (?_)
      refine al_0 S hK hT hk9999k ar_21 (by decide) (z_X1_addQuestions_20 x23.toInt ((G.1 p0 4).toInt) t23 c26) dX1_addQuestions_38 (fun x38 hv38 o38 => ?_)
      have hv38 : x38.toInt = (aI (G.2.1 (F a 1)) ((G.1 p0 4).toInt)) := hv38.trans (by rw [(rfl : Int32.toInt (G.1 p0 4) = ((G.1 p0 4).toInt)), (((hF9.2.1 _ (xn1 (xne_k hk9999k hk9999 (by decide)) xn0)).trans (ld_c hG2)) : G9.2.1 (F a 1) = G.2.1 (F a 1))])
      refine x_cv0 (x_runV (b := a) (As := [.int x38]) (rest := []) S (c_X1_offerKeys l E K F G9 a x38 ha (t9) (v_X1_addQuestions_39_17 a G9 oq9)) mv_X1_offerKeys km_X1_55 rfl rfl ⟨Nat.le_of_ble_eq_true rfl, Nat.le_of_ble_eq_true rfl⟩ (rc_3 hK hT ha) hK (fun _ => XP.blind) (fun U hU hW => XP.at hK hz hS hT hU hW) rfl hl.1 (Nat.le_of_ble_eq_true rfl) dX1_addQuestions_39 ⟨Nat.le_of_ble_eq_true rfl, Nat.le_of_ble_eq_true rfl⟩) hS ?_
      rintro G39 H locs ⟨hF39, t39, oq39, oq39a⟩ hT hS
      have t39 : ((G9.1 a 3).toInt) ≤ ((G39.1 a 3).toInt) ∧ ((G39.1 a 3).toInt) ≤ ((G9.1 a 3).toInt) + 30 := t39
      have oq39a : ∀ y : Int, MB (G39.2.1 (F a 2)) ((G39.1 a 3).toInt) y ↔ MB (G9.2.1 (F a 2)) ((G9.1 a 3).toInt) y ∨ (0 ≤ y ∧ y < 30 ∧ bI (aI (G.2.1 (F a 1)) ((G.1 p0 4).toInt)) y = 1) := by simp only [(hv38 : Int32.toInt x38 = (aI (G.2.1 (F a 1)) ((G.1 p0 4).toInt)))] at oq39a; exact oq39a
      exact J42 G39 _ _ _ (XFr.call XFr.rf hF39 (xm1 0 rfl xm0) (xm1 0 rfl xm0) xm0) (v_X1_addQuestions_39_18 a G39 oq39) (v_X1_addQuestions_39_19 a p0 p1 p2 p3 G2 G G9 G39 x13 x23 ha hp0 hp1 hp2 hp3 hch oq9 oq9a oq39 oq39a s0 z0 t9 t13 c16 t23 c26 t39 (ld_c hG2)) (z_X1_addQuestions_22 ((G39.1 a 3).toInt) ((G9.1 a 3).toInt) t9 t39) hT hS (lv_sub hl [0, 1, 2, 3, 4] rfl)
section
theorem xl_i2l {x : Int32} {X : Int} (h : x.toInt = X) : x.toInt64.toInt = X := by rw [Int32.toInt_toInt64]; exact h
theorem xl_sub {x y z : Int64} {X Y : Int} (hx : x.toInt = X) (hy : y.toInt = Y) (h1 : -2147483648 ≤ X ∧ X < 2147483648) (h2 : -2147483648 ≤ Y ∧ Y < 2147483648) (hz : z = x - y) : z.toInt = X - Y := by
  subst hz
  rw [Int64.toInt_sub, hx, hy]
  exact Int.bmod_eq_of_le (by omega) (by omega)
/-- a rule of the reference is well -/
def RVr (f : Nat → Int32) (r : Int) : Prop := (-1 ≤ aI f (10 * r + (0 : Int)) ∧ aI f (10 * r + (0 : Int)) ≤ 5) ∧ (0 ≤ aI f (10 * r + (1 : Int)) ∧ aI f (10 * r + (1 : Int)) ≤ 2) ∧ (0 ≤ aI f (10 * r + (2 : Int)) ∧ aI f (10 * r + (2 : Int)) ≤ 2) ∧ (-1 ≤ aI f (10 * r + (3 : Int)) ∧ aI f (10 * r + (3 : Int)) ≤ 2) ∧ (aI f (10 * r + (0 : Int)) = 1 ∨ aI f (10 * r + (0 : Int)) = 3 ∨ aI f (10 * r + (0 : Int)) = 4 → 0 ≤ aI f (10 * r + (3 : Int)))
def RV (f : Nat → Int32) : Prop := ∀ r : Int, 0 ≤ r → r ≤ 11 → RVr f r
theorem RV.row {f : Nat → Int32} (h : RV f) {r : Int} (h0 : 0 ≤ r ∧ r ≤ 11) : RVr f r := h r h0.1 h0.2
def RVx (f : Nat → Int32) (x : Int) : Prop := ∀ r : Int, 0 ≤ r → r ≤ 11 → r ≠ x → RVr f r
theorem RVx.put {f f' : Nat → Int32} {i x y : Int} (h : RVx f x) (hx : 0 ≤ x ∧ x ≤ 11) (hi : 10 * x ≤ i ∧ i ≤ 10 * x + 9) (hu : ∀ z : Int, 0 ≤ z → aI f' z = if z = i then y else aI f z) : RVx f' x := by
  intro r h0 h1 h2
  have h3 := h r h0 h1 h2
  unfold RVr at h3 ⊢
  rw [hu (10 * r + 0) (by omega), hu (10 * r + 1) (by omega), hu (10 * r + 2) (by omega), hu (10 * r + 3) (by omega), if_neg (by omega), if_neg (by omega), if_neg (by omega), if_neg (by omega)]
  exact h3
theorem RV.x {f : Nat → Int32} (h : RV f) (x : Int) : RVx f x := fun r h0 h1 _ => h r h0 h1
theorem RVx.all {f : Nat → Int32} {x : Int} (h : RVx f x) (hr : RVr f x) : RV f := fun r h0 h1 => by
  by_cases e : r = x
  · subst e; exact hr
  · exact h r h0 h1 e
def XO (K : Nat → Nat) (a : Nat) (fr : Int) : Prop := ((K a = 30 ∨ K a = 31) ∧ fr = 0) ∨ (K a = 32 ∧ 0 ≤ fr ∧ fr ≤ 2520)
theorem XO.a {K : Nat → Nat} {a : Nat} {x : Int32} (h : K a = 30) (hx : x.toInt = 0) : XO K a x.toInt := Or.inl ⟨Or.inl h, hx⟩
theorem XO.b {K : Nat → Nat} {a : Nat} {x : Int32} (h : K a = 31) (hx : x.toInt = 0) : XO K a x.toInt := Or.inl ⟨Or.inr h, hx⟩
theorem XO.c {K : Nat → Nat} {a : Nat} {x : Int32} (h : K a = 32) (hx : 0 ≤ x.toInt ∧ x.toInt ≤ 2520) : XO K a x.toInt := Or.inr ⟨h, hx⟩
theorem XO.lim {K : Nat → Nat} {a : Nat} {fr : Int} (h : XO K a fr) : 0 ≤ fr ∧ fr ≤ 2520 := by
  rcases h with ⟨-, h⟩ | ⟨-, h⟩
  · omega
  · exact h
def XOu (K : Nat → Nat) (a : Nat) (fr : Int) : Prop := (K a = 31 ∧ fr = 0) ∨ (K a = 32 ∧ 0 ≤ fr ∧ fr ≤ 2520)
theorem XOu.b {K : Nat → Nat} {a : Nat} {x : Int32} (h : K a = 31) (hx : x.toInt = 0) : XOu K a x.toInt := Or.inl ⟨h, hx⟩
theorem XOu.c {K : Nat → Nat} {a : Nat} {x : Int32} (h : K a = 32) (hx : 0 ≤ x.toInt ∧ x.toInt ≤ 2520) : XOu K a x.toInt := Or.inr ⟨h, hx⟩
theorem XOu.lim {K : Nat → Nat} {a : Nat} {fr : Int} (h : XOu K a fr) : 0 ≤ fr ∧ fr ≤ 2520 := by
  rcases h with ⟨-, h⟩ | ⟨-, h⟩
  · omega
  · exact h
/-- a word of n signs -/
def XWd (K : Nat → Nat) (a n : Nat) : Prop := (n = 3 ∧ K a = 46) ∨ (n = 4 ∧ K a = 47) ∨ (n = 5 ∧ K a = 48) ∨ (n = 6 ∧ K a = 49) ∨ (n = 7 ∧ K a = 50)
theorem XWd.lim {K : Nat → Nat} {a n : Nat} (h : XWd K a n) : 3 ≤ ((n : Nat) : Int) ∧ ((n : Nat) : Int) ≤ 7 := by
  rcases h with ⟨h, -⟩ | ⟨h, -⟩ | ⟨h, -⟩ | ⟨h, -⟩ | ⟨h, -⟩ <;> subst h <;> exact ⟨by decide, by decide⟩
theorem XWd.k46 {K : Nat → Nat} {a : Nat} (h : K a = 46) : XWd K a 3 := Or.inl ⟨rfl, h⟩
theorem XWd.k47 {K : Nat → Nat} {a : Nat} (h : K a = 47) : XWd K a 4 := Or.inr (Or.inl ⟨rfl, h⟩)
theorem XWd.k48 {K : Nat → Nat} {a : Nat} (h : K a = 48) : XWd K a 5 := Or.inr (Or.inr (Or.inl ⟨rfl, h⟩))
theorem XWd.k49 {K : Nat → Nat} {a : Nat} (h : K a = 49) : XWd K a 6 := Or.inr (Or.inr (Or.inr (Or.inl ⟨rfl, h⟩)))
theorem XWd.k50 {K : Nat → Nat} {a : Nat} (h : K a = 50) : XWd K a 7 := Or.inr (Or.inr (Or.inr (Or.inr ⟨rfl, h⟩)))
section XM
variable {p : Program} {l : Launch} {e : Env} {R : Room} {s : State} {m : MethodId} {args : Array Value} {below : List Frame} {meth : Method} {c : Code} {H : Heap} {locs : List Loc} {cells slots : Nat} {Q : State → Prop}
variable {pc : Nat} {ls : Array Slot} {rest : List Value} {H0 : Heap} {E : XE} {cc : ByteArray} {nL : Nat} {own : String} {w0 : Cond} {K : Nat → Nat} {F : Nat → Nat → Nat} {G : XG} {a : Nat} {X Y : Int}
theorem xi_lcmp (hx : p.tables.exec = Jvm.exec) (hb : c.code = cc) {x y : Int64} (hX : x.toInt = X) (hY : y.toInt = Y) (hdg : decode cc pc = .ok (.lcmp, 1)) (kk : ∀ z : Int32, ((X < Y ∧ z.toInt = -1) ∨ (X = Y ∧ z.toInt = 0) ∨ (Y < X ∧ z.toInt = 1)) → W p l e R s m args below meth c H locs cells slots Q (F0 m (pc + 1) ls (.int z :: rest))) : W p l e R s m args below meth c H locs cells slots Q (F0 m pc ls (.long y :: .long x :: rest)) := by
  refine W.lcmp hx hb hdg (kk _ ?_)
  subst hX hY
  by_cases h1 : x > y
  · have e1 : lg_cmp x y = 1 := by simp [lg_cmp, h1]
    rw [e1]
    exact Or.inr (Or.inr ⟨Int64.lt_iff_toInt_lt.mp h1, by decide⟩)
  · by_cases h2 : x = y
    · have e1 : lg_cmp x y = 0 := by simp [lg_cmp, h2]
      rw [e1]
      exact Or.inr (Or.inl ⟨by rw [h2], by decide⟩)
    · have e1 : lg_cmp x y = -1 := by simp [lg_cmp, h1, h2]
      rw [e1]
      refine Or.inl ⟨?_, by decide⟩
      have h3 : ¬ y.toInt < x.toInt := fun q => h1 (Int64.lt_iff_toInt_lt.mpr q)
      have h4 : x.toInt ≠ y.toInt := fun q => h2 (Int64.toInt_inj.mp q)
      omega
theorem ald_of (S : CallFix p m c cc nL s args (w0 :: GT) own) (hK : XK E s) (hT : TW E K F G H) {fr : Int} (ha : XO K a fr) {i : Int32} (hin : 0 ≤ i.toInt ∧ i.toInt < fr + 360) (hdg : decode cc pc = .ok (.iaload, 1)) (kk : ∀ v : Int32, v.toInt = aI (G.2.1 a) i.toInt → W p l e R s m args below meth c H locs cells slots Q (F0 m (pc + 1) ls (.int v :: rest))) : W p l e R s m args below meth c H locs cells slots Q (F0 m pc ls (.int i :: .ref a :: rest)) := by
  rcases ha with ⟨h | h, rfl⟩ | ⟨h, h0, h1⟩
  · exact al_0 S hK hT h ar_30 (by decide) (by omega) hdg (fun v hv _ => kk v hv)
  · exact al_0 S hK hT h ar_31 (by decide) (by omega) hdg (fun v hv _ => kk v hv)
  · exact al_0 S hK hT h ar_32 (by decide) (by omega) hdg (fun v hv _ => kk v hv)
theorem ast_of (S : CallFix p m c cc nL s args (w0 :: GT) own) (hK : XK E s) (hT : TW E K F G H) (hS : va_S (xA E) H0 H locs) {fr : Int} (ha : XOu K a fr) {i x : Int32} (hin : 0 ≤ i.toInt ∧ i.toInt < fr + 360) (hdg : decode cc pc = .ok (.iastore, 1)) (kk : ∀ (H1 : Heap) (locs1 : List Loc), TW E K F (cput G a i.toNatClampNeg x) H1 → va_S (xA E) H0 H1 locs1 → W p l e R s m args below meth c H1 locs1 cells slots Q (F0 m (pc + 1) ls rest)) : W p l e R s m args below meth c H locs cells slots Q (F0 m pc ls (.int x :: .int i :: .ref a :: rest)) := by
  rcases ha with ⟨h, rfl⟩ | ⟨h, h0, h1⟩
  · exact as_0 S hK hT hS h ar_31 aw_31 (by decide) (by omega) hdg kk
  · exact as_0 S hK hT hS h ar_32 aw_32 (by decide) (by omega) hdg kk
theorem ald_wd (S : CallFix p m c cc nL s args (w0 :: GT) own) (hK : XK E s) (hT : TW E K F G H) {n : Nat} (ha : XWd K a n) {i : Int32} (hin : 0 ≤ i.toInt ∧ i.toInt < ((n : Nat) : Int)) (hdg : decode cc pc = .ok (.caload, 1)) (kk : ∀ v : Int32, v.toInt = aI (G.2.1 a) i.toInt → xok 1 v → W p l e R s m args below meth c H locs cells slots Q (F0 m (pc + 1) ls (.int v :: rest))) : W p l e R s m args below meth c H locs cells slots Q (F0 m pc ls (.int i :: .ref a :: rest)) := by
  rcases ha with ⟨rfl, h⟩ | ⟨rfl, h⟩ | ⟨rfl, h⟩ | ⟨rfl, h⟩ | ⟨rfl, h⟩
  · exact al_1 S hK hT h ar_46 (by decide) hin hdg (fun v hv ho => kk v hv ho)
  · exact al_1 S hK hT h ar_47 (by decide) hin hdg (fun v hv ho => kk v hv ho)
  · exact al_1 S hK hT h ar_48 (by decide) hin hdg (fun v hv ho => kk v hv ho)
  · exact al_1 S hK hT h ar_49 (by decide) hin hdg (fun v hv ho => kk v hv ho)
  · exact al_1 S hK hT h ar_50 (by decide) hin hdg (fun v hv ho => kk v hv ho)
theorem len_wd (S : CallFix p m c cc nL s args (w0 :: GT) own) (hK : XK E s) (hT : TW E K F G H) {n : Nat} (ha : XWd K a n) (hdg : decode cc pc = .ok (.arraylength, 1)) (kk : ∀ v : Int32, v.toInt = ((n : Nat) : Int) → W p l e R s m args below meth c H locs cells slots Q (F0 m (pc + 1) ls (.int v :: rest))) : W p l e R s m args below meth c H locs cells slots Q (F0 m pc ls (.ref a :: rest)) := by
  rcases ha with ⟨rfl, h⟩ | ⟨rfl, h⟩ | ⟨rfl, h⟩ | ⟨rfl, h⟩ | ⟨rfl, h⟩
  · exact x_alen S hK hT h ar_46 (by decide) rfl hdg (kk _ (by decide))
  · exact x_alen S hK hT h ar_47 (by decide) rfl hdg (kk _ (by decide))
  · exact x_alen S hK hT h ar_48 (by decide) rfl hdg (kk _ (by decide))
  · exact x_alen S hK hT h ar_49 (by decide) rfl hdg (kk _ (by decide))
  · exact x_alen S hK hT h ar_50 (by decide) rfl hdg (kk _ (by decide))
end XM
theorem XO.ne {K : Nat → Nat} {a b k : Nat} {fr : Int} (h : XO K a fr) (hb : K b = k) (hk : k ≠ 30 ∧ k ≠ 31 ∧ k ≠ 32) : a ≠ b := by
  intro e
  subst e
  rcases h with ⟨h | h, _⟩ | ⟨h, _, _⟩ <;> rw [h] at hb <;> omega
/-! the reference's rows, told as the class has them -/
def mw (f : Nat → Int32) (b : Int) (z : Int) : Int := if 0 ≤ z ∧ z < 270 then (if aI f (b + 4 * (30 * (z / 90) + z % 30)) = 1 then aI f (b + 4 * (30 * (z / 90) + z % 30) + 1 + (z / 30) % 3) else -2000) else 0
theorem mw_in {f : Nat → Int32} {b t k c : Int} (h : 0 ≤ t ∧ t < 3 ∧ 0 ≤ k ∧ k < 30 ∧ 0 ≤ c ∧ c < 3) : mw f b (90 * t + 30 * c + k) = if aI f (b + 4 * (30 * t + k)) = 1 then aI f (b + 4 * (30 * t + k) + 1 + c) else -2000 := by
  unfold mw
  rw [if_pos (by omega), show (90 * t + 30 * c + k) / 90 = t from by omega, show (90 * t + 30 * c + k) % 30 = k from by omega, show (90 * t + 30 * c + k) / 30 % 3 = c from by omega]
/-- 0 or 1 ahead of each row, and values behind a 1 -/
def RM (f : Nat → Int32) (b : Int) : Prop := ∀ t k : Int, 0 ≤ t → t < 3 → 0 ≤ k → k < 30 → aI f (b + 4 * (30 * t + k)) = 0 ∨ (aI f (b + 4 * (30 * t + k)) = 1 ∧ ∀ c : Int, 0 ≤ c → c < 3 → aI f (b + 4 * (30 * t + k) + 1 + c) = -1000 ∨ (-99 ≤ aI f (b + 4 * (30 * t + k) + 1 + c) ∧ aI f (b + 4 * (30 * t + k) + 1 + c) ≤ 99))
theorem RM.okc {f : Nat → Int32} {b : Int} (h : RM f b) {t k c : Int} (h0 : 0 ≤ t ∧ t < 3 ∧ 0 ≤ k ∧ k < 30 ∧ 0 ≤ c ∧ c < 3) : (aI f (b + 4 * (30 * t + k)) = 0 ∧ cel (mw f b) t k c = -2000) ∨ (aI f (b + 4 * (30 * t + k)) = 1 ∧ cel (mw f b) t k c = aI f (b + 4 * (30 * t + k) + 1 + c) ∧ (aI f (b + 4 * (30 * t + k) + 1 + c) = -1000 ∨ (-99 ≤ aI f (b + 4 * (30 * t + k) + 1 + c) ∧ aI f (b + 4 * (30 * t + k) + 1 + c) ≤ 99))) := by
  rw [cel_in h0, mw_in h0]
  rcases h t k h0.1 h0.2.1 h0.2.2.1 h0.2.2.2.1 with e | ⟨e, h2⟩
  · rw [if_neg (by omega)]
    exact Or.inl ⟨e, rfl⟩
  · rw [if_pos e]
    exact Or.inr ⟨e, rfl, h2 c h0.2.2.2.2.1 h0.2.2.2.2.2⟩
theorem RM.absent {f : Nat → Int32} {b : Int} (h : RM f b) (t k c : Int) (hc : 0 ≤ c ∧ c < 3) : cel (mw f b) t k c = -2000 ↔ cel (mw f b) t k 0 = -2000 := by
  by_cases g : 0 ≤ t ∧ t < 3 ∧ 0 ≤ k ∧ k < 30
  · have h1 := h.okc (t := t) (k := k) (c := c) (by omega)
    have h2 := h.okc (t := t) (k := k) (c := 0) (by omega)
    omega
  · rw [cel_out (by omega), cel_out (by omega)]
theorem hv_mw {f : Nat → Int32} {b t c v k x y : Int} (h0 : 0 ≤ t ∧ t < 3 ∧ 0 ≤ k ∧ k < 30 ∧ 0 ≤ c ∧ c < 3) (hv0 : v ≠ -2000) (hx : x = aI f (b + 4 * (30 * t + k))) (hy : y = aI f (b + 4 * (30 * t + k) + 1 + c)) : (x = 1 ∧ y = v → hv (mw f b) (90 * t + 30 * c) v (k + 1) = hv (mw f b) (90 * t + 30 * c) v k + 1) ∧ (¬ (x = 1 ∧ y = v) → hv (mw f b) (90 * t + 30 * c) v (k + 1) = hv (mw f b) (90 * t + 30 * c) v k) := by
  subst hx hy
  rw [hv_s _ _ _ h0.2.2.1, mw_in h0]
  by_cases e : aI f (b + 4 * (30 * t + k)) = 1
  · rw [if_pos e]
    refine ⟨fun h => by rw [if_pos h.2], fun h => ?_⟩
    rw [if_neg (fun q => h ⟨e, q⟩)]
    omega
  · rw [if_neg e]
    refine ⟨fun h => absurd h.1 e, fun h => ?_⟩
    rw [if_neg (Ne.symm hv0)]
    omega
theorem smq_mw {f : Nat → Int32} {b t c o v k x y z : Int} (h0 : 0 ≤ t ∧ t < 3 ∧ 0 ≤ k ∧ k < 30 ∧ 0 ≤ c ∧ c < 3) (ho : 0 ≤ o ∧ o < 3) (hv0 : v ≠ -2000) (hx : x = aI f (b + 4 * (30 * t + k))) (hy : y = aI f (b + 4 * (30 * t + k) + 1 + c)) (hz : z = aI f (b + 4 * (30 * t + k) + 1 + o)) : (x = 1 ∧ y = v → z ≠ -1000 → smq (mw f b) (90 * t + 30 * c) (90 * t + 30 * o) v (k + 1) = smq (mw f b) (90 * t + 30 * c) (90 * t + 30 * o) v k + z) ∧ (x = 1 ∧ y = v → z = -1000 → smq (mw f b) (90 * t + 30 * c) (90 * t + 30 * o) v (k + 1) = smq (mw f b) (90 * t + 30 * c) (90 * t + 30 * o) v k) ∧ (¬ (x = 1 ∧ y = v) → smq (mw f b) (90 * t + 30 * c) (90 * t + 30 * o) v (k + 1) = smq (mw f b) (90 * t + 30 * c) (90 * t + 30 * o) v k) := by
  subst hx hy hz
  rw [smq_s _ _ _ _ h0.2.2.1, mw_in h0, mw_in (c := o) (by omega)]
  by_cases e : aI f (b + 4 * (30 * t + k)) = 1
  · rw [if_pos e, if_pos e]
    refine ⟨fun h g => by rw [if_pos h.2, if_neg g], fun h g => by rw [if_pos h.2, if_pos g]; omega, fun h => ?_⟩
    rw [if_neg (fun q => h ⟨e, q⟩)]
    omega
  · rw [if_neg e, if_neg e]
    refine ⟨fun h => absurd h.1 e, fun h => absurd h.1 e, fun h => ?_⟩
    rw [if_neg (Ne.symm hv0)]
    omega
theorem rgq_no {r : Int → Int} {t c key n x : Int} (hn : 0 ≤ n) (h : cel r t x 0 = -2000) : rgq r t c key n x = 0 := by
  by_cases e : n = 0
  · rw [e]; exact rgq_0 _ _ _ _ _
  · exact (rgq_f r t c key x (n := n) (by omega)).1 h
/-- the first and the last subject of a kind -/
def sF (kd : Int) : Int := if kd = 2 ∨ kd = 4 ∨ kd = 5 then 0 else -99
def sL (kd : Int) : Int := if kd = 2 ∨ kd = 4 ∨ kd = 5 then 29 else 99
theorem sFL (kd : Int) : ((kd = 2 ∨ kd = 4 ∨ kd = 5) ∧ sF kd = 0 ∧ sL kd = 29) ∨ (¬ (kd = 2 ∨ kd = 4 ∨ kd = 5) ∧ sF kd = -99 ∧ sL kd = 99) := by
  unfold sF sL
  split
  · rename_i h; exact Or.inl ⟨h, rfl, rfl⟩
  · rename_i h; exact Or.inr ⟨h, rfl, rfl⟩
theorem sbj_FL {kd s : Int} : sbj kd s ↔ sF kd ≤ s ∧ s ≤ sL kd := by
  have := sFL kd
  unfold sbj
  omega
theorem ring_st {r : Int → Int} {t c key n x : Int} (hn : 0 < n) (ha : cel r t x c = -2000 ↔ cel r t x 0 = -2000) : (¬ (0 ≤ x ∧ x < 30) → rgq r t c key n x = 0) ∧ (x = key → (cel r t key 0 = -2000 → rgq r t c key n x = 0) ∧ (cel r t key 0 ≠ -2000 → rgq r t c key n x = 1)) ∧ (x ≠ key → rgq r t c key n x = rgq r t c key (n - 1) (cel r t x c)) := by
  obtain ⟨h1, h2, h3⟩ := rgq_f r t c key x hn
  refine ⟨fun h => h1 (cel_out (by omega)), fun e => ⟨fun h => h1 (by rw [e]; exact h), fun h => h2 (by rw [e]; exact h) e⟩, fun e => ?_⟩
  by_cases g : cel r t x 0 = -2000
  · rw [h1 g, ha.mpr g, rgq_no (by omega) (cel_out (by omega))]
  · exact h3 g e
theorem RM.flag {f : Nat → Int32} {b : Int} (h : RM f b) {t k : Int} (h0 : 0 ≤ t ∧ t < 3 ∧ 0 ≤ k ∧ k < 30) : (aI f (b + 4 * (30 * t + k)) = 0 ∧ cel (mw f b) t k 0 = -2000) ∨ (aI f (b + 4 * (30 * t + k)) = 1 ∧ cel (mw f b) t k 0 ≠ -2000) := by
  have := h.okc (t := t) (k := k) (c := 0) (by omega)
  omega
end

theorem z_X11_in_1 (a0 : Int) (a1 : Int) (a2 : Int) (a3 : Int) (h0 : (a1 < a2 ∧ a0 = -1) ∨ (a1 = a2 ∧ a0 = 0) ∨ (a2 < a1 ∧ a0 = 1)) (h1 : a0 < 0) : ((0 : Int) = 1 ∧ a2 ≤ a1 ∧ a1 ≤ a3) ∨ ((0 : Int) = 0 ∧ (a1 < a2 ∨ a3 < a1)) := by omega
theorem z_X11_in_2 (a0 : Int) (a1 : Int) (a2 : Int) (a3 : Int) (h0 : (a1 < a3 ∧ a0 = -1) ∨ (a1 = a3 ∧ a0 = 0) ∨ (a3 < a1 ∧ a0 = 1)) (h1 : 0 < a0) : ((0 : Int) = 1 ∧ a2 ≤ a1 ∧ a1 ≤ a3) ∨ ((0 : Int) = 0 ∧ (a1 < a2 ∨ a3 < a1)) := by omega
theorem z_X11_in_3 (a0 : Int) (a1 : Int) (a2 : Int) (a3 : Int) (a4 : Int) (h0 : (a2 < a3 ∧ a0 = -1) ∨ (a2 = a3 ∧ a0 = 0) ∨ (a3 < a2 ∧ a0 = 1)) (h1 : ¬ (a0 < 0)) (h2 : (a2 < a4 ∧ a1 = -1) ∨ (a2 = a4 ∧ a1 = 0) ∨ (a4 < a2 ∧ a1 = 1)) (h3 : ¬ (0 < a1)) : ((1 : Int) = 1 ∧ a3 ≤ a2 ∧ a2 ≤ a4) ∨ ((1 : Int) = 0 ∧ (a2 < a3 ∨ a4 < a2)) := by omega
abbrev rm_X11_in : Room := { frames := 0, cells := 0, slots := 0, locals := 0 }
set_option maxHeartbeats 4000000 in
set_option maxRecDepth 100000 in
theorem c_X11_in (l : Launch) (E : XE) (K : Nat → Nat) (F : Nat → Nat → Nat) (G : XG) (h0 : Heap) (p0 : Int64) (v0 : Int) (p1 : Int64) (v1 : Int) (p2 : Int64) (v2 : Int) (g0 : p0.toInt = v0) (g1 : p1.toInt = v1) (g2 : p2.toInt = v2) : Met l yX11_in (xw yX11_in cX11_in 6 (some .boolean)) rm_X11_in (va_Pc [.long p0, .long p1, .long p2] (XPh E K F G h0)) (XQ E (fun v (u : Unit) => ∃ r : Int32, v = .int r ∧ (r = 0 ∨ r = 1) ∧ ((r.toInt = 1 ∧ v1 ≤ v0 ∧ v0 ≤ v2) ∨ (r.toInt = 0 ∧ (v0 < v1 ∨ v2 < v0)))) (fun _ H => H = h0)) 0 0 (xA E) := by
  refine x_enter (by decide) (Nat.le_of_ble_eq_true rfl) ?_
  intro p e s m args below meth c Q S hr hlk hnm hQ hP ls hl
  obtain ⟨⟨hz, hK, hT⟩, hh⟩ := hP
  obtain ⟨hx, hb, -, -, -⟩ := id S
  have hS : va_S (xA E) s.heap s.heap [] := va_S.rf
  have hl : lv_has ls 6 [(0, .long p0), (2, .long p1), (4, .long p2)] := hl
  refine lv_lload_n hx hb dX11_in_0 rfl (lv_at hl 0 rfl) ?_
  refine lv_lload_n hx hb dX11_in_1 rfl (lv_at hl 1 rfl) ?_
  refine xi_lcmp hx hb g0 g1 dX11_in_2 (fun x2 t2 => ?_)
  refine xi_zlt (tgt := 17) hx hb (rfl : Int32.toInt x2 = x2.toInt) dX11_in_3 (by decide) (fun c3 => ?_) (fun c3 => ?_)
  · refine lv_iconst (v := 0) hx hb dX11_in_17 (by decide) ?_
    exact x_rz hx hb hr (xnz (Or.inl rfl)) hlk hQ (Nat.le_of_ble_eq_true rfl) (Nat.le_of_ble_eq_true rfl) hS dX11_in_18 () ⟨_, rfl, (Or.inl rfl), (z_X11_in_1 x2.toInt v0 v1 v2 t2 c3)⟩ hh
  · refine lv_lload_n hx hb dX11_in_6 rfl (lv_at hl 0 rfl) ?_
    refine lv_lload hx hb dX11_in_7 (lv_at hl 2 rfl) ?_
    refine xi_lcmp hx hb g0 g2 dX11_in_9 (fun x9 t9 => ?_)
    refine xi_zgt (tgt := 17) hx hb (rfl : Int32.toInt x9 = x9.toInt) dX11_in_10 (by decide) (fun c10 => ?_) (fun c10 => ?_)
    · refine lv_iconst (v := 0) hx hb dX11_in_17 (by decide) ?_
      exact x_rz hx hb hr (xnz (Or.inl rfl)) hlk hQ (Nat.le_of_ble_eq_true rfl) (Nat.le_of_ble_eq_true rfl) hS dX11_in_18 () ⟨_, rfl, (Or.inl rfl), (z_X11_in_2 x9.toInt v0 v1 v2 t9 c10)⟩ hh
    · refine lv_iconst (v := 1) hx hb dX11_in_13 (by decide) ?_
      refine lv_goto (tgt := 18) hx hb dX11_in_14 (by decide) ?_
      exact x_rz hx hb hr (xnz (Or.inr rfl)) hlk hQ (Nat.le_of_ble_eq_true rfl) (Nat.le_of_ble_eq_true rfl) hS dX11_in_18 () ⟨_, rfl, (Or.inr rfl), (z_X11_in_3 x2.toInt x9.toInt v0 v1 v2 t2 c3 t9 c10)⟩ hh

theorem z_X11_at_1 (a0 : Int) (a1 : Int) (a2 : Int) (a3 : Int) (a4 : Int) (h0 : a2 = (30 : Int) * a0 ∨ (30 : Int) * a0 < -2147483648 ∨ 2147483648 ≤ (30 : Int) * a0) (h1 : a3 = a2 + a1 ∨ a2 + a1 < -2147483648 ∨ 2147483648 ≤ a2 + a1) (h2 : a4 = (4 : Int) * a3 ∨ (4 : Int) * a3 < -2147483648 ∨ 2147483648 ≤ (4 : Int) * a3) : 0 ≤ a0 ∧ a0 ≤ 2 ∧ 0 ≤ a1 ∧ a1 ≤ 29 → a4 = 4 * (30 * a0 + a1) := by omega
abbrev rm_X11_at : Room := { frames := 0, cells := 0, slots := 0, locals := 0 }
set_option maxHeartbeats 4000000 in
set_option maxRecDepth 100000 in
theorem c_X11_at (l : Launch) (E : XE) (K : Nat → Nat) (F : Nat → Nat → Nat) (G : XG) (h0 : Heap) (p0 : Int32) (p1 : Int32)  : Met l yX11_at (xw yX11_at cX11_at 2 (some .int)) rm_X11_at (va_Pc [.int p0, .int p1] (XPh E K F G h0)) (XQ E (fun v (u : Unit) => ∃ r : Int32, v = .int r ∧ (0 ≤ p0.toInt ∧ p0.toInt ≤ 2 ∧ 0 ≤ p1.toInt ∧ p1.toInt ≤ 29 → r.toInt = 4 * (30 * p0.toInt + p1.toInt))) (fun _ H => H = h0)) 0 0 (xA E) := by
  refine x_enter (by decide) (Nat.le_of_ble_eq_true rfl) ?_
  intro p e s m args below meth c Q S hr hlk hnm hQ hP ls hl
  obtain ⟨⟨hz, hK, hT⟩, hh⟩ := hP
  obtain ⟨hx, hb, -, -, -⟩ := id S
  have hS : va_S (xA E) s.heap s.heap [] := va_S.rf
  have hl : lv_has ls 2 [(0, .int p0), (1, .int p1)] := hl
  refine lv_iconst (v := 4) hx hb dX11_at_0 (by decide) ?_
  refine lv_bipush (v := 30) hx hb dX11_at_1 (by decide) ?_
  refine lv_iload_n hx hb dX11_at_3 rfl (lv_at hl 0 rfl) ?_
  refine xi_imul hx hb ((by decide) : Int32.toInt 30 = (30 : Int)) (rfl : Int32.toInt p0 = p0.toInt) dX11_at_4 (fun x4 t4 => ?_)
  refine lv_iload_n hx hb dX11_at_5 rfl (lv_at hl 1 rfl) ?_
  refine xi_iadd hx hb (rfl : Int32.toInt x4 = x4.toInt) (rfl : Int32.toInt p1 = p1.toInt) dX11_at_6 (fun x6 t6 => ?_)
  refine xi_imul hx hb ((by decide) : Int32.toInt 4 = (4 : Int)) (rfl : Int32.toInt x6 = x6.toInt) dX11_at_7 (fun x7 t7 => ?_)
  exact x_ri hx hb hr hlk hQ (Nat.le_of_ble_eq_true rfl) (Nat.le_of_ble_eq_true rfl) hS dX11_at_8 () ⟨_, rfl, (z_X11_at_1 p0.toInt p1.toInt x4.toInt x6.toInt x7.toInt t4 t6 t7)⟩ hh

theorem z_X11_isTable_1 (a0 : Int) (a1 : Int) (h0 : (a1 = 1 ∧ (0 : Int) ≤ a0 ∧ a0 ≤ (2 : Int)) ∨ (a1 = 0 ∧ (a0 < (0 : Int) ∨ (2 : Int) < a0))) : (a1 = 1 ∧ 0 ≤ a0 ∧ a0 ≤ 2) ∨ (a1 = 0 ∧ (a0 < 0 ∨ 2 < a0)) := by omega
abbrev rm_X11_isTable : Room := { frames := 1, cells := 0, slots := 0, locals := 25 }
set_option maxHeartbeats 4000000 in
set_option maxRecDepth 100000 in
theorem c_X11_isTable (l : Launch) (E : XE) (K : Nat → Nat) (F : Nat → Nat → Nat) (G : XG) (h0 : Heap) (p0 : Int32)  : Met l yX11_isTable (xw yX11_isTable cX11_isTable 1 (some .boolean)) rm_X11_isTable (va_Pc [.int p0] (XPh E K F G h0)) (XQ E (fun v (u : Unit) => ∃ r : Int32, v = .int r ∧ (r = 0 ∨ r = 1) ∧ ((r.toInt = 1 ∧ 0 ≤ p0.toInt ∧ p0.toInt ≤ 2) ∨ (r.toInt = 0 ∧ (p0.toInt < 0 ∨ 2 < p0.toInt)))) (fun _ H => H = h0)) 0 0 (xA E) := by
  refine x_enter (by decide) (Nat.le_of_ble_eq_true rfl) ?_
  intro p e s m args below meth c Q S hr hlk hnm hQ hP ls hl
  obtain ⟨⟨hz, hK, hT⟩, hh⟩ := hP
  obtain ⟨hx, hb, -, -, -⟩ := id S
  have hS : va_S (xA E) s.heap s.heap [] := va_S.rf
  have hl : lv_has ls 1 [(0, .int p0)] := hl
  refine lv_iload_n hx hb dX11_isTable_0 rfl (lv_at hl 0 rfl) ?_
  refine lv_i2l (v := p0.toInt64) hx hb dX11_isTable_1 rfl ?_
  refine lv_lconst (v := (0 : Int64)) hx hb dX11_isTable_2 (by decide) ?_
  refine lv_ldc2 (v := 2) hx hb S.2.2.2.1 (S.2.2.2.2 _ (List.mem_cons_of_mem _ kc_X11_137)) dX11_isTable_3 ?_
  refine x_clp (x_runS (As := [.long p0.toInt64, .long (0 : Int64), .long (2 : Int64)]) (rest := []) S (c_X11_in l E K F G s.heap p0.toInt64 p0.toInt (0 : Int64) (0 : Int) (2 : Int64) (2 : Int) (xl_i2l (rfl : Int32.toInt p0 = p0.toInt)) (by decide) (by decide)) ms_X11_in km_X11_139 rfl rfl ⟨Nat.le_of_ble_eq_true rfl, Nat.le_of_ble_eq_true rfl⟩ hK (fun _ => XPh.blind) (fun U hU hW => XPh.at hK hz hS hT hU hW) rfl hl.1 (Nat.le_of_ble_eq_true rfl) dX11_isTable_6 ⟨Nat.le_of_ble_eq_true rfl, Nat.le_of_ble_eq_true rfl⟩) hS ?_
  rintro _ _ locs ⟨x6, rfl, b6, t6⟩ hS
  have t6 : (x6.toInt = 1 ∧ (0 : Int) ≤ p0.toInt ∧ p0.toInt ≤ (2 : Int)) ∨ (x6.toInt = 0 ∧ (p0.toInt < (0 : Int) ∨ (2 : Int) < p0.toInt)) := t6
  exact x_rz hx hb hr (xnz b6) hlk hQ (Nat.le_of_ble_eq_true rfl) (Nat.le_of_ble_eq_true rfl) hS dX11_isTable_9 () ⟨_, rfl, b6, (z_X11_isTable_1 p0.toInt x6.toInt t6)⟩ hh

theorem z_X11_isKey_1 (a0 : Int) (a1 : Int) (h0 : (a1 = 1 ∧ (0 : Int) ≤ a0 ∧ a0 ≤ (29 : Int)) ∨ (a1 = 0 ∧ (a0 < (0 : Int) ∨ (29 : Int) < a0))) : (a1 = 1 ∧ 0 ≤ a0 ∧ a0 ≤ 29) ∨ (a1 = 0 ∧ (a0 < 0 ∨ 29 < a0)) := by omega
abbrev rm_X11_isKey : Room := { frames := 1, cells := 0, slots := 0, locals := 25 }
set_option maxHeartbeats 4000000 in
set_option maxRecDepth 100000 in
theorem c_X11_isKey (l : Launch) (E : XE) (K : Nat → Nat) (F : Nat → Nat → Nat) (G : XG) (h0 : Heap) (p0 : Int32)  : Met l yX11_isKey (xw yX11_isKey cX11_isKey 1 (some .boolean)) rm_X11_isKey (va_Pc [.int p0] (XPh E K F G h0)) (XQ E (fun v (u : Unit) => ∃ r : Int32, v = .int r ∧ (r = 0 ∨ r = 1) ∧ ((r.toInt = 1 ∧ 0 ≤ p0.toInt ∧ p0.toInt ≤ 29) ∨ (r.toInt = 0 ∧ (p0.toInt < 0 ∨ 29 < p0.toInt)))) (fun _ H => H = h0)) 0 0 (xA E) := by
  refine x_enter (by decide) (Nat.le_of_ble_eq_true rfl) ?_
  intro p e s m args below meth c Q S hr hlk hnm hQ hP ls hl
  obtain ⟨⟨hz, hK, hT⟩, hh⟩ := hP
  obtain ⟨hx, hb, -, -, -⟩ := id S
  have hS : va_S (xA E) s.heap s.heap [] := va_S.rf
  have hl : lv_has ls 1 [(0, .int p0)] := hl
  refine lv_iload_n hx hb dX11_isKey_0 rfl (lv_at hl 0 rfl) ?_
  refine lv_i2l (v := p0.toInt64) hx hb dX11_isKey_1 rfl ?_
  refine lv_lconst (v := (0 : Int64)) hx hb dX11_isKey_2 (by decide) ?_
  refine lv_ldc2 (v := 29) hx hb S.2.2.2.1 (S.2.2.2.2 _ (List.mem_cons_of_mem _ kc_X11_143)) dX11_isKey_3 ?_
  refine x_clp (x_runS (As := [.long p0.toInt64, .long (0 : Int64), .long (29 : Int64)]) (rest := []) S (c_X11_in l E K F G s.heap p0.toInt64 p0.toInt (0 : Int64) (0 : Int) (29 : Int64) (29 : Int) (xl_i2l (rfl : Int32.toInt p0 = p0.toInt)) (by decide) (by decide)) ms_X11_in km_X11_139 rfl rfl ⟨Nat.le_of_ble_eq_true rfl, Nat.le_of_ble_eq_true rfl⟩ hK (fun _ => XPh.blind) (fun U hU hW => XPh.at hK hz hS hT hU hW) rfl hl.1 (Nat.le_of_ble_eq_true rfl) dX11_isKey_6 ⟨Nat.le_of_ble_eq_true rfl, Nat.le_of_ble_eq_true rfl⟩) hS ?_
  rintro _ _ locs ⟨x6, rfl, b6, t6⟩ hS
  have t6 : (x6.toInt = 1 ∧ (0 : Int) ≤ p0.toInt ∧ p0.toInt ≤ (29 : Int)) ∨ (x6.toInt = 0 ∧ (p0.toInt < (0 : Int) ∨ (29 : Int) < p0.toInt)) := t6
  exact x_rz hx hb hr (xnz b6) hlk hQ (Nat.le_of_ble_eq_true rfl) (Nat.le_of_ble_eq_true rfl) hS dX11_isKey_9 () ⟨_, rfl, b6, (z_X11_isKey_1 p0.toInt x6.toInt t6)⟩ hh

abbrev rm_X11_isColumn : Room := { frames := 1, cells := 0, slots := 0, locals := 25 }
set_option maxHeartbeats 4000000 in
set_option maxRecDepth 100000 in
theorem c_X11_isColumn (l : Launch) (E : XE) (K : Nat → Nat) (F : Nat → Nat → Nat) (G : XG) (h0 : Heap) (p0 : Int32)  : Met l yX11_isColumn (xw yX11_isColumn cX11_isColumn 1 (some .boolean)) rm_X11_isColumn (va_Pc [.int p0] (XPh E K F G h0)) (XQ E (fun v (u : Unit) => ∃ r : Int32, v = .int r ∧ (r = 0 ∨ r = 1) ∧ ((r.toInt = 1 ∧ 0 ≤ p0.toInt ∧ p0.toInt ≤ 2) ∨ (r.toInt = 0 ∧ (p0.toInt < 0 ∨ 2 < p0.toInt)))) (fun _ H => H = h0)) 0 0 (xA E) := by
  refine x_enter (by decide) (Nat.le_of_ble_eq_true rfl) ?_
  intro p e s m args below meth c Q S hr hlk hnm hQ hP ls hl
  obtain ⟨⟨hz, hK, hT⟩, hh⟩ := hP
  obtain ⟨hx, hb, -, -, -⟩ := id S
  have hS : va_S (xA E) s.heap s.heap [] := va_S.rf
  have hl : lv_has ls 1 [(0, .int p0)] := hl
  refine lv_iload_n hx hb dX11_isColumn_0 rfl (lv_at hl 0 rfl) ?_
  refine lv_i2l (v := p0.toInt64) hx hb dX11_isColumn_1 rfl ?_
  refine lv_lconst (v := (0 : Int64)) hx hb dX11_isColumn_2 (by decide) ?_
  refine lv_ldc2 (v := 2) hx hb S.2.2.2.1 (S.2.2.2.2 _ (List.mem_cons_of_mem _ kc_X11_137)) dX11_isColumn_3 ?_
  refine x_clp (x_runS (As := [.long p0.toInt64, .long (0 : Int64), .long (2 : Int64)]) (rest := []) S (c_X11_in l E K F G s.heap p0.toInt64 p0.toInt (0 : Int64) (0 : Int) (2 : Int64) (2 : Int) (xl_i2l (rfl : Int32.toInt p0 = p0.toInt)) (by decide) (by decide)) ms_X11_in km_X11_139 rfl rfl ⟨Nat.le_of_ble_eq_true rfl, Nat.le_of_ble_eq_true rfl⟩ hK (fun _ => XPh.blind) (fun U hU hW => XPh.at hK hz hS hT hU hW) rfl hl.1 (Nat.le_of_ble_eq_true rfl) dX11_isColumn_6 ⟨Nat.le_of_ble_eq_true rfl, Nat.le_of_ble_eq_true rfl⟩) hS ?_
  rintro _ _ locs ⟨x6, rfl, b6, t6⟩ hS
  have t6 : (x6.toInt = 1 ∧ (0 : Int) ≤ p0.toInt ∧ p0.toInt ≤ (2 : Int)) ∨ (x6.toInt = 0 ∧ (p0.toInt < (0 : Int) ∨ (2 : Int) < p0.toInt)) := t6
  exact x_rz hx hb hr (xnz b6) hlk hQ (Nat.le_of_ble_eq_true rfl) (Nat.le_of_ble_eq_true rfl) hS dX11_isColumn_9 () ⟨_, rfl, b6, (z_X11_isTable_1 p0.toInt x6.toInt t6)⟩ hh

theorem z_X11_isLetter_1 (a0 : Int) (a1 : Int) (h0 : (a1 = 1 ∧ (97 : Int) ≤ a0 ∧ a0 ≤ (122 : Int)) ∨ (a1 = 0 ∧ (a0 < (97 : Int) ∨ (122 : Int) < a0))) : (a1 = 1 ∧ 97 ≤ a0 ∧ a0 ≤ 122) ∨ (a1 = 0 ∧ (a0 < 97 ∨ 122 < a0)) := by omega
abbrev rm_X11_isLetter : Room := { frames := 1, cells := 0, slots := 0, locals := 25 }
set_option maxHeartbeats 4000000 in
set_option maxRecDepth 100000 in
theorem c_X11_isLetter (l : Launch) (E : XE) (K : Nat → Nat) (F : Nat → Nat → Nat) (G : XG) (h0 : Heap) (p0 : Int32)  : Met l yX11_isLetter (xw yX11_isLetter cX11_isLetter 1 (some .boolean)) rm_X11_isLetter (va_Pc [.int p0] (XPh E K F G h0)) (XQ E (fun v (u : Unit) => ∃ r : Int32, v = .int r ∧ (r = 0 ∨ r = 1) ∧ ((r.toInt = 1 ∧ 97 ≤ p0.toInt ∧ p0.toInt ≤ 122) ∨ (r.toInt = 0 ∧ (p0.toInt < 97 ∨ 122 < p0.toInt)))) (fun _ H => H = h0)) 0 0 (xA E) := by
  refine x_enter (by decide) (Nat.le_of_ble_eq_true rfl) ?_
  intro p e s m args below meth c Q S hr hlk hnm hQ hP ls hl
  obtain ⟨⟨hz, hK, hT⟩, hh⟩ := hP
  obtain ⟨hx, hb, -, -, -⟩ := id S
  have hS : va_S (xA E) s.heap s.heap [] := va_S.rf
  have hl : lv_has ls 1 [(0, .int p0)] := hl
  refine lv_iload_n hx hb dX11_isLetter_0 rfl (lv_at hl 0 rfl) ?_
  refine lv_i2l (v := p0.toInt64) hx hb dX11_isLetter_1 rfl ?_
  refine lv_ldc2 (v := 97) hx hb S.2.2.2.1 (S.2.2.2.2 _ (List.mem_cons_of_mem _ kc_X11_248)) dX11_isLetter_2 ?_
  refine lv_ldc2 (v := 122) hx hb S.2.2.2.1 (S.2.2.2.2 _ (List.mem_cons_of_mem _ kc_X11_250)) dX11_isLetter_5 ?_
  refine x_clp (x_runS (As := [.long p0.toInt64, .long (97 : Int64), .long (122 : Int64)]) (rest := []) S (c_X11_in l E K F G s.heap p0.toInt64 p0.toInt (97 : Int64) (97 : Int) (122 : Int64) (122 : Int) (xl_i2l (rfl : Int32.toInt p0 = p0.toInt)) (by decide) (by decide)) ms_X11_in km_X11_139 rfl rfl ⟨Nat.le_of_ble_eq_true rfl, Nat.le_of_ble_eq_true rfl⟩ hK (fun _ => XPh.blind) (fun U hU hW => XPh.at hK hz hS hT hU hW) rfl hl.1 (Nat.le_of_ble_eq_true rfl) dX11_isLetter_8 ⟨Nat.le_of_ble_eq_true rfl, Nat.le_of_ble_eq_true rfl⟩) hS ?_
  rintro _ _ locs ⟨x8, rfl, b8, t8⟩ hS
  have t8 : (x8.toInt = 1 ∧ (97 : Int) ≤ p0.toInt ∧ p0.toInt ≤ (122 : Int)) ∨ (x8.toInt = 0 ∧ (p0.toInt < (97 : Int) ∨ (122 : Int) < p0.toInt)) := t8
  exact x_rz hx hb hr (xnz b8) hlk hQ (Nat.le_of_ble_eq_true rfl) (Nat.le_of_ble_eq_true rfl) hS dX11_isLetter_11 () ⟨_, rfl, b8, (z_X11_isLetter_1 p0.toInt x8.toInt t8)⟩ hh

theorem z_X11_isDigit_1 (a0 : Int) (a1 : Int) (h0 : (a1 = 1 ∧ (48 : Int) ≤ a0 ∧ a0 ≤ (57 : Int)) ∨ (a1 = 0 ∧ (a0 < (48 : Int) ∨ (57 : Int) < a0))) : (a1 = 1 ∧ 48 ≤ a0 ∧ a0 ≤ 57) ∨ (a1 = 0 ∧ (a0 < 48 ∨ 57 < a0)) := by omega
abbrev rm_X11_isDigit : Room := { frames := 1, cells := 0, slots := 0, locals := 25 }
set_option maxHeartbeats 4000000 in
set_option maxRecDepth 100000 in
theorem c_X11_isDigit (l : Launch) (E : XE) (K : Nat → Nat) (F : Nat → Nat → Nat) (G : XG) (h0 : Heap) (p0 : Int32)  : Met l yX11_isDigit (xw yX11_isDigit cX11_isDigit 1 (some .boolean)) rm_X11_isDigit (va_Pc [.int p0] (XPh E K F G h0)) (XQ E (fun v (u : Unit) => ∃ r : Int32, v = .int r ∧ (r = 0 ∨ r = 1) ∧ ((r.toInt = 1 ∧ 48 ≤ p0.toInt ∧ p0.toInt ≤ 57) ∨ (r.toInt = 0 ∧ (p0.toInt < 48 ∨ 57 < p0.toInt)))) (fun _ H => H = h0)) 0 0 (xA E) := by
  refine x_enter (by decide) (Nat.le_of_ble_eq_true rfl) ?_
  intro p e s m args below meth c Q S hr hlk hnm hQ hP ls hl
  obtain ⟨⟨hz, hK, hT⟩, hh⟩ := hP
  obtain ⟨hx, hb, -, -, -⟩ := id S
  have hS : va_S (xA E) s.heap s.heap [] := va_S.rf
  have hl : lv_has ls 1 [(0, .int p0)] := hl
  refine lv_iload_n hx hb dX11_isDigit_0 rfl (lv_at hl 0 rfl) ?_
  refine lv_i2l (v := p0.toInt64) hx hb dX11_isDigit_1 rfl ?_
  refine lv_ldc2 (v := 48) hx hb S.2.2.2.1 (S.2.2.2.2 _ (List.mem_cons_of_mem _ kc_X11_252)) dX11_isDigit_2 ?_
  refine lv_ldc2 (v := 57) hx hb S.2.2.2.1 (S.2.2.2.2 _ (List.mem_cons_of_mem _ kc_X11_254)) dX11_isDigit_5 ?_
  refine x_clp (x_runS (As := [.long p0.toInt64, .long (48 : Int64), .long (57 : Int64)]) (rest := []) S (c_X11_in l E K F G s.heap p0.toInt64 p0.toInt (48 : Int64) (48 : Int) (57 : Int64) (57 : Int) (xl_i2l (rfl : Int32.toInt p0 = p0.toInt)) (by decide) (by decide)) ms_X11_in km_X11_139 rfl rfl ⟨Nat.le_of_ble_eq_true rfl, Nat.le_of_ble_eq_true rfl⟩ hK (fun _ => XPh.blind) (fun U hU hW => XPh.at hK hz hS hT hU hW) rfl hl.1 (Nat.le_of_ble_eq_true rfl) dX11_isDigit_8 ⟨Nat.le_of_ble_eq_true rfl, Nat.le_of_ble_eq_true rfl⟩) hS ?_
  rintro _ _ locs ⟨x8, rfl, b8, t8⟩ hS
  have t8 : (x8.toInt = 1 ∧ (48 : Int) ≤ p0.toInt ∧ p0.toInt ≤ (57 : Int)) ∨ (x8.toInt = 0 ∧ (p0.toInt < (48 : Int) ∨ (57 : Int) < p0.toInt)) := t8
  exact x_rz hx hb hr (xnz b8) hlk hQ (Nat.le_of_ble_eq_true rfl) (Nat.le_of_ble_eq_true rfl) hS dX11_isDigit_11 () ⟨_, rfl, b8, (z_X11_isDigit_1 p0.toInt x8.toInt t8)⟩ hh

theorem z_X11_isValue_1 (a0 : Int) (h0 : a0 = (-1000 : Int)) : ((1 : Int) = 1 ∧ (a0 = -1000 ∨ (-99 ≤ a0 ∧ a0 < 100))) ∨ ((1 : Int) = 0 ∧ a0 ≠ -1000 ∧ (a0 < -99 ∨ 100 ≤ a0)) := by omega
theorem z_X11_isValue_2 (a0 : Int) (a1 : Int) (h0 : ¬ (a0 = (-1000 : Int))) (h1 : (a1 = 1 ∧ (-99 : Int) ≤ a0 ∧ a0 ≤ (99 : Int)) ∨ (a1 = 0 ∧ (a0 < (-99 : Int) ∨ (99 : Int) < a0))) (h2 : a1 = 0) : ((0 : Int) = 1 ∧ (a0 = -1000 ∨ (-99 ≤ a0 ∧ a0 < 100))) ∨ ((0 : Int) = 0 ∧ a0 ≠ -1000 ∧ (a0 < -99 ∨ 100 ≤ a0)) := by omega
theorem z_X11_isValue_3 (a0 : Int) (a1 : Int) (h0 : (a1 = 1 ∧ (-99 : Int) ≤ a0 ∧ a0 ≤ (99 : Int)) ∨ (a1 = 0 ∧ (a0 < (-99 : Int) ∨ (99 : Int) < a0))) (h1 : ¬ (a1 = 0)) : ((1 : Int) = 1 ∧ (a0 = -1000 ∨ (-99 ≤ a0 ∧ a0 < 100))) ∨ ((1 : Int) = 0 ∧ a0 ≠ -1000 ∧ (a0 < -99 ∨ 100 ≤ a0)) := by omega
abbrev rm_X11_isValue : Room := { frames := 1, cells := 0, slots := 0, locals := 25 }
set_option maxHeartbeats 4000000 in
set_option maxRecDepth 100000 in
theorem c_X11_isValue (l : Launch) (E : XE) (K : Nat → Nat) (F : Nat → Nat → Nat) (G : XG) (h0 : Heap) (p0 : Int32)  : Met l yX11_isValue (xw yX11_isValue cX11_isValue 1 (some .boolean)) rm_X11_isValue (va_Pc [.int p0] (XPh E K F G h0)) (XQ E (fun v (u : Unit) => ∃ r : Int32, v = .int r ∧ (r = 0 ∨ r = 1) ∧ ((r.toInt = 1 ∧ (p0.toInt = -1000 ∨ (-99 ≤ p0.toInt ∧ p0.toInt < 100))) ∨ (r.toInt = 0 ∧ p0.toInt ≠ -1000 ∧ (p0.toInt < -99 ∨ 100 ≤ p0.toInt)))) (fun _ H => H = h0)) 0 0 (xA E) := by
  refine x_enter (by decide) (Nat.le_of_ble_eq_true rfl) ?_
  intro p e s m args below meth c Q S hr hlk hnm hQ hP ls hl
  obtain ⟨⟨hz, hK, hT⟩, hh⟩ := hP
  obtain ⟨hx, hb, -, -, -⟩ := id S
  have hS : va_S (xA E) s.heap s.heap [] := va_S.rf
  have hl : lv_has ls 1 [(0, .int p0)] := hl
  refine lv_iload_n hx hb dX11_isValue_0 rfl (lv_at hl 0 rfl) ?_
  refine lv_sipush (v := (-1000)) hx hb dX11_isValue_1 (by decide) ?_
  refine xi_ceq (tgt := 21) hx hb (rfl : Int32.toInt p0 = p0.toInt) ((by decide) : Int32.toInt (-1000) = (-1000 : Int)) dX11_isValue_4 (by decide) (fun c4 => ?_) (fun c4 => ?_)
  · refine lv_iconst (v := 1) hx hb dX11_isValue_21 (by decide) ?_
    refine lv_goto (tgt := 26) hx hb dX11_isValue_22 (by decide) ?_
    exact x_rz hx hb hr (xnz (Or.inr rfl)) hlk hQ (Nat.le_of_ble_eq_true rfl) (Nat.le_of_ble_eq_true rfl) hS dX11_isValue_26 () ⟨_, rfl, (Or.inr rfl), (z_X11_isValue_1 p0.toInt c4)⟩ hh
  · refine lv_iload_n hx hb dX11_isValue_7 rfl (lv_at hl 0 rfl) ?_
    refine lv_i2l (v := p0.toInt64) hx hb dX11_isValue_8 rfl ?_
    refine lv_ldc2 (v := (-99)) hx hb S.2.2.2.1 (S.2.2.2.2 _ (List.mem_cons_of_mem _ kc_X11_145)) dX11_isValue_9 ?_
    refine lv_ldc2 (v := 99) hx hb S.2.2.2.1 (S.2.2.2.2 _ (List.mem_cons_of_mem _ kc_X11_147)) dX11_isValue_12 ?_
    refine x_clp (x_runS (As := [.long p0.toInt64, .long (-99 : Int64), .long (99 : Int64)]) (rest := []) S (c_X11_in l E K F G s.heap p0.toInt64 p0.toInt (-99 : Int64) (-99 : Int) (99 : Int64) (99 : Int) (xl_i2l (rfl : Int32.toInt p0 = p0.toInt)) (by decide) (by decide)) ms_X11_in km_X11_139 rfl rfl ⟨Nat.le_of_ble_eq_true rfl, Nat.le_of_ble_eq_true rfl⟩ hK (fun _ => XPh.blind) (fun U hU hW => XPh.at hK hz hS hT hU hW) rfl hl.1 (Nat.le_of_ble_eq_true rfl) dX11_isValue_15 ⟨Nat.le_of_ble_eq_true rfl, Nat.le_of_ble_eq_true rfl⟩) hS ?_
    rintro _ _ locs ⟨x15, rfl, b15, t15⟩ hS
    have t15 : (x15.toInt = 1 ∧ (-99 : Int) ≤ p0.toInt ∧ p0.toInt ≤ (99 : Int)) ∨ (x15.toInt = 0 ∧ (p0.toInt < (-99 : Int) ∨ (99 : Int) < p0.toInt)) := t15
    refine xi_zeq (tgt := 25) hx hb (rfl : Int32.toInt x15 = x15.toInt) dX11_isValue_18 (by decide) (fun c18 => ?_) (fun c18 => ?_)
    · refine lv_iconst (v := 0) hx hb dX11_isValue_25 (by decide) ?_
      exact x_rz hx hb hr (xnz (Or.inl rfl)) hlk hQ (Nat.le_of_ble_eq_true rfl) (Nat.le_of_ble_eq_true rfl) hS dX11_isValue_26 () ⟨_, rfl, (Or.inl rfl), (z_X11_isValue_2 p0.toInt x15.toInt c4 t15 c18)⟩ hh
    · refine lv_iconst (v := 1) hx hb dX11_isValue_21 (by decide) ?_
      refine lv_goto (tgt := 26) hx hb dX11_isValue_22 (by decide) ?_
      exact x_rz hx hb hr (xnz (Or.inr rfl)) hlk hQ (Nat.le_of_ble_eq_true rfl) (Nat.le_of_ble_eq_true rfl) hS dX11_isValue_26 () ⟨_, rfl, (Or.inr rfl), (z_X11_isValue_3 p0.toInt x15.toInt t15 c18)⟩ hh

theorem z_X11_isRule_1 (a0 : Int) (a1 : Int) (a2 : Int) (h0 : (a1 = 1 ∧ (0 : Int) ≤ a0 ∧ a0 ≤ (11 : Int)) ∨ (a1 = 0 ∧ (a0 < (0 : Int) ∨ (11 : Int) < a0))) (h1 : a1 = 0) : ((0 : Int) = 1 ∧ 0 ≤ a0 ∧ a0 ≤ 11 ∧ a2 ≠ -1) ∨ ((0 : Int) = 0 ∧ (¬ (0 ≤ a0 ∧ a0 ≤ 11) ∨ a2 = -1)) := by omega
theorem z_X11_isRule_2 (a0 : Int) (a1 : Int) (a2 : Int) (h0 : (a2 = 1 ∧ (0 : Int) ≤ a0 ∧ a0 ≤ (11 : Int)) ∨ (a2 = 0 ∧ (a0 < (0 : Int) ∨ (11 : Int) < a0))) (h1 : ¬ (a2 = 0)) (h2 : a1 = (10 : Int) * a0 ∨ (10 : Int) * a0 < -2147483648 ∨ 2147483648 ≤ (10 : Int) * a0) : 0 ≤ a1 ∧ a1 < ((120 : Nat) : Int) := by omega
theorem z_X11_isRule_3 (a0 : Int) (a1 : Int) (a2 : Int) (h0 : (a2 = 1 ∧ (0 : Int) ≤ a0 ∧ a0 ≤ (11 : Int)) ∨ (a2 = 0 ∧ (a0 < (0 : Int) ∨ (11 : Int) < a0))) (h1 : ¬ (a2 = 0)) (h2 : a1 = (10 : Int) * a0 ∨ (10 : Int) * a0 < -2147483648 ∨ 2147483648 ≤ (10 : Int) * a0) : a1 = 10 * a0 + 0 := by omega
theorem z_X11_isRule_4 (a0 : Int) (a1 : Int) (h0 : a1 = (-1 : Int)) : ((0 : Int) = 1 ∧ 0 ≤ a0 ∧ a0 ≤ 11 ∧ a1 ≠ -1) ∨ ((0 : Int) = 0 ∧ (¬ (0 ≤ a0 ∧ a0 ≤ 11) ∨ a1 = -1)) := by omega
theorem z_X11_isRule_5 (a0 : Int) (a1 : Int) (a2 : Int) (h0 : (a1 = 1 ∧ (0 : Int) ≤ a0 ∧ a0 ≤ (11 : Int)) ∨ (a1 = 0 ∧ (a0 < (0 : Int) ∨ (11 : Int) < a0))) (h1 : ¬ (a1 = 0)) (h2 : ¬ (a2 = (-1 : Int))) : ((1 : Int) = 1 ∧ 0 ≤ a0 ∧ a0 ≤ 11 ∧ a2 ≠ -1) ∨ ((1 : Int) = 0 ∧ (¬ (0 ≤ a0 ∧ a0 ≤ 11) ∨ a2 = -1)) := by omega
abbrev rm_X11_isRule : Room := { frames := 1, cells := 0, slots := 0, locals := 25 }
set_option maxHeartbeats 4000000 in
set_option maxRecDepth 100000 in
theorem c_X11_isRule (l : Launch) (E : XE) (K : Nat → Nat) (F : Nat → Nat → Nat) (G : XG) (h0 : Heap) (a : Nat) (p0 : Int32) (ha : K a = 13) : Met l yX11_isRule (xw yX11_isRule cX11_isRule 2 (some .boolean)) rm_X11_isRule (va_Pc [.ref a, .int p0] (XPh E K F G h0)) (XQ E (fun v (u : Unit) => ∃ r : Int32, v = .int r ∧ (r = 0 ∨ r = 1) ∧ ((r.toInt = 1 ∧ 0 ≤ p0.toInt ∧ p0.toInt ≤ 11 ∧ (aI (G.2.1 (F a 10)) (10 * p0.toInt + 0)) ≠ -1) ∨ (r.toInt = 0 ∧ (¬ (0 ≤ p0.toInt ∧ p0.toInt ≤ 11) ∨ (aI (G.2.1 (F a 10)) (10 * p0.toInt + 0)) = -1)))) (fun _ H => H = h0)) 0 0 (xA E) := by
  refine x_enter (by decide) (Nat.le_of_ble_eq_true rfl) ?_
  intro p e s m args below meth c Q S hr hlk hnm hQ hP ls hl
  obtain ⟨⟨hz, hK, hT⟩, hh⟩ := hP
  obtain ⟨hx, hb, -, -, -⟩ := id S
  have hS : va_S (xA E) s.heap s.heap [] := va_S.rf
  have hl : lv_has ls 2 [(0, .ref a), (1, .int p0)] := hl
  obtain ⟨hk9999, hj9999⟩ := fkX11_10 hT ha
  refine lv_iload_n hx hb dX11_isRule_0 rfl (lv_at hl 1 rfl) ?_
  refine lv_i2l (v := p0.toInt64) hx hb dX11_isRule_1 rfl ?_
  refine lv_lconst (v := (0 : Int64)) hx hb dX11_isRule_2 (by decide) ?_
  refine lv_ldc2 (v := 11) hx hb S.2.2.2.1 (S.2.2.2.2 _ (List.mem_cons_of_mem _ kc_X11_160)) dX11_isRule_3 ?_
  refine x_clp (x_runS (As := [.long p0.toInt64, .long (0 : Int64), .long (11 : Int64)]) (rest := []) S (c_X11_in l E K F G s.heap p0.toInt64 p0.toInt (0 : Int64) (0 : Int) (11 : Int64) (11 : Int) (xl_i2l (rfl : Int32.toInt p0 = p0.toInt)) (by decide) (by decide)) ms_X11_in km_X11_139 rfl rfl ⟨Nat.le_of_ble_eq_true rfl, Nat.le_of_ble_eq_true rfl⟩ hK (fun _ => XPh.blind) (fun U hU hW => XPh.at hK hz hS hT hU hW) rfl hl.1 (Nat.le_of_ble_eq_true rfl) dX11_isRule_6 ⟨Nat.le_of_ble_eq_true rfl, Nat.le_of_ble_eq_true rfl⟩) hS ?_
  rintro _ _ locs ⟨x6, rfl, b6, t6⟩ hS
  have t6 : (x6.toInt = 1 ∧ (0 : Int) ≤ p0.toInt ∧ p0.toInt ≤ (11 : Int)) ∨ (x6.toInt = 0 ∧ (p0.toInt < (0 : Int) ∨ (11 : Int) < p0.toInt)) := t6
  refine xi_zeq (tgt := 29) hx hb (rfl : Int32.toInt x6 = x6.toInt) dX11_isRule_9 (by decide) (fun c9 => ?_) (fun c9 => ?_)
  · refine lv_iconst (v := 0) hx hb dX11_isRule_29 (by decide) ?_
    exact x_rz hx hb hr (xnz (Or.inl rfl)) hlk hQ (Nat.le_of_ble_eq_true rfl) (Nat.le_of_ble_eq_true rfl) hS dX11_isRule_30 () ⟨_, rfl, (Or.inl rfl), (z_X11_isRule_1 p0.toInt x6.toInt (aI (G.2.1 (F a 10)) (10 * p0.toInt + 0)) t6 c9)⟩ hh
  · refine lv_aload_n hx hb dX11_isRule_12 rfl (lv_at hl 0 rfl) ?_
    refine gX11_10 S hK hT ha kf_X11_33 dX11_isRule_13 (fun _ _ => ?_)
    refine lv_bipush (v := 10) hx hb dX11_isRule_16 (by decide) ?_
    refine lv_iload_n hx hb dX11_isRule_18 rfl (lv_at hl 1 rfl) ?_
    refine xi_imul hx hb ((by decide) : Int32.toInt 10 = (10 : Int)) (rfl : Int32.toInt p0 = p0.toInt) dX11_isRule_19 (fun x19 t19 => ?_)
    refine al_0 S hK hT hk9999 ar_37 (by decide) (z_X11_isRule_2 p0.toInt x19.toInt x6.toInt t6 c9 t19) dX11_isRule_20 (fun x20 hv20 o20 => ?_)
    have hv20 : x20.toInt = (aI (G.2.1 (F a 10)) (10 * p0.toInt + 0)) := hv20.trans (by rw [((rfl : Int32.toInt x19 = x19.toInt).trans (z_X11_isRule_3 p0.toInt x19.toInt x6.toInt t6 c9 t19))])
    refine lv_iconst (v := (-1)) hx hb dX11_isRule_21 (by decide) ?_
    refine xi_ceq (tgt := 29) hx hb (hv20 : Int32.toInt x20 = (aI (G.2.1 (F a 10)) (10 * p0.toInt + 0))) ((by decide) : Int32.toInt (-1) = (-1 : Int)) dX11_isRule_22 (by decide) (fun c22 => ?_) (fun c22 => ?_)
    · refine lv_iconst (v := 0) hx hb dX11_isRule_29 (by decide) ?_
      exact x_rz hx hb hr (xnz (Or.inl rfl)) hlk hQ (Nat.le_of_ble_eq_true rfl) (Nat.le_of_ble_eq_true rfl) hS dX11_isRule_30 () ⟨_, rfl, (Or.inl rfl), (z_X11_isRule_4 p0.toInt (aI (G.2.1 (F a 10)) (10 * p0.toInt + 0)) c22)⟩ hh
    · refine lv_iconst (v := 1) hx hb dX11_isRule_25 (by decide) ?_
      refine lv_goto (tgt := 30) hx hb dX11_isRule_26 (by decide) ?_
      exact x_rz hx hb hr (xnz (Or.inr rfl)) hlk hQ (Nat.le_of_ble_eq_true rfl) (Nat.le_of_ble_eq_true rfl) hS dX11_isRule_30 () ⟨_, rfl, (Or.inr rfl), (z_X11_isRule_5 p0.toInt x6.toInt (aI (G.2.1 (F a 10)) (10 * p0.toInt + 0)) t6 c9 c22)⟩ hh

theorem z_X11_of_1 (a0 : Int) (a1 : Int) (a2 : Int) (a3 : Int) (h0 : 0 ≤ a0 ∧ a0 ≤ 11) (h1 : 0 ≤ a1 ∧ a1 ≤ 9) (h2 : a2 = (10 : Int) * a0 ∨ (10 : Int) * a0 < -2147483648 ∨ 2147483648 ≤ (10 : Int) * a0) (h3 : a3 = a2 + a1 ∨ a2 + a1 < -2147483648 ∨ 2147483648 ≤ a2 + a1) : 0 ≤ a3 ∧ a3 < ((120 : Nat) : Int) := by omega
theorem z_X11_of_2 (a0 : Int) (a1 : Int) (a2 : Int) (a3 : Int) (h0 : 0 ≤ a0 ∧ a0 ≤ 11) (h1 : 0 ≤ a1 ∧ a1 ≤ 9) (h2 : a2 = (10 : Int) * a0 ∨ (10 : Int) * a0 < -2147483648 ∨ 2147483648 ≤ (10 : Int) * a0) (h3 : a3 = a2 + a1 ∨ a2 + a1 < -2147483648 ∨ 2147483648 ≤ a2 + a1) : a3 = 10 * a0 + a1 := by omega
theorem z_X11_of_3 (a0 : Int) : a0 = a0 := by omega
abbrev rm_X11_of : Room := { frames := 0, cells := 0, slots := 0, locals := 0 }
set_option maxHeartbeats 4000000 in
set_option maxRecDepth 100000 in
theorem c_X11_of (l : Launch) (E : XE) (K : Nat → Nat) (F : Nat → Nat → Nat) (G : XG) (h0 : Heap) (a : Nat) (p0 : Int32) (p1 : Int32) (ha : K a = 13) (e0 : 0 ≤ p0.toInt ∧ p0.toInt ≤ 11) (e1 : 0 ≤ p1.toInt ∧ p1.toInt ≤ 9) : Met l yX11_of (xw yX11_of cX11_of 3 (some .int)) rm_X11_of (va_Pc [.ref a, .int p0, .int p1] (XPh E K F G h0)) (XQ E (fun v (u : Unit) => ∃ r : Int32, v = .int r ∧ (r.toInt = (aI (G.2.1 (F a 10)) (10 * p0.toInt + p1.toInt)))) (fun _ H => H = h0)) 0 0 (xA E) := by
  refine x_enter (by decide) (Nat.le_of_ble_eq_true rfl) ?_
  intro p e s m args below meth c Q S hr hlk hnm hQ hP ls hl
  obtain ⟨⟨hz, hK, hT⟩, hh⟩ := hP
  obtain ⟨hx, hb, -, -, -⟩ := id S
  have hS : va_S (xA E) s.heap s.heap [] := va_S.rf
  have hl : lv_has ls 3 [(0, .ref a), (1, .int p0), (2, .int p1)] := hl
  obtain ⟨hk9999, hj9999⟩ := fkX11_10 hT ha
  refine lv_aload_n hx hb dX11_of_0 rfl (lv_at hl 0 rfl) ?_
  refine gX11_10 S hK hT ha kf_X11_33 dX11_of_1 (fun _ _ => ?_)
  refine lv_bipush (v := 10) hx hb dX11_of_4 (by decide) ?_
  refine lv_iload_n hx hb dX11_of_6 rfl (lv_at hl 1 rfl) ?_
  refine xi_imul hx hb ((by decide) : Int32.toInt 10 = (10 : Int)) (rfl : Int32.toInt p0 = p0.toInt) dX11_of_7 (fun x7 t7 => ?_)
  refine lv_iload_n hx hb dX11_of_8 rfl (lv_at hl 2 rfl) ?_
  refine xi_iadd hx hb (rfl : Int32.toInt x7 = x7.toInt) (rfl : Int32.toInt p1 = p1.toInt) dX11_of_9 (fun x9 t9 => ?_)
  refine al_0 S hK hT hk9999 ar_37 (by decide) (z_X11_of_1 p0.toInt p1.toInt x7.toInt x9.toInt e0 e1 t7 t9) dX11_of_10 (fun x10 hv10 o10 => ?_)
  have hv10 : x10.toInt = (aI (G.2.1 (F a 10)) (10 * p0.toInt + p1.toInt)) := hv10.trans (by rw [((rfl : Int32.toInt x9 = x9.toInt).trans (z_X11_of_2 p0.toInt p1.toInt x7.toInt x9.toInt e0 e1 t7 t9))])
  exact x_ri hx hb hr hlk hQ (Nat.le_of_ble_eq_true rfl) (Nat.le_of_ble_eq_true rfl) hS dX11_of_11 () ⟨_, rfl, (by rw [(hv10 : Int32.toInt x10 = (aI (G.2.1 (F a 10)) (10 * p0.toInt + p1.toInt)))] <;> exact (z_X11_of_3 (aI (G.2.1 (F a 10)) (10 * p0.toInt + p1.toInt))))⟩ hh

theorem z_X11_ofKeys_1 (a0 : Int) (h0 : a0 = (2 : Int)) : ((1 : Int) = 1 ∧ (a0 = 2 ∨ a0 = 4 ∨ a0 = 5)) ∨ ((1 : Int) = 0 ∧ a0 ≠ 2 ∧ a0 ≠ 4 ∧ a0 ≠ 5) := by omega
theorem z_X11_ofKeys_2 (a0 : Int) (h0 : a0 = (4 : Int)) : ((1 : Int) = 1 ∧ (a0 = 2 ∨ a0 = 4 ∨ a0 = 5)) ∨ ((1 : Int) = 0 ∧ a0 ≠ 2 ∧ a0 ≠ 4 ∧ a0 ≠ 5) := by omega
theorem z_X11_ofKeys_3 (a0 : Int) (h0 : ¬ (a0 = (2 : Int))) (h1 : ¬ (a0 = (4 : Int))) (h2 : a0 ≠ (5 : Int)) : ((0 : Int) = 1 ∧ (a0 = 2 ∨ a0 = 4 ∨ a0 = 5)) ∨ ((0 : Int) = 0 ∧ a0 ≠ 2 ∧ a0 ≠ 4 ∧ a0 ≠ 5) := by omega
theorem z_X11_ofKeys_4 (a0 : Int) (h0 : ¬ (a0 ≠ (5 : Int))) : ((1 : Int) = 1 ∧ (a0 = 2 ∨ a0 = 4 ∨ a0 = 5)) ∨ ((1 : Int) = 0 ∧ a0 ≠ 2 ∧ a0 ≠ 4 ∧ a0 ≠ 5) := by omega
abbrev rm_X11_ofKeys : Room := { frames := 0, cells := 0, slots := 0, locals := 0 }
set_option maxHeartbeats 4000000 in
set_option maxRecDepth 100000 in
theorem c_X11_ofKeys (l : Launch) (E : XE) (K : Nat → Nat) (F : Nat → Nat → Nat) (G : XG) (h0 : Heap) (p0 : Int32)  : Met l yX11_ofKeys (xw yX11_ofKeys cX11_ofKeys 1 (some .boolean)) rm_X11_ofKeys (va_Pc [.int p0] (XPh E K F G h0)) (XQ E (fun v (u : Unit) => ∃ r : Int32, v = .int r ∧ (r = 0 ∨ r = 1) ∧ ((r.toInt = 1 ∧ (p0.toInt = 2 ∨ p0.toInt = 4 ∨ p0.toInt = 5)) ∨ (r.toInt = 0 ∧ p0.toInt ≠ 2 ∧ p0.toInt ≠ 4 ∧ p0.toInt ≠ 5))) (fun _ H => H = h0)) 0 0 (xA E) := by
  refine x_enter (by decide) (Nat.le_of_ble_eq_true rfl) ?_
  intro p e s m args below meth c Q S hr hlk hnm hQ hP ls hl
  obtain ⟨⟨hz, hK, hT⟩, hh⟩ := hP
  obtain ⟨hx, hb, -, -, -⟩ := id S
  have hS : va_S (xA E) s.heap s.heap [] := va_S.rf
  have hl : lv_has ls 1 [(0, .int p0)] := hl
  refine lv_iload_n hx hb dX11_ofKeys_0 rfl (lv_at hl 0 rfl) ?_
  refine lv_iconst (v := 2) hx hb dX11_ofKeys_1 (by decide) ?_
  refine xi_ceq (tgt := 15) hx hb (rfl : Int32.toInt p0 = p0.toInt) ((by decide) : Int32.toInt 2 = (2 : Int)) dX11_ofKeys_2 (by decide) (fun c2 => ?_) (fun c2 => ?_)
  · refine lv_iconst (v := 1) hx hb dX11_ofKeys_15 (by decide) ?_
    refine lv_goto (tgt := 20) hx hb dX11_ofKeys_16 (by decide) ?_
    exact x_rz hx hb hr (xnz (Or.inr rfl)) hlk hQ (Nat.le_of_ble_eq_true rfl) (Nat.le_of_ble_eq_true rfl) hS dX11_ofKeys_20 () ⟨_, rfl, (Or.inr rfl), (z_X11_ofKeys_1 p0.toInt c2)⟩ hh
  · refine lv_iload_n hx hb dX11_ofKeys_5 rfl (lv_at hl 0 rfl) ?_
    refine lv_iconst (v := 4) hx hb dX11_ofKeys_6 (by decide) ?_
    refine xi_ceq (tgt := 15) hx hb (rfl : Int32.toInt p0 = p0.toInt) ((by decide) : Int32.toInt 4 = (4 : Int)) dX11_ofKeys_7 (by decide) (fun c7 => ?_) (fun c7 => ?_)
    · refine lv_iconst (v := 1) hx hb dX11_ofKeys_15 (by decide) ?_
      refine lv_goto (tgt := 20) hx hb dX11_ofKeys_16 (by decide) ?_
      exact x_rz hx hb hr (xnz (Or.inr rfl)) hlk hQ (Nat.le_of_ble_eq_true rfl) (Nat.le_of_ble_eq_true rfl) hS dX11_ofKeys_20 () ⟨_, rfl, (Or.inr rfl), (z_X11_ofKeys_2 p0.toInt c7)⟩ hh
    · refine lv_iload_n hx hb dX11_ofKeys_10 rfl (lv_at hl 0 rfl) ?_
      refine lv_iconst (v := 5) hx hb dX11_ofKeys_11 (by decide) ?_
      refine xi_cne (tgt := 19) hx hb (rfl : Int32.toInt p0 = p0.toInt) ((by decide) : Int32.toInt 5 = (5 : Int)) dX11_ofKeys_12 (by decide) (fun c12 => ?_) (fun c12 => ?_)
      · refine lv_iconst (v := 0) hx hb dX11_ofKeys_19 (by decide) ?_
        exact x_rz hx hb hr (xnz (Or.inl rfl)) hlk hQ (Nat.le_of_ble_eq_true rfl) (Nat.le_of_ble_eq_true rfl) hS dX11_ofKeys_20 () ⟨_, rfl, (Or.inl rfl), (z_X11_ofKeys_3 p0.toInt c2 c7 c12)⟩ hh
      · refine lv_iconst (v := 1) hx hb dX11_ofKeys_15 (by decide) ?_
        refine lv_goto (tgt := 20) hx hb dX11_ofKeys_16 (by decide) ?_
        exact x_rz hx hb hr (xnz (Or.inr rfl)) hlk hQ (Nat.le_of_ble_eq_true rfl) (Nat.le_of_ble_eq_true rfl) hS dX11_ofKeys_20 () ⟨_, rfl, (Or.inr rfl), (z_X11_ofKeys_4 p0.toInt c12)⟩ hh

theorem z_X11_firstSubject_2 (a0 : Int) (a1 : Int) (a2 : Int) (a3 : Int) (h0 : ((a1 = 2 ∨ a1 = 4 ∨ a1 = 5) ∧ a2 = 0 ∧ a3 = 29) ∨ (¬ (a1 = 2 ∨ a1 = 4 ∨ a1 = 5) ∧ a2 = -99 ∧ a3 = 99)) (h1 : (a0 = 1 ∧ (a1 = 2 ∨ a1 = 4 ∨ a1 = 5)) ∨ (a0 = 0 ∧ a1 ≠ 2 ∧ a1 ≠ 4 ∧ a1 ≠ 5)) (h2 : a0 = 0) : (-99 : Int) = a2 := by omega
theorem z_X11_firstSubject_3 (a0 : Int) (a1 : Int) (a2 : Int) (a3 : Int) (h0 : ((a1 = 2 ∨ a1 = 4 ∨ a1 = 5) ∧ a2 = 0 ∧ a3 = 29) ∨ (¬ (a1 = 2 ∨ a1 = 4 ∨ a1 = 5) ∧ a2 = -99 ∧ a3 = 99)) (h1 : (a0 = 1 ∧ (a1 = 2 ∨ a1 = 4 ∨ a1 = 5)) ∨ (a0 = 0 ∧ a1 ≠ 2 ∧ a1 ≠ 4 ∧ a1 ≠ 5)) (h2 : ¬ (a0 = 0)) : (0 : Int) = a2 := by omega
abbrev rm_X11_firstSubject : Room := { frames := 1, cells := 0, slots := 0, locals := 22 }
set_option maxHeartbeats 4000000 in
set_option maxRecDepth 100000 in
theorem c_X11_firstSubject (l : Launch) (E : XE) (K : Nat → Nat) (F : Nat → Nat → Nat) (G : XG) (h0 : Heap) (a : Nat) (p0 : Int32) (ha : K a = 13) (e0 : 0 ≤ p0.toInt ∧ p0.toInt ≤ 11) : Met l yX11_firstSubject (xw yX11_firstSubject cX11_firstSubject 2 (some .int)) rm_X11_firstSubject (va_Pc [.ref a, .int p0] (XPh E K F G h0)) (XQ E (fun v (u : Unit) => ∃ r : Int32, v = .int r ∧ (r.toInt = (sF (aI (G.2.1 (F a 10)) (10 * p0.toInt + 0))))) (fun _ H => H = h0)) 0 0 (xA E) := by
  refine x_enter (by decide) (Nat.le_of_ble_eq_true rfl) ?_
  intro p e s m args below meth c Q S hr hlk hnm hQ hP ls hl
  obtain ⟨⟨hz, hK, hT⟩, hh⟩ := hP
  obtain ⟨hx, hb, -, -, -⟩ := id S
  have hS : va_S (xA E) s.heap s.heap [] := va_S.rf
  have hl : lv_has ls 2 [(0, .ref a), (1, .int p0)] := hl
  obtain ⟨hk9999, hj9999⟩ := fkX11_10 hT ha
  have z0 : (((aI (G.2.1 (F a 10)) (10 * p0.toInt + 0)) = 2 ∨ (aI (G.2.1 (F a 10)) (10 * p0.toInt + 0)) = 4 ∨ (aI (G.2.1 (F a 10)) (10 * p0.toInt + 0)) = 5) ∧ (sF (aI (G.2.1 (F a 10)) (10 * p0.toInt + 0))) = 0 ∧ (sL (aI (G.2.1 (F a 10)) (10 * p0.toInt + 0))) = 29) ∨ (¬ ((aI (G.2.1 (F a 10)) (10 * p0.toInt + 0)) = 2 ∨ (aI (G.2.1 (F a 10)) (10 * p0.toInt + 0)) = 4 ∨ (aI (G.2.1 (F a 10)) (10 * p0.toInt + 0)) = 5) ∧ (sF (aI (G.2.1 (F a 10)) (10 * p0.toInt + 0))) = -99 ∧ (sL (aI (G.2.1 (F a 10)) (10 * p0.toInt + 0))) = 99) := sFL _
  refine lv_aload_n hx hb dX11_firstSubject_0 rfl (lv_at hl 0 rfl) ?_
  refine lv_iload_n hx hb dX11_firstSubject_1 rfl (lv_at hl 1 rfl) ?_
  refine lv_iconst (v := 0) hx hb dX11_firstSubject_2 (by decide) ?_
  refine x_clp (x_runV (b := a) (As := [.int p0, .int 0]) (rest := []) S (c_X11_of l E K F G s.heap a p0 0 ha (e0) (by decide)) mv_X11_of km_X11_165 rfl rfl ⟨Nat.le_of_ble_eq_true rfl, Nat.le_of_ble_eq_true rfl⟩ (rc_13 hK hT ha) hK (fun _ => XPh.blind) (fun U hU hW => XPh.at hK hz hS hT hU hW) rfl hl.1 (Nat.le_of_ble_eq_true rfl) dX11_firstSubject_3 ⟨Nat.le_of_ble_eq_true rfl, Nat.le_of_ble_eq_true rfl⟩) hS ?_
  rintro _ _ locs ⟨x3, rfl, t3⟩ hS
  have t3 : x3.toInt = (aI (G.2.1 (F a 10)) (10 * p0.toInt + 0)) := t3
  refine x_clp (x_runS (As := [.int x3]) (rest := []) S (c_X11_ofKeys l E K F G s.heap x3) ms_X11_ofKeys km_X11_168 rfl rfl ⟨Nat.le_of_ble_eq_true rfl, Nat.le_of_ble_eq_true rfl⟩ hK (fun _ => XPh.blind) (fun U hU hW => XPh.at hK hz hS hT hU hW) rfl hl.1 (Nat.le_of_ble_eq_true rfl) dX11_firstSubject_6 ⟨Nat.le_of_ble_eq_true rfl, Nat.le_of_ble_eq_true rfl⟩) hS ?_
  rintro _ _ locs ⟨x6, rfl, b6, t6⟩ hS
  have t6 : (x6.toInt = 1 ∧ ((aI (G.2.1 (F a 10)) (10 * p0.toInt + 0)) = 2 ∨ (aI (G.2.1 (F a 10)) (10 * p0.toInt + 0)) = 4 ∨ (aI (G.2.1 (F a 10)) (10 * p0.toInt + 0)) = 5)) ∨ (x6.toInt = 0 ∧ (aI (G.2.1 (F a 10)) (10 * p0.toInt + 0)) ≠ 2 ∧ (aI (G.2.1 (F a 10)) (10 * p0.toInt + 0)) ≠ 4 ∧ (aI (G.2.1 (F a 10)) (10 * p0.toInt + 0)) ≠ 5) := by rw [(t3 : Int32.toInt x3 = (aI (G.2.1 (F a 10)) (10 * p0.toInt + 0)))] at t6; exact t6
  refine xi_zeq (tgt := 16) hx hb (rfl : Int32.toInt x6 = x6.toInt) dX11_firstSubject_9 (by decide) (fun c9 => ?_) (fun c9 => ?_)
  · refine lv_bipush (v := (-99)) hx hb dX11_firstSubject_16 (by decide) ?_
    exact x_ri hx hb hr hlk hQ (Nat.le_of_ble_eq_true rfl) (Nat.le_of_ble_eq_true rfl) hS dX11_firstSubject_18 () ⟨_, rfl, (by rw [((by decide) : Int32.toInt (-99) = (-99 : Int))] <;> exact (z_X11_firstSubject_2 x6.toInt (aI (G.2.1 (F a 10)) (10 * p0.toInt + 0)) (sF (aI (G.2.1 (F a 10)) (10 * p0.toInt + 0))) (sL (aI (G.2.1 (F a 10)) (10 * p0.toInt + 0))) z0 t6 c9))⟩ hh
  · refine lv_iconst (v := 0) hx hb dX11_firstSubject_12 (by decide) ?_
    refine lv_goto (tgt := 18) hx hb dX11_firstSubject_13 (by decide) ?_
    exact x_ri hx hb hr hlk hQ (Nat.le_of_ble_eq_true rfl) (Nat.le_of_ble_eq_true rfl) hS dX11_firstSubject_18 () ⟨_, rfl, (z_X11_firstSubject_3 x6.toInt (aI (G.2.1 (F a 10)) (10 * p0.toInt + 0)) (sF (aI (G.2.1 (F a 10)) (10 * p0.toInt + 0))) (sL (aI (G.2.1 (F a 10)) (10 * p0.toInt + 0))) z0 t6 c9)⟩ hh

theorem z_X11_lastSubject_2 (a0 : Int) (a1 : Int) (a2 : Int) (a3 : Int) (h0 : ((a1 = 2 ∨ a1 = 4 ∨ a1 = 5) ∧ a2 = 0 ∧ a3 = 29) ∨ (¬ (a1 = 2 ∨ a1 = 4 ∨ a1 = 5) ∧ a2 = -99 ∧ a3 = 99)) (h1 : (a0 = 1 ∧ (a1 = 2 ∨ a1 = 4 ∨ a1 = 5)) ∨ (a0 = 0 ∧ a1 ≠ 2 ∧ a1 ≠ 4 ∧ a1 ≠ 5)) (h2 : a0 = 0) : (99 : Int) = a3 := by omega
theorem z_X11_lastSubject_3 (a0 : Int) (a1 : Int) (a2 : Int) (a3 : Int) (h0 : ((a1 = 2 ∨ a1 = 4 ∨ a1 = 5) ∧ a2 = 0 ∧ a3 = 29) ∨ (¬ (a1 = 2 ∨ a1 = 4 ∨ a1 = 5) ∧ a2 = -99 ∧ a3 = 99)) (h1 : (a0 = 1 ∧ (a1 = 2 ∨ a1 = 4 ∨ a1 = 5)) ∨ (a0 = 0 ∧ a1 ≠ 2 ∧ a1 ≠ 4 ∧ a1 ≠ 5)) (h2 : ¬ (a0 = 0)) : (29 : Int) = a3 := by omega
abbrev rm_X11_lastSubject : Room := { frames := 1, cells := 0, slots := 0, locals := 22 }
set_option maxHeartbeats 4000000 in
set_option maxRecDepth 100000 in
theorem c_X11_lastSubject (l : Launch) (E : XE) (K : Nat → Nat) (F : Nat → Nat → Nat) (G : XG) (h0 : Heap) (a : Nat) (p0 : Int32) (ha : K a = 13) (e0 : 0 ≤ p0.toInt ∧ p0.toInt ≤ 11) : Met l yX11_lastSubject (xw yX11_lastSubject cX11_lastSubject 2 (some .int)) rm_X11_lastSubject (va_Pc [.ref a, .int p0] (XPh E K F G h0)) (XQ E (fun v (u : Unit) => ∃ r : Int32, v = .int r ∧ (r.toInt = (sL (aI (G.2.1 (F a 10)) (10 * p0.toInt + 0))))) (fun _ H => H = h0)) 0 0 (xA E) := by
  refine x_enter (by decide) (Nat.le_of_ble_eq_true rfl) ?_
  intro p e s m args below meth c Q S hr hlk hnm hQ hP ls hl
  obtain ⟨⟨hz, hK, hT⟩, hh⟩ := hP
  obtain ⟨hx, hb, -, -, -⟩ := id S
  have hS : va_S (xA E) s.heap s.heap [] := va_S.rf
  have hl : lv_has ls 2 [(0, .ref a), (1, .int p0)] := hl
  obtain ⟨hk9999, hj9999⟩ := fkX11_10 hT ha
  have z0 : (((aI (G.2.1 (F a 10)) (10 * p0.toInt + 0)) = 2 ∨ (aI (G.2.1 (F a 10)) (10 * p0.toInt + 0)) = 4 ∨ (aI (G.2.1 (F a 10)) (10 * p0.toInt + 0)) = 5) ∧ (sF (aI (G.2.1 (F a 10)) (10 * p0.toInt + 0))) = 0 ∧ (sL (aI (G.2.1 (F a 10)) (10 * p0.toInt + 0))) = 29) ∨ (¬ ((aI (G.2.1 (F a 10)) (10 * p0.toInt + 0)) = 2 ∨ (aI (G.2.1 (F a 10)) (10 * p0.toInt + 0)) = 4 ∨ (aI (G.2.1 (F a 10)) (10 * p0.toInt + 0)) = 5) ∧ (sF (aI (G.2.1 (F a 10)) (10 * p0.toInt + 0))) = -99 ∧ (sL (aI (G.2.1 (F a 10)) (10 * p0.toInt + 0))) = 99) := sFL _
  refine lv_aload_n hx hb dX11_lastSubject_0 rfl (lv_at hl 0 rfl) ?_
  refine lv_iload_n hx hb dX11_lastSubject_1 rfl (lv_at hl 1 rfl) ?_
  refine lv_iconst (v := 0) hx hb dX11_lastSubject_2 (by decide) ?_
  refine x_clp (x_runV (b := a) (As := [.int p0, .int 0]) (rest := []) S (c_X11_of l E K F G s.heap a p0 0 ha (e0) (by decide)) mv_X11_of km_X11_165 rfl rfl ⟨Nat.le_of_ble_eq_true rfl, Nat.le_of_ble_eq_true rfl⟩ (rc_13 hK hT ha) hK (fun _ => XPh.blind) (fun U hU hW => XPh.at hK hz hS hT hU hW) rfl hl.1 (Nat.le_of_ble_eq_true rfl) dX11_lastSubject_3 ⟨Nat.le_of_ble_eq_true rfl, Nat.le_of_ble_eq_true rfl⟩) hS ?_
  rintro _ _ locs ⟨x3, rfl, t3⟩ hS
  have t3 : x3.toInt = (aI (G.2.1 (F a 10)) (10 * p0.toInt + 0)) := t3
  refine x_clp (x_runS (As := [.int x3]) (rest := []) S (c_X11_ofKeys l E K F G s.heap x3) ms_X11_ofKeys km_X11_168 rfl rfl ⟨Nat.le_of_ble_eq_true rfl, Nat.le_of_ble_eq_true rfl⟩ hK (fun _ => XPh.blind) (fun U hU hW => XPh.at hK hz hS hT hU hW) rfl hl.1 (Nat.le_of_ble_eq_true rfl) dX11_lastSubject_6 ⟨Nat.le_of_ble_eq_true rfl, Nat.le_of_ble_eq_true rfl⟩) hS ?_
  rintro _ _ locs ⟨x6, rfl, b6, t6⟩ hS
  have t6 : (x6.toInt = 1 ∧ ((aI (G.2.1 (F a 10)) (10 * p0.toInt + 0)) = 2 ∨ (aI (G.2.1 (F a 10)) (10 * p0.toInt + 0)) = 4 ∨ (aI (G.2.1 (F a 10)) (10 * p0.toInt + 0)) = 5)) ∨ (x6.toInt = 0 ∧ (aI (G.2.1 (F a 10)) (10 * p0.toInt + 0)) ≠ 2 ∧ (aI (G.2.1 (F a 10)) (10 * p0.toInt + 0)) ≠ 4 ∧ (aI (G.2.1 (F a 10)) (10 * p0.toInt + 0)) ≠ 5) := by rw [(t3 : Int32.toInt x3 = (aI (G.2.1 (F a 10)) (10 * p0.toInt + 0)))] at t6; exact t6
  refine xi_zeq (tgt := 17) hx hb (rfl : Int32.toInt x6 = x6.toInt) dX11_lastSubject_9 (by decide) (fun c9 => ?_) (fun c9 => ?_)
  · refine lv_bipush (v := 99) hx hb dX11_lastSubject_17 (by decide) ?_
    exact x_ri hx hb hr hlk hQ (Nat.le_of_ble_eq_true rfl) (Nat.le_of_ble_eq_true rfl) hS dX11_lastSubject_19 () ⟨_, rfl, (z_X11_lastSubject_2 x6.toInt (aI (G.2.1 (F a 10)) (10 * p0.toInt + 0)) (sF (aI (G.2.1 (F a 10)) (10 * p0.toInt + 0))) (sL (aI (G.2.1 (F a 10)) (10 * p0.toInt + 0))) z0 t6 c9)⟩ hh
  · refine lv_bipush (v := 29) hx hb dX11_lastSubject_12 (by decide) ?_
    refine lv_goto (tgt := 19) hx hb dX11_lastSubject_14 (by decide) ?_
    exact x_ri hx hb hr hlk hQ (Nat.le_of_ble_eq_true rfl) (Nat.le_of_ble_eq_true rfl) hS dX11_lastSubject_19 () ⟨_, rfl, (z_X11_lastSubject_3 x6.toInt (aI (G.2.1 (F a 10)) (10 * p0.toInt + 0)) (sF (aI (G.2.1 (F a 10)) (10 * p0.toInt + 0))) (sL (aI (G.2.1 (F a 10)) (10 * p0.toInt + 0))) z0 t6 c9)⟩ hh

theorem z_X11_placeOf_1 (a0 : Int) (a1 : Int) (a2 : Int) (a3 : Int) (a4 : Int) (h0 : 0 ≤ a0 ∧ a0 ≤ 11 ∧ -99 ≤ a1 ∧ a1 ≤ 99) (h1 : a2 = (199 : Int) * a0 ∨ (199 : Int) * a0 < -2147483648 ∨ 2147483648 ≤ (199 : Int) * a0) (h2 : a3 = a2 + a1 ∨ a2 + a1 < -2147483648 ∨ 2147483648 ≤ a2 + a1) (h3 : a4 = a3 + (99 : Int) ∨ a3 + (99 : Int) < -2147483648 ∨ 2147483648 ≤ a3 + (99 : Int)) : a4 = 199 * a0 + a1 + 99 := by omega
abbrev rm_X11_placeOf : Room := { frames := 0, cells := 0, slots := 0, locals := 0 }
set_option maxHeartbeats 4000000 in
set_option maxRecDepth 100000 in
theorem c_X11_placeOf (l : Launch) (E : XE) (K : Nat → Nat) (F : Nat → Nat → Nat) (G : XG) (h0 : Heap) (p0 : Int32) (p1 : Int32) (e0 : 0 ≤ p0.toInt ∧ p0.toInt ≤ 11 ∧ -99 ≤ p1.toInt ∧ p1.toInt ≤ 99) : Met l yX11_placeOf (xw yX11_placeOf cX11_placeOf 2 (some .int)) rm_X11_placeOf (va_Pc [.int p0, .int p1] (XPh E K F G h0)) (XQ E (fun v (u : Unit) => ∃ r : Int32, v = .int r ∧ (r.toInt = 199 * p0.toInt + p1.toInt + 99)) (fun _ H => H = h0)) 0 0 (xA E) := by
  refine x_enter (by decide) (Nat.le_of_ble_eq_true rfl) ?_
  intro p e s m args below meth c Q S hr hlk hnm hQ hP ls hl
  obtain ⟨⟨hz, hK, hT⟩, hh⟩ := hP
  obtain ⟨hx, hb, -, -, -⟩ := id S
  have hS : va_S (xA E) s.heap s.heap [] := va_S.rf
  have hl : lv_has ls 2 [(0, .int p0), (1, .int p1)] := hl
  refine lv_sipush (v := 199) hx hb dX11_placeOf_0 (by decide) ?_
  refine lv_iload_n hx hb dX11_placeOf_3 rfl (lv_at hl 0 rfl) ?_
  refine xi_imul hx hb ((by decide) : Int32.toInt 199 = (199 : Int)) (rfl : Int32.toInt p0 = p0.toInt) dX11_placeOf_4 (fun x4 t4 => ?_)
  refine lv_iload_n hx hb dX11_placeOf_5 rfl (lv_at hl 1 rfl) ?_
  refine xi_iadd hx hb (rfl : Int32.toInt x4 = x4.toInt) (rfl : Int32.toInt p1 = p1.toInt) dX11_placeOf_6 (fun x6 t6 => ?_)
  refine lv_bipush (v := 99) hx hb dX11_placeOf_7 (by decide) ?_
  refine xi_iadd hx hb (rfl : Int32.toInt x6 = x6.toInt) ((by decide) : Int32.toInt 99 = (99 : Int)) dX11_placeOf_9 (fun x9 t9 => ?_)
  exact x_ri hx hb hr hlk hQ (Nat.le_of_ble_eq_true rfl) (Nat.le_of_ble_eq_true rfl) hS dX11_placeOf_10 () ⟨_, rfl, (z_X11_placeOf_1 p0.toInt p1.toInt x4.toInt x6.toInt x9.toInt e0 t4 t6 t9)⟩ hh

theorem z_X11_many_2 (a0 : Int) (h0 : 0 ≤ a0 ∧ a0 ≤ 30) : ¬ (2147483648 - a0 < ((0 : Nat) : Int)) := by omega
theorem z_X11_many_3 (a0 : Int) (a1 : Int) (a2 : Int) (a3 : Int) (h0 : a0 = a2) (h1 : 0 ≤ a1 ∧ a1 ≤ 30) (h2 : (30 : Int) ≤ a1) (h3 : a1 = 30 → a2 = a3) : a0 = a3 := by omega
theorem z_X11_many_5 (a0 : Int) (a1 : Int) (a2 : Int) (h0 : 0 ≤ a1 ∧ a1 ≤ 2) (h1 : 0 ≤ a2 ∧ a2 ≤ 2) (h2 : 0 ≤ a0 ∧ a0 ≤ 30) (h3 : ¬ ((30 : Int) ≤ a0)) : 0 ≤ a1 ∧ a1 < 3 ∧ 0 ≤ a0 ∧ a0 < 30 ∧ 0 ≤ a2 ∧ a2 < 3 := by omega
theorem z_X11_many_6 (a0 : Int) (h0 : -99 ≤ a0) : a0 ≠ -2000 := by omega
theorem z_X11_many_7 (a0 : Int) (a1 : Int) (a2 : Int) (a3 : Int) (a4 : Int) (a5 : Int) (h0 : 0 ≤ a2 ∧ a2 ≤ 2520) (h1 : 0 ≤ a5 ∧ a5 ≤ 2) (h2 : 0 ≤ a0 ∧ a0 ≤ a1) (h3 : ¬ ((30 : Int) ≤ a1)) (h4 : 0 ≤ a5 ∧ a5 ≤ 2 ∧ 0 ≤ a1 ∧ a1 ≤ 29 → a3 = 4 * (30 * a5 + a1)) (h5 : a4 = a2 + a3 ∨ a2 + a3 < -2147483648 ∨ 2147483648 ≤ a2 + a3) : 0 ≤ a4 ∧ a4 < a2 + 360 := by omega
theorem z_X11_many_8 (a0 : Int) (a1 : Int) (a2 : Int) (a3 : Int) (a4 : Int) (a5 : Int) (h0 : 0 ≤ a2 ∧ a2 ≤ 2520) (h1 : 0 ≤ a5 ∧ a5 ≤ 2) (h2 : 0 ≤ a0 ∧ a0 ≤ a1) (h3 : ¬ ((30 : Int) ≤ a1)) (h4 : 0 ≤ a5 ∧ a5 ≤ 2 ∧ 0 ≤ a1 ∧ a1 ≤ 29 → a3 = 4 * (30 * a5 + a1)) (h5 : a4 = a2 + a3 ∨ a2 + a3 < -2147483648 ∨ 2147483648 ≤ a2 + a3) : a4 = a2 + 4 * (30 * a5 + a1) := by omega
theorem z_X11_many_9 (a0 : Int) (a1 : Int) (h0 : a1 = (a0 + (0 : Int)) ∨ (a0 + (0 : Int)) < -2147483648 ∨ 2147483648 ≤ (a0 + (0 : Int))) (h1 : -2147483648 ≤ a0 ∧ a0 < 2147483648) : a1 = (a0 + (0 : Int)) := by omega
theorem z_X11_many_10 (a0 : Int) (a1 : Int) (h0 : 0 ≤ a0 ∧ a0 ≤ 30) (h1 : a1 = (a0 + 1) ∨ (a0 + 1) < -2147483648 ∨ 2147483648 ≤ (a0 + 1)) : a1 = (a0 + 1) := by omega
theorem z_X11_many_11 (a0 : Int) (a1 : Int) (a2 : Int) (a3 : Int) (a4 : Int) (a5 : Int) (h0 : a0 = a5) (h1 : ¬ (a3 = 1 ∧ a2 = a1) → a4 = a5) (h2 : a3 ≠ (1 : Int)) : (a0 + (0 : Int)) = a4 := by omega
theorem z_X11_many_12 (a0 : Int) (h0 : 0 ≤ a0 ∧ a0 ≤ 30) (h1 : ¬ ((30 : Int) ≤ a0)) : 0 ≤ (a0 + 1) ∧ (a0 + 1) ≤ 30 := by omega
theorem z_X11_many_13 (a0 : Int) (a1 : Int) (h0 : 0 ≤ a0 ∧ a0 ≤ a1) : 0 ≤ (a0 + (0 : Int)) ∧ (a0 + (0 : Int)) ≤ (a1 + 1) := by omega
theorem z_X11_many_14 (a0 : Int) (h0 : 0 ≤ a0 ∧ a0 ≤ 30) : (0 : Int) ≤ (a0 + 1) := by omega
theorem z_X11_many_15 (a0 : Int) (a1 : Nat) (h0 : 2147483648 - a0 < ((a1 + 1 : Nat) : Int)) : 2147483648 - (a0 + 1) < ((a1 : Nat) : Int) := by omega
theorem z_X11_many_17 (a0 : Int) (a1 : Int) (a2 : Int) (a3 : Int) (a4 : Int) (a5 : Int) (a6 : Int) (a7 : Int) (h0 : 0 ≤ a1 ∧ a1 ≤ 2520) (h1 : 0 ≤ a6 ∧ a6 ≤ 2) (h2 : 0 ≤ a7 ∧ a7 ≤ 2) (h3 : 0 ≤ a0 ∧ a0 ≤ 30) (h4 : ¬ ((30 : Int) ≤ a0)) (h5 : 0 ≤ a6 ∧ a6 ≤ 2 ∧ 0 ≤ a0 ∧ a0 ≤ 29 → a2 = 4 * (30 * a6 + a0)) (h6 : a3 = a1 + a2 ∨ a1 + a2 < -2147483648 ∨ 2147483648 ≤ a1 + a2) (h7 : a4 = a3 + (1 : Int) ∨ a3 + (1 : Int) < -2147483648 ∨ 2147483648 ≤ a3 + (1 : Int)) (h8 : a5 = a4 + a7 ∨ a4 + a7 < -2147483648 ∨ 2147483648 ≤ a4 + a7) : 0 ≤ a5 ∧ a5 < a1 + 360 := by omega
theorem z_X11_many_18 (a0 : Int) (a1 : Int) (a2 : Int) (a3 : Int) (a4 : Int) (a5 : Int) (a6 : Int) (a7 : Int) (h0 : 0 ≤ a1 ∧ a1 ≤ 2520) (h1 : 0 ≤ a6 ∧ a6 ≤ 2) (h2 : 0 ≤ a7 ∧ a7 ≤ 2) (h3 : 0 ≤ a0 ∧ a0 ≤ 30) (h4 : ¬ ((30 : Int) ≤ a0)) (h5 : 0 ≤ a6 ∧ a6 ≤ 2 ∧ 0 ≤ a0 ∧ a0 ≤ 29 → a2 = 4 * (30 * a6 + a0)) (h6 : a3 = a1 + a2 ∨ a1 + a2 < -2147483648 ∨ 2147483648 ≤ a1 + a2) (h7 : a4 = a3 + (1 : Int) ∨ a3 + (1 : Int) < -2147483648 ∨ 2147483648 ≤ a3 + (1 : Int)) (h8 : a5 = a4 + a7 ∨ a4 + a7 < -2147483648 ∨ 2147483648 ≤ a4 + a7) : a5 = a1 + 4 * (30 * a6 + a0) + 1 + a7 := by omega
theorem z_X11_many_21 (a0 : Int) (a1 : Int) (a2 : Int) (a3 : Int) (a4 : Int) (a5 : Int) (h0 : a0 = a5) (h1 : ¬ (a3 = 1 ∧ a2 = a1) → a4 = a5) (h2 : a2 ≠ a1) : (a0 + (0 : Int)) = a4 := by omega
theorem z_X11_many_26 (a0 : Int) (a1 : Int) (a2 : Int) (h0 : 0 ≤ a0 ∧ a0 ≤ a1) (h1 : ¬ ((30 : Int) ≤ a1)) (h2 : a2 = (a0 + (1 : Int)) ∨ (a0 + (1 : Int)) < -2147483648 ∨ 2147483648 ≤ (a0 + (1 : Int))) : a2 = (a0 + (1 : Int)) := by omega
theorem z_X11_many_28 (a0 : Int) (a1 : Int) (a2 : Int) (a3 : Int) (a4 : Int) (a5 : Int) (h0 : a0 = a5) (h1 : a3 = 1 ∧ a2 = a1 → a4 = a5 + 1) (h2 : ¬ (a3 ≠ (1 : Int))) (h3 : ¬ (a2 ≠ a1)) : (a0 + (1 : Int)) = a4 := by omega
theorem z_X11_many_30 (a0 : Int) (a1 : Int) (h0 : 0 ≤ a0 ∧ a0 ≤ a1) : 0 ≤ (a0 + (1 : Int)) ∧ (a0 + (1 : Int)) ≤ (a1 + 1) := by omega
theorem z_X11_many_33 (a0 : Int) (h0 : a0 = 0) : (0 : Int) = a0 := by omega
abbrev rm_X11_many : Room := { frames := 1, cells := 0, slots := 0, locals := 22 }
set_option maxHeartbeats 4000000 in
set_option maxRecDepth 100000 in
theorem c_X11_many (l : Launch) (E : XE) (K : Nat → Nat) (F : Nat → Nat → Nat) (G : XG) (h0 : Heap) (a : Nat) (p0 : Int32) (p1 : Nat) (p2 : Int32) (p3 : Int32) (ha : K a = 13) (hp1 : XO K p1 p2.toInt) (e0 : 0 ≤ p0.toInt ∧ p0.toInt ≤ 11) (e1 : -99 ≤ p3.toInt) (hR : RV (G.2.1 (F a 10))) : Met l yX11_many (xw yX11_many cX11_many 8 (some .int)) rm_X11_many (va_Pc [.ref a, .int p0, .ref p1, .int p2, .int p3] (XPh E K F G h0)) (XQ E (fun v (u : Unit) => ∃ r : Int32, v = .int r ∧ (r.toInt = (hv (mw (G.2.1 p1) (p2.toInt)) (90 * (aI (G.2.1 (F a 10)) (10 * p0.toInt + 1)) + 30 * (aI (G.2.1 (F a 10)) (10 * p0.toInt + 2))) (p3.toInt) 30))) (fun _ H => H = h0)) 0 0 (xA E) := by
  refine x_enter (by decide) (Nat.le_of_ble_eq_true rfl) ?_
  intro p e s m args below meth c Q S hr hlk hnm hQ hP ls hl
  obtain ⟨⟨hz, hK, hT⟩, hh⟩ := hP
  obtain ⟨hx, hb, -, -, -⟩ := id S
  have hS : va_S (xA E) s.heap s.heap [] := va_S.rf
  have hl : lv_has ls 8 [(0, .ref a), (1, .int p0), (2, .ref p1), (3, .int p2), (4, .int p3)] := hl
  obtain ⟨hk9999, hj9999⟩ := fkX11_10 hT ha
  have z0 : (-1 ≤ (aI (G.2.1 (F a 10)) (10 * p0.toInt + 0)) ∧ (aI (G.2.1 (F a 10)) (10 * p0.toInt + 0)) ≤ 5) ∧ (0 ≤ (aI (G.2.1 (F a 10)) (10 * p0.toInt + 1)) ∧ (aI (G.2.1 (F a 10)) (10 * p0.toInt + 1)) ≤ 2) ∧ (0 ≤ (aI (G.2.1 (F a 10)) (10 * p0.toInt + 2)) ∧ (aI (G.2.1 (F a 10)) (10 * p0.toInt + 2)) ≤ 2) ∧ (-1 ≤ (aI (G.2.1 (F a 10)) (10 * p0.toInt + 3)) ∧ (aI (G.2.1 (F a 10)) (10 * p0.toInt + 3)) ≤ 2) ∧ ((aI (G.2.1 (F a 10)) (10 * p0.toInt + 0)) = 1 ∨ (aI (G.2.1 (F a 10)) (10 * p0.toInt + 0)) = 3 ∨ (aI (G.2.1 (F a 10)) (10 * p0.toInt + 0)) = 4 → 0 ≤ (aI (G.2.1 (F a 10)) (10 * p0.toInt + 3))) := RV.row hR (e0)
  have z0a : (hv (mw (G.2.1 p1) (p2.toInt)) (90 * (aI (G.2.1 (F a 10)) (10 * p0.toInt + 1)) + 30 * (aI (G.2.1 (F a 10)) (10 * p0.toInt + 2))) (p3.toInt) 0) = 0 := hv_0 _ _ _
  refine lv_iconst (v := 0) hx hb dX11_many_0 (by decide) ?_
  refine lv_istore (lv' := [(5, .int 0), (0, .ref a), (1, .int p0), (2, .ref p1), (3, .int p2), (4, .int p3)]) hx hb dX11_many_1 hl (by decide) rfl (fun ls hl => ?_)
  refine lv_iconst (v := 0) hx hb dX11_many_3 (by decide) ?_
  refine lv_istore (lv' := [(6, .int 0), (5, .int 0), (0, .ref a), (1, .int p0), (2, .ref p1), (3, .int p2), (4, .int p3)]) hx hb dX11_many_4 hl (by decide) rfl (fun ls hl => ?_)
  have L6 : ∀ (N6 : Nat) (l5_6 : Int32) (l6_6 : Int32) (locs : List Loc) (ls : Array Slot), l5_6.toInt = (hv (mw (G.2.1 p1) (p2.toInt)) (90 * (aI (G.2.1 (F a 10)) (10 * p0.toInt + 1)) + 30 * (aI (G.2.1 (F a 10)) (10 * p0.toInt + 2))) (p3.toInt) (l6_6.toInt)) → 0 ≤ l6_6.toInt ∧ l6_6.toInt ≤ 30 → 0 ≤ l5_6.toInt ∧ l5_6.toInt ≤ l6_6.toInt → (0 : Int) ≤ l6_6.toInt → 2147483648 - l6_6.toInt < ((N6 : Nat) : Int) → TW E K F G s.heap → va_S (xA E) s.heap s.heap locs → lv_has ls 8 [(0, .ref a), (1, .int p0), (2, .ref p1), (3, .int p2), (4, .int p3), (5, .int l5_6), (6, .int l6_6)] → W p l e rm_X11_many s m args below meth c s.heap locs 0 0 Q (F0 m 6 ls []) := by
    intro N6
    induction N6 with
    | zero =>
      intro l5_6 l6_6 locs ls I6_0 I6_1 I6_2 I6_3 hm6
      exact absurd hm6 (z_X11_many_2 l6_6.toInt I6_1)
    | succ N6 ih6 =>
      intro l5_6 l6_6 locs ls I6_0 I6_1 I6_2 I6_3 hm6 hT hS hl
      refine lv_iload hx hb dX11_many_6 (lv_at hl 6 rfl) ?_
      refine lv_bipush (v := 30) hx hb dX11_many_8 (by decide) ?_
      refine xi_cge (tgt := 70) hx hb (rfl : Int32.toInt l6_6 = l6_6.toInt) ((by decide) : Int32.toInt 30 = (30 : Int)) dX11_many_10 (by decide) (fun c10 => ?_) (fun c10 => ?_)
      · have z70 : l6_6.toInt = 30 → (hv (mw (G.2.1 p1) (p2.toInt)) (90 * (aI (G.2.1 (F a 10)) (10 * p0.toInt + 1)) + 30 * (aI (G.2.1 (F a 10)) (10 * p0.toInt + 2))) (p3.toInt) (l6_6.toInt)) = (hv (mw (G.2.1 p1) (p2.toInt)) (90 * (aI (G.2.1 (F a 10)) (10 * p0.toInt + 1)) + 30 * (aI (G.2.1 (F a 10)) (10 * p0.toInt + 2))) (p3.toInt) 30) := fun h9 => by rw [h9]
        refine lv_iload hx hb dX11_many_70 (lv_at hl 5 rfl) ?_
        exact x_ri hx hb hr hlk hQ (Nat.le_of_ble_eq_true rfl) (Nat.le_of_ble_eq_true rfl) hS dX11_many_72 () ⟨_, rfl, (z_X11_many_3 l5_6.toInt l6_6.toInt (hv (mw (G.2.1 p1) (p2.toInt)) (90 * (aI (G.2.1 (F a 10)) (10 * p0.toInt + 1)) + 30 * (aI (G.2.1 (F a 10)) (10 * p0.toInt + 2))) (p3.toInt) (l6_6.toInt)) (hv (mw (G.2.1 p1) (p2.toInt)) (90 * (aI (G.2.1 (F a 10)) (10 * p0.toInt + 1)) + 30 * (aI (G.2.1 (F a 10)) (10 * p0.toInt + 2))) (p3.toInt) 30) I6_0 I6_1 c10 z70)⟩ hh
      · refine lv_iload_n hx hb dX11_many_13 rfl (lv_at hl 3 rfl) ?_
        refine lv_aload_n hx hb dX11_many_14 rfl (lv_at hl 0 rfl) ?_
        refine lv_iload_n hx hb dX11_many_15 rfl (lv_at hl 1 rfl) ?_
        refine lv_iconst (v := 1) hx hb dX11_many_16 (by decide) ?_
        refine x_clp (x_runV (b := a) (As := [.int p0, .int 1]) (rest := [.int p2]) S (c_X11_of l E K F G s.heap a p0 1 ha (e0) (by decide)) mv_X11_of km_X11_165 rfl rfl ⟨Nat.le_of_ble_eq_true rfl, Nat.le_of_ble_eq_true rfl⟩ (rc_13 hK hT ha) hK (fun _ => XPh.blind) (fun U hU hW => XPh.at hK hz hS hT hU hW) rfl hl.1 (Nat.le_of_ble_eq_true rfl) dX11_many_17 ⟨Nat.le_of_ble_eq_true rfl, Nat.le_of_ble_eq_true rfl⟩) hS ?_
        rintro _ _ locs ⟨x17, rfl, t17⟩ hS
        have t17 : x17.toInt = (aI (G.2.1 (F a 10)) (10 * p0.toInt + 1)) := t17
        refine lv_iload hx hb dX11_many_20 (lv_at hl 6 rfl) ?_
        refine x_clp (x_runS (As := [.int x17, .int l6_6]) (rest := [.int p2]) S (c_X11_at l E K F G s.heap x17 l6_6) ms_X11_at km_X11_156 rfl rfl ⟨Nat.le_of_ble_eq_true rfl, Nat.le_of_ble_eq_true rfl⟩ hK (fun _ => XPh.blind) (fun U hU hW => XPh.at hK hz hS hT hU hW) rfl hl.1 (Nat.le_of_ble_eq_true rfl) dX11_many_22 ⟨Nat.le_of_ble_eq_true rfl, Nat.le_of_ble_eq_true rfl⟩) hS ?_
        rintro _ _ locs ⟨x22, rfl, t22⟩ hS
        have t22 : 0 ≤ (aI (G.2.1 (F a 10)) (10 * p0.toInt + 1)) ∧ (aI (G.2.1 (F a 10)) (10 * p0.toInt + 1)) ≤ 2 ∧ 0 ≤ l6_6.toInt ∧ l6_6.toInt ≤ 29 → x22.toInt = 4 * (30 * (aI (G.2.1 (F a 10)) (10 * p0.toInt + 1)) + l6_6.toInt) := by rw [(t17 : Int32.toInt x17 = (aI (G.2.1 (F a 10)) (10 * p0.toInt + 1)))] at t22; exact t22
        refine xi_iadd hx hb (rfl : Int32.toInt p2 = p2.toInt) (rfl : Int32.toInt x22 = x22.toInt) dX11_many_25 (fun x25 t25 => ?_)
        refine lv_istore (lv' := [(7, .int x25), (0, .ref a), (1, .int p0), (2, .ref p1), (3, .int p2), (4, .int p3), (5, .int l5_6), (6, .int l6_6)]) hx hb dX11_many_26 hl (by decide) rfl (fun ls hl => ?_)
        have z28 : ((aI (G.2.1 p1) (p2.toInt + 4 * (30 * (aI (G.2.1 (F a 10)) (10 * p0.toInt + 1)) + l6_6.toInt))) = 1 ∧ (aI (G.2.1 p1) (p2.toInt + 4 * (30 * (aI (G.2.1 (F a 10)) (10 * p0.toInt + 1)) + l6_6.toInt) + 1 + (aI (G.2.1 (F a 10)) (10 * p0.toInt + 2)))) = p3.toInt → (hv (mw (G.2.1 p1) (p2.toInt)) (90 * (aI (G.2.1 (F a 10)) (10 * p0.toInt + 1)) + 30 * (aI (G.2.1 (F a 10)) (10 * p0.toInt + 2))) (p3.toInt) (l6_6.toInt + 1)) = (hv (mw (G.2.1 p1) (p2.toInt)) (90 * (aI (G.2.1 (F a 10)) (10 * p0.toInt + 1)) + 30 * (aI (G.2.1 (F a 10)) (10 * p0.toInt + 2))) (p3.toInt) (l6_6.toInt)) + 1) ∧ (¬ ((aI (G.2.1 p1) (p2.toInt + 4 * (30 * (aI (G.2.1 (F a 10)) (10 * p0.toInt + 1)) + l6_6.toInt))) = 1 ∧ (aI (G.2.1 p1) (p2.toInt + 4 * (30 * (aI (G.2.1 (F a 10)) (10 * p0.toInt + 1)) + l6_6.toInt) + 1 + (aI (G.2.1 (F a 10)) (10 * p0.toInt + 2)))) = p3.toInt) → (hv (mw (G.2.1 p1) (p2.toInt)) (90 * (aI (G.2.1 (F a 10)) (10 * p0.toInt + 1)) + 30 * (aI (G.2.1 (F a 10)) (10 * p0.toInt + 2))) (p3.toInt) (l6_6.toInt + 1)) = (hv (mw (G.2.1 p1) (p2.toInt)) (90 * (aI (G.2.1 (F a 10)) (10 * p0.toInt + 1)) + 30 * (aI (G.2.1 (F a 10)) (10 * p0.toInt + 2))) (p3.toInt) (l6_6.toInt))) := hv_mw (z_X11_many_5 l6_6.toInt (aI (G.2.1 (F a 10)) (10 * p0.toInt + 1)) (aI (G.2.1 (F a 10)) (10 * p0.toInt + 2)) (z0).2.1 (z0).2.2.1 I6_1 c10) (z_X11_many_6 p3.toInt e1) rfl rfl
        refine lv_iload hx hb dX11_many_28 (lv_at hl 6 rfl) ?_
        refine lv_aload_n hx hb dX11_many_30 rfl (lv_at hl 3 rfl) ?_
        refine lv_iload hx hb dX11_many_31 (lv_at hl 0 rfl) ?_
        refine ald_of S hK hT hp1 (z_X11_many_7 l5_6.toInt l6_6.toInt p2.toInt x22.toInt x25.toInt (aI (G.2.1 (F a 10)) (10 * p0.toInt + 1)) (XO.lim hp1) (z0).2.1 I6_2 c10 t22 t25) dX11_many_33 (fun x33 hv33 => ?_)
        have hv33 : x33.toInt = (aI (G.2.1 p1) (p2.toInt + 4 * (30 * (aI (G.2.1 (F a 10)) (10 * p0.toInt + 1)) + l6_6.toInt))) := hv33.trans (by rw [((rfl : Int32.toInt x25 = x25.toInt).trans (z_X11_many_8 l5_6.toInt l6_6.toInt p2.toInt x22.toInt x25.toInt (aI (G.2.1 (F a 10)) (10 * p0.toInt + 1)) (XO.lim hp1) (z0).2.1 I6_2 c10 t22 t25))])
        refine lv_iconst (v := 1) hx hb dX11_many_34 (by decide) ?_
        refine xi_cne (tgt := 60) hx hb (hv33 : Int32.toInt x33 = (aI (G.2.1 p1) (p2.toInt + 4 * (30 * (aI (G.2.1 (F a 10)) (10 * p0.toInt + 1)) + l6_6.toInt)))) ((by decide) : Int32.toInt 1 = (1 : Int)) dX11_many_35 (by decide) (fun c35 => ?_) (fun c35 => ?_)
        · refine lv_iconst (v := 0) hx hb dX11_many_60 (by decide) ?_
          refine xi_iadd hx hb (rfl : Int32.toInt l5_6 = l5_6.toInt) ((by decide) : Int32.toInt 0 = (0 : Int)) dX11_many_61 (fun x61 t61 => ?_)
          have e61 : x61.toInt = (l5_6.toInt + (0 : Int)) := (z_X11_many_9 l5_6.toInt x61.toInt t61 (xr l5_6))
          refine lv_istore (lv' := [(5, .int x61), (7, .int x25), (0, .ref a), (1, .int p0), (2, .ref p1), (3, .int p2), (4, .int p3), (6, .int l6_6)]) hx hb dX11_many_62 hl (by decide) rfl (fun ls hl => ?_)
          refine xi_iinc (n := 1) (lv' := fun z9 => [(6, .int z9), (5, .int x61), (7, .int x25), (0, .ref a), (1, .int p0), (2, .ref p1), (3, .int p2), (4, .int p3)]) (k := 7) hx hb (rfl : Int32.toInt l6_6 = l6_6.toInt) (by decide) dX11_many_64 hl rfl (by decide) (fun _ => rfl) (fun x64 ls t64 hl => ?_)
          have e64 : x64.toInt = (l6_6.toInt + 1) := (z_X11_many_10 l6_6.toInt x64.toInt I6_1 t64)
          have hl : lv_has ls 8 [(6, .int x64), (5, .int x61), (7, .int x25), (0, .ref a), (1, .int p0), (2, .ref p1), (3, .int p2), (4, .int p3)] := hl
          refine lv_goto (tgt := 6) hx hb dX11_many_67 (by decide) ?_
          exact ih6 x61 x64 _ _ (by rw [(e61 : Int32.toInt x61 = (l5_6.toInt + (0 : Int))), (e64 : Int32.toInt x64 = (l6_6.toInt + 1))] <;> exact (z_X11_many_11 l5_6.toInt p3.toInt (aI (G.2.1 p1) (p2.toInt + 4 * (30 * (aI (G.2.1 (F a 10)) (10 * p0.toInt + 1)) + l6_6.toInt) + 1 + (aI (G.2.1 (F a 10)) (10 * p0.toInt + 2)))) (aI (G.2.1 p1) (p2.toInt + 4 * (30 * (aI (G.2.1 (F a 10)) (10 * p0.toInt + 1)) + l6_6.toInt))) (hv (mw (G.2.1 p1) (p2.toInt)) (90 * (aI (G.2.1 (F a 10)) (10 * p0.toInt + 1)) + 30 * (aI (G.2.1 (F a 10)) (10 * p0.toInt + 2))) (p3.toInt) (l6_6.toInt + 1)) (hv (mw (G.2.1 p1) (p2.toInt)) (90 * (aI (G.2.1 (F a 10)) (10 * p0.toInt + 1)) + 30 * (aI (G.2.1 (F a 10)) (10 * p0.toInt + 2))) (p3.toInt) (l6_6.toInt)) I6_0 (z28).2 c35)) (by rw [(e64 : Int32.toInt x64 = (l6_6.toInt + 1))] <;> exact (z_X11_many_12 l6_6.toInt I6_1 c10)) (by rw [(e61 : Int32.toInt x61 = (l5_6.toInt + (0 : Int))), (e64 : Int32.toInt x64 = (l6_6.toInt + 1))] <;> exact (z_X11_many_13 l5_6.toInt l6_6.toInt I6_2)) (by rw [(e64 : Int32.toInt x64 = (l6_6.toInt + 1))] <;> exact (z_X11_many_14 l6_6.toInt I6_1)) (by rw [(e64 : Int32.toInt x64 = (l6_6.toInt + 1))] <;> exact (z_X11_many_15 l6_6.toInt N6 hm6)) hT hS (lv_sub hl [3, 4, 5, 6, 7, 1, 0] rfl)
        · refine lv_aload_n hx hb dX11_many_38 rfl (lv_at hl 3 rfl) ?_
          refine lv_iload hx hb dX11_many_39 (lv_at hl 0 rfl) ?_
          refine lv_iconst (v := 1) hx hb dX11_many_41 (by decide) ?_
          refine xi_iadd hx hb (rfl : Int32.toInt x25 = x25.toInt) ((by decide) : Int32.toInt 1 = (1 : Int)) dX11_many_42 (fun x42 t42 => ?_)
          refine lv_aload_n hx hb dX11_many_43 rfl (lv_at hl 1 rfl) ?_
          refine lv_iload_n hx hb dX11_many_44 rfl (lv_at hl 2 rfl) ?_
          refine lv_iconst (v := 2) hx hb dX11_many_45 (by decide) ?_
          refine x_clp (x_runV (b := a) (As := [.int p0, .int 2]) (rest := [.int x42, .ref p1, .int l5_6]) S (c_X11_of l E K F G s.heap a p0 2 ha (e0) (by decide)) mv_X11_of km_X11_165 rfl rfl ⟨Nat.le_of_ble_eq_true rfl, Nat.le_of_ble_eq_true rfl⟩ (rc_13 hK hT ha) hK (fun _ => XPh.blind) (fun U hU hW => XPh.at hK hz hS hT hU hW) rfl hl.1 (Nat.le_of_ble_eq_true rfl) dX11_many_46 ⟨Nat.le_of_ble_eq_true rfl, Nat.le_of_ble_eq_true rfl⟩) hS ?_
          rintro _ _ locs ⟨x46, rfl, t46⟩ hS
          have t46 : x46.toInt = (aI (G.2.1 (F a 10)) (10 * p0.toInt + 2)) := t46
          refine xi_iadd hx hb (rfl : Int32.toInt x42 = x42.toInt) (t46 : Int32.toInt x46 = (aI (G.2.1 (F a 10)) (10 * p0.toInt + 2))) dX11_many_49 (fun x49 t49 => ?_)
          refine ald_of S hK hT hp1 (z_X11_many_17 l6_6.toInt p2.toInt x22.toInt x25.toInt x42.toInt x49.toInt (aI (G.2.1 (F a 10)) (10 * p0.toInt + 1)) (aI (G.2.1 (F a 10)) (10 * p0.toInt + 2)) (XO.lim hp1) (z0).2.1 (z0).2.2.1 I6_1 c10 t22 t25 t42 t49) dX11_many_50 (fun x50 hv50 => ?_)
          have hv50 : x50.toInt = (aI (G.2.1 p1) (p2.toInt + 4 * (30 * (aI (G.2.1 (F a 10)) (10 * p0.toInt + 1)) + l6_6.toInt) + 1 + (aI (G.2.1 (F a 10)) (10 * p0.toInt + 2)))) := hv50.trans (by rw [((rfl : Int32.toInt x49 = x49.toInt).trans (z_X11_many_18 l6_6.toInt p2.toInt x22.toInt x25.toInt x42.toInt x49.toInt (aI (G.2.1 (F a 10)) (10 * p0.toInt + 1)) (aI (G.2.1 (F a 10)) (10 * p0.toInt + 2)) (XO.lim hp1) (z0).2.1 (z0).2.2.1 I6_1 c10 t22 t25 t42 t49))])
          refine lv_iload hx hb dX11_many_51 (lv_at hl 5 rfl) ?_
          refine xi_cne (tgt := 60) hx hb (hv50 : Int32.toInt x50 = (aI (G.2.1 p1) (p2.toInt + 4 * (30 * (aI (G.2.1 (F a 10)) (10 * p0.toInt + 1)) + l6_6.toInt) + 1 + (aI (G.2.1 (F a 10)) (10 * p0.toInt + 2))))) (rfl : Int32.toInt p3 = p3.toInt) dX11_many_53 (by decide) (fun c53 => ?_) (fun c53 => ?_)
          · refine lv_iconst (v := 0) hx hb dX11_many_60 (by decide) ?_
            refine xi_iadd hx hb (rfl : Int32.toInt l5_6 = l5_6.toInt) ((by decide) : Int32.toInt 0 = (0 : Int)) dX11_many_61 (fun x61 t61 => ?_)
            have e61 : x61.toInt = (l5_6.toInt + (0 : Int)) := (z_X11_many_9 l5_6.toInt x61.toInt t61 (xr l5_6))
            refine lv_istore (lv' := [(5, .int x61), (7, .int x25), (0, .ref a), (1, .int p0), (2, .ref p1), (3, .int p2), (4, .int p3), (6, .int l6_6)]) hx hb dX11_many_62 hl (by decide) rfl (fun ls hl => ?_)
            refine xi_iinc (n := 1) (lv' := fun z9 => [(6, .int z9), (5, .int x61), (7, .int x25), (0, .ref a), (1, .int p0), (2, .ref p1), (3, .int p2), (4, .int p3)]) (k := 7) hx hb (rfl : Int32.toInt l6_6 = l6_6.toInt) (by decide) dX11_many_64 hl rfl (by decide) (fun _ => rfl) (fun x64 ls t64 hl => ?_)
            have e64 : x64.toInt = (l6_6.toInt + 1) := (z_X11_many_10 l6_6.toInt x64.toInt I6_1 t64)
            have hl : lv_has ls 8 [(6, .int x64), (5, .int x61), (7, .int x25), (0, .ref a), (1, .int p0), (2, .ref p1), (3, .int p2), (4, .int p3)] := hl
            refine lv_goto (tgt := 6) hx hb dX11_many_67 (by decide) ?_
            exact ih6 x61 x64 _ _ (by rw [(e61 : Int32.toInt x61 = (l5_6.toInt + (0 : Int))), (e64 : Int32.toInt x64 = (l6_6.toInt + 1))] <;> exact (z_X11_many_21 l5_6.toInt p3.toInt (aI (G.2.1 p1) (p2.toInt + 4 * (30 * (aI (G.2.1 (F a 10)) (10 * p0.toInt + 1)) + l6_6.toInt) + 1 + (aI (G.2.1 (F a 10)) (10 * p0.toInt + 2)))) (aI (G.2.1 p1) (p2.toInt + 4 * (30 * (aI (G.2.1 (F a 10)) (10 * p0.toInt + 1)) + l6_6.toInt))) (hv (mw (G.2.1 p1) (p2.toInt)) (90 * (aI (G.2.1 (F a 10)) (10 * p0.toInt + 1)) + 30 * (aI (G.2.1 (F a 10)) (10 * p0.toInt + 2))) (p3.toInt) (l6_6.toInt + 1)) (hv (mw (G.2.1 p1) (p2.toInt)) (90 * (aI (G.2.1 (F a 10)) (10 * p0.toInt + 1)) + 30 * (aI (G.2.1 (F a 10)) (10 * p0.toInt + 2))) (p3.toInt) (l6_6.toInt)) I6_0 (z28).2 c53)) (by rw [(e64 : Int32.toInt x64 = (l6_6.toInt + 1))] <;> exact (z_X11_many_12 l6_6.toInt I6_1 c10)) (by rw [(e61 : Int32.toInt x61 = (l5_6.toInt + (0 : Int))), (e64 : Int32.toInt x64 = (l6_6.toInt + 1))] <;> exact (z_X11_many_13 l5_6.toInt l6_6.toInt I6_2)) (by rw [(e64 : Int32.toInt x64 = (l6_6.toInt + 1))] <;> exact (z_X11_many_14 l6_6.toInt I6_1)) (by rw [(e64 : Int32.toInt x64 = (l6_6.toInt + 1))] <;> exact (z_X11_many_15 l6_6.toInt N6 hm6)) hT hS (lv_sub hl [3, 4, 5, 6, 7, 1, 0] rfl)
          · refine lv_iconst (v := 1) hx hb dX11_many_56 (by decide) ?_
            refine lv_goto (tgt := 61) hx hb dX11_many_57 (by decide) ?_
            refine xi_iadd hx hb (rfl : Int32.toInt l5_6 = l5_6.toInt) ((by decide) : Int32.toInt 1 = (1 : Int)) dX11_many_61 (fun x61 t61 => ?_)
            have e61 : x61.toInt = (l5_6.toInt + (1 : Int)) := (z_X11_many_26 l5_6.toInt l6_6.toInt x61.toInt I6_2 c10 t61)
            refine lv_istore (lv' := [(5, .int x61), (7, .int x25), (0, .ref a), (1, .int p0), (2, .ref p1), (3, .int p2), (4, .int p3), (6, .int l6_6)]) hx hb dX11_many_62 hl (by decide) rfl (fun ls hl => ?_)
            refine xi_iinc (n := 1) (lv' := fun z9 => [(6, .int z9), (5, .int x61), (7, .int x25), (0, .ref a), (1, .int p0), (2, .ref p1), (3, .int p2), (4, .int p3)]) (k := 7) hx hb (rfl : Int32.toInt l6_6 = l6_6.toInt) (by decide) dX11_many_64 hl rfl (by decide) (fun _ => rfl) (fun x64 ls t64 hl => ?_)
            have e64 : x64.toInt = (l6_6.toInt + 1) := (z_X11_many_10 l6_6.toInt x64.toInt I6_1 t64)
            have hl : lv_has ls 8 [(6, .int x64), (5, .int x61), (7, .int x25), (0, .ref a), (1, .int p0), (2, .ref p1), (3, .int p2), (4, .int p3)] := hl
            refine lv_goto (tgt := 6) hx hb dX11_many_67 (by decide) ?_
            exact ih6 x61 x64 _ _ (by rw [(e61 : Int32.toInt x61 = (l5_6.toInt + (1 : Int))), (e64 : Int32.toInt x64 = (l6_6.toInt + 1))] <;> exact (z_X11_many_28 l5_6.toInt p3.toInt (aI (G.2.1 p1) (p2.toInt + 4 * (30 * (aI (G.2.1 (F a 10)) (10 * p0.toInt + 1)) + l6_6.toInt) + 1 + (aI (G.2.1 (F a 10)) (10 * p0.toInt + 2)))) (aI (G.2.1 p1) (p2.toInt + 4 * (30 * (aI (G.2.1 (F a 10)) (10 * p0.toInt + 1)) + l6_6.toInt))) (hv (mw (G.2.1 p1) (p2.toInt)) (90 * (aI (G.2.1 (F a 10)) (10 * p0.toInt + 1)) + 30 * (aI (G.2.1 (F a 10)) (10 * p0.toInt + 2))) (p3.toInt) (l6_6.toInt + 1)) (hv (mw (G.2.1 p1) (p2.toInt)) (90 * (aI (G.2.1 (F a 10)) (10 * p0.toInt + 1)) + 30 * (aI (G.2.1 (F a 10)) (10 * p0.toInt + 2))) (p3.toInt) (l6_6.toInt)) I6_0 (z28).1 c35 c53)) (by rw [(e64 : Int32.toInt x64 = (l6_6.toInt + 1))] <;> exact (z_X11_many_12 l6_6.toInt I6_1 c10)) (by rw [(e61 : Int32.toInt x61 = (l5_6.toInt + (1 : Int))), (e64 : Int32.toInt x64 = (l6_6.toInt + 1))] <;> exact (z_X11_many_30 l5_6.toInt l6_6.toInt I6_2)) (by rw [(e64 : Int32.toInt x64 = (l6_6.toInt + 1))] <;> exact (z_X11_many_14 l6_6.toInt I6_1)) (by rw [(e64 : Int32.toInt x64 = (l6_6.toInt + 1))] <;> exact (z_X11_many_15 l6_6.toInt N6 hm6)) hT hS (lv_sub hl [3, 4, 5, 6, 7, 1, 0] rfl)
  exact L6 4294967297 0 0 _ _ (z_X11_many_33 (hv (mw (G.2.1 p1) (p2.toInt)) (90 * (aI (G.2.1 (F a 10)) (10 * p0.toInt + 1)) + 30 * (aI (G.2.1 (F a 10)) (10 * p0.toInt + 2))) (p3.toInt) 0) z0a) (by decide) (by decide) (by decide) (by decide) hT hS (lv_sub hl [2, 3, 4, 5, 6, 1, 0] rfl)
theorem v_X11_stateOf_69_1 {F : Nat → Nat → Nat} (a : Nat) (G : XG)
    (hR : RV (G.2.1 (F a 10))) :
    RV (G.2.1 (F a 10)) := by exact hR
theorem v_X11_stateOf_104_2 {F : Nat → Nat → Nat} (a : Nat) (G : XG)
    (hR : RV (G.2.1 (F a 10))) :
    RV (G.2.1 (F a 10)) := by exact hR
theorem v_X11_stateOf_104_3 (G : XG) (p2 : Nat) (p3 : Int32)
    (hM : RM (G.2.1 p2) (p3.toInt)) :
    RM (G.2.1 p2) (p3.toInt) := by exact hM
