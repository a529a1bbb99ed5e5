theorem z_X10_question_1 (a0 : Int) : (¬ a0 = 0 ∧ ¬ a0 = 1) ∨ (a0 = 0) ∨ (a0 = 1) := by omega
abbrev rm_X10_question : Room := { frames := 4, cells := 0, slots := 0, locals := 91 }
set_option maxHeartbeats 4000000 in
set_option maxRecDepth 100000 in
theorem c_X10_question (l : Launch) (E : XE) (K : Nat → Nat) (F : Nat → Nat → Nat) (G : XG) (h0 : Heap) (a : Nat) (p0 : Int32) (p1 : Int32) (p2 : Int32) (ha : K a = 12) (ron : RO (vw (G.2.1 (F (F a 3) 0))) (aI (G.2.1 (F (F a 3) 1)))) (bkn : BKr K G (G.2.2.1 (F (F a 2) 0))) : Met l yX10_question (xw yX10_question cX10_question 6 (some .int)) rm_X10_question (va_Pc [.ref a, .int p0, .int p1, .int p2] (XPh E K F G h0)) (XQ E (fun v (u : Unit) => ∃ r : Int32, v = .int r ∧ ((((p0.toInt < 0 ∨ 12 ≤ p0.toInt) ∨ G.2.2.1 (F (F a 2) 0) (p0.toInt).toNat = none) ∧ r.toInt = -2147483648) ∨ (∃ q : Nat, ((0 ≤ p0.toInt ∧ p0.toInt < 12) ∧ G.2.2.1 (F (F a 2) 0) (p0.toInt).toNat = some q) ∧ r.toInt = quS (vw (G.2.1 (F (F a 3) 0))) (G.1 q 0).toInt (G.1 q 2).toInt (G.1 q 3).toInt (G.1 q 4).toInt (G.1 q 5).toInt (G.1 q 6).toInt p1.toInt p2.toInt))) (fun _ H => H = h0)) 0 0 (xA E) := by
  refine x_enter (by decide) (Nat.le_of_ble_eq_true rfl) ?_
  intro p e s m args below meth c Q S hr hlk hnm hQ hP ls hl
  obtain ⟨⟨hz, hK, hT⟩, hh⟩ := hP
  obtain ⟨hx, hb, -, -, -⟩ := id S
  have hS : va_S (xA E) s.heap s.heap [] := va_S.rf
  have hl : lv_has ls 6 [(0, .ref a), (1, .int p0), (2, .int p1), (3, .int p2)] := hl
  obtain ⟨hk9999, hj9999⟩ := fkX10_2 hT ha
  obtain ⟨hk9999a, hj9999a⟩ := fkX0_0 hT hk9999
  obtain ⟨hk9999b, hj9999b⟩ := fkX10_3 hT ha
  obtain ⟨hk9999c, hj9999c⟩ := fkX6_0 hT hk9999b
  have hj9999d : F (F (F a 3) 0) 99 = 0 := by rw [hj9999c, hj9999b]
  obtain ⟨hk9999d, hj9999e⟩ := fkX6_1 hT hk9999b
  have hj9999f : F (F (F a 3) 1) 99 = 0 := by rw [hj9999e, hj9999b]
  refine lv_aload_n hx hb dX10_question_0 rfl (lv_at hl 0 rfl) ?_
  refine gX10_2 S hK hT ha kf_X10_30 dX10_question_1 (fun _ _ => ?_)
  refine lv_iload_n hx hb dX10_question_4 rfl (lv_at hl 1 rfl) ?_
  refine x_clp (x_runV (b := (F a 2)) (As := [.int p0]) (rest := []) S (c_X0_get l E K F G s.heap (F a 2) p0 hk9999) mv_X0_get km_X10_159 rfl rfl ⟨Nat.le_of_ble_eq_true rfl, Nat.le_of_ble_eq_true rfl⟩ (rc_2 hK hT hk9999) hK (fun _ => XPh.blind) (fun U hU hW => XPh.at hK hz hS hT hU hW) rfl hl.1 (Nat.le_of_ble_eq_true rfl) dX10_question_5 ⟨Nat.le_of_ble_eq_true rfl, Nat.le_of_ble_eq_true rfl⟩) hS ?_
  rintro _ _ locs (⟨rfl, hn5⟩ | ⟨q5, rfl, hk5, ht5, hs5⟩) hS
  · refine lv_astoreN (lv' := [(4, .null), (0, .ref a), (1, .int p0), (2, .int p1), (3, .int p2)]) hx hb dX10_question_8 hl (by decide) rfl (fun ls hl => ?_)
    refine lv_aloadN hx hb dX10_question_10 (lv_at hl 0 rfl) ?_
    refine lv_ifnullN (tgt := 24) hx hb dX10_question_12 (by decide) ?_
    refine lv_ldcw (v := (-2147483648)) hx hb S.2.2.2.1 (S.2.2.2.2 _ (List.mem_cons_of_mem _ kc_X10_274)) dX10_question_24 ?_
    exact x_ri hx hb hr hlk hQ (Nat.le_of_ble_eq_true rfl) (Nat.le_of_ble_eq_true rfl) hS dX10_question_27 () ⟨_, rfl, (by rw [((by decide) : Int32.toInt (-2147483648) = (-2147483648 : Int))] <;> exact (v_X10_question_27_1 (K := K) (F := F) a G p0 p1 p2 ha hn5))⟩ hh
  · have ht5 : 0 ≤ p0.toInt ∧ p0.toInt < 12 := ht5
    refine lv_astore (lv' := [(4, .ref q5), (0, .ref a), (1, .int p0), (2, .int p1), (3, .int p2)]) hx hb dX10_question_8 hl (by decide) rfl (fun ls hl => ?_)
    refine lv_aload hx hb dX10_question_10 (lv_at hl 0 rfl) ?_
    refine lv_ifnull hx hb dX10_question_12 ?_
    refine lv_aload hx hb dX10_question_15 (lv_at hl 0 rfl) ?_
    refine lv_iload_n hx hb dX10_question_17 rfl (lv_at hl 3 rfl) ?_
    refine x_clp (x_runV (b := q5) (As := [.int p1]) (rest := []) S (c_X7_isSubject l E K F G s.heap q5 p1 hk5) mv_X7_isSubject km_X10_325 rfl rfl ⟨Nat.le_of_ble_eq_true rfl, Nat.le_of_ble_eq_true rfl⟩ (rc_9 hK hT hk5) hK (fun _ => XPh.blind) (fun U hU hW => XPh.at hK hz hS hT hU hW) rfl hl.1 (Nat.le_of_ble_eq_true rfl) dX10_question_18 ⟨Nat.le_of_ble_eq_true rfl, Nat.le_of_ble_eq_true rfl⟩) hS ?_
    rintro _ _ locs ⟨x18, rfl, b18, t18⟩ hS
    have t18 : ((((((G.1 q5 0).toInt) = 2 ∨ ((G.1 q5 0).toInt) = 4 ∨ ((G.1 q5 0).toInt) = 5) ∧ 0 ≤ p1.toInt ∧ p1.toInt < 30) ∨ (¬ (((G.1 q5 0).toInt) = 2 ∨ ((G.1 q5 0).toInt) = 4 ∨ ((G.1 q5 0).toInt) = 5) ∧ -99 ≤ p1.toInt ∧ p1.toInt ≤ 99)) ∧ x18.toInt = 1) ∨ (¬ (((((G.1 q5 0).toInt) = 2 ∨ ((G.1 q5 0).toInt) = 4 ∨ ((G.1 q5 0).toInt) = 5) ∧ 0 ≤ p1.toInt ∧ p1.toInt < 30) ∨ (¬ (((G.1 q5 0).toInt) = 2 ∨ ((G.1 q5 0).toInt) = 4 ∨ ((G.1 q5 0).toInt) = 5) ∧ -99 ≤ p1.toInt ∧ p1.toInt ≤ 99)) ∧ x18.toInt = 0) := t18
    refine xi_zne (tgt := 28) hx hb (rfl : Int32.toInt x18 = x18.toInt) dX10_question_21 (by decide) (fun c21 => ?_) (fun c21 => ?_)
    · refine lv_aload hx hb dX10_question_28 (lv_at hl 0 rfl) ?_
      refine lv_aload_n hx hb dX10_question_30 rfl (lv_at hl 1 rfl) ?_
      refine gX10_3 S hK hT ha kf_X10_37 dX10_question_31 (fun _ _ => ?_)
      refine lv_iload_n hx hb dX10_question_34 rfl (lv_at hl 3 rfl) ?_
      refine x_clp (x_runV (b := q5) (As := [.ref (F a 3), .int p1]) (rest := []) S (c_X7_state l E K F G s.heap q5 (F a 3) p1 hk5 hk9999b (v_X10_question_35_2 (F := F) a G ron) (v_X10_question_35_3 (K := K) (F := F) G a p0 q5 bkn hs5 ht5)) mv_X7_state km_X10_328 rfl rfl ⟨Nat.le_of_ble_eq_true rfl, Nat.le_of_ble_eq_true rfl⟩ (rc_9 hK hT hk5) hK (fun _ => XPh.blind) (fun U hU hW => XPh.at hK hz hS hT hU hW) rfl hl.1 (Nat.le_of_ble_eq_true rfl) dX10_question_35 ⟨Nat.le_of_ble_eq_true rfl, Nat.le_of_ble_eq_true rfl⟩) hS ?_
      rintro _ _ locs ⟨x35, rfl, t35⟩ hS
      have t35 : x35.toInt = (stt (vw (G.2.1 (F (F a 3) 0))) ((G.1 q5 0).toInt) ((G.1 q5 2).toInt) ((G.1 q5 3).toInt) ((G.1 q5 4).toInt) (p1.toInt)) := t35
      refine lv_istore (lv' := [(5, .int x35), (4, .ref q5), (0, .ref a), (1, .int p0), (2, .int p1), (3, .int p2)]) hx hb dX10_question_38 hl (by decide) rfl (fun ls hl => ?_)
      refine lv_iload_n hx hb dX10_question_40 rfl (lv_at hl 5 rfl) ?_
      rcases ((z_X10_question_1 p2.toInt) : (¬ p2.toInt = 0 ∧ ¬ p2.toInt = 1) ∨ (p2.toInt = 0) ∨ (p2.toInt = 1)) with c41 | c41 | c41
      · refine lv_lookup (off := 51) (tgt := 92) hx hb dX10_question_41 (by decide) (by first | (simp only [Op.lookupswitch.offset_cons, Op.lookupswitch.offset_nil]; (repeat' split) <;> omega) | (simp [Op.lookupswitch.offset]; (repeat' split) <;> omega) | (simp [Op.lookupswitch.offset]; omega)) (by decide) ?_
        refine lv_ldcw (v := (-2147483648)) hx hb S.2.2.2.1 (S.2.2.2.2 _ (List.mem_cons_of_mem _ kc_X10_274)) dX10_question_92 ?_
        exact x_ri hx hb hr hlk hQ (Nat.le_of_ble_eq_true rfl) (Nat.le_of_ble_eq_true rfl) hS dX10_question_95 () ⟨_, rfl, (by rw [((by decide) : Int32.toInt (-2147483648) = (-2147483648 : Int))] <;> exact (v_X10_question_95_4 (F := F) a q5 G p0 p1 p2 hs5 ht5 c41))⟩ hh
      · refine lv_lookup (off := 27) (tgt := 68) hx hb dX10_question_41 (by decide) (by rw [c41]; rfl) (by decide) ?_
        refine lv_iload hx hb dX10_question_68 (lv_at hl 0 rfl) ?_
        exact x_ri hx hb hr hlk hQ (Nat.le_of_ble_eq_true rfl) (Nat.le_of_ble_eq_true rfl) hS dX10_question_70 () ⟨_, rfl, (by rw [(t35 : Int32.toInt x35 = (stt (vw (G.2.1 (F (F a 3) 0))) ((G.1 q5 0).toInt) ((G.1 q5 2).toInt) ((G.1 q5 3).toInt) ((G.1 q5 4).toInt) (p1.toInt)))] <;> exact (v_X10_question_70_5 (K := K) (F := F) a q5 G p0 p1 x18 p2 ha hs5 ht5 t18 c21 c41))⟩ hh
      · refine lv_lookup (off := 30) (tgt := 71) hx hb dX10_question_41 (by decide) (by rw [c41]; rfl) (by decide) ?_
        refine lv_aload hx hb dX10_question_71 (lv_at hl 1 rfl) ?_
        refine lv_aload_n hx hb dX10_question_73 rfl (lv_at hl 2 rfl) ?_
        refine gX10_3 S hK hT ha kf_X10_37 dX10_question_74 (fun _ _ => ?_)
        refine lv_iload_n hx hb dX10_question_77 rfl (lv_at hl 4 rfl) ?_
        refine lv_iload hx hb dX10_question_78 (lv_at hl 0 rfl) ?_
        refine x_clp (x_runV (b := q5) (As := [.ref (F a 3), .int p1, .int x35]) (rest := []) S (c_X7_fails l E K F G s.heap q5 (F a 3) p1 x35 hk5 hk9999b (v_X10_question_80_6 (F := F) a G ron) (v_X10_question_80_7 (K := K) (F := F) G a p0 q5 bkn hs5 ht5)) mv_X7_fails km_X10_332 rfl rfl ⟨Nat.le_of_ble_eq_true rfl, Nat.le_of_ble_eq_true rfl⟩ (rc_9 hK hT hk5) hK (fun _ => XPh.blind) (fun U hU hW => XPh.at hK hz hS hT hU hW) rfl hl.1 (Nat.le_of_ble_eq_true rfl) dX10_question_80 ⟨Nat.le_of_ble_eq_true rfl, Nat.le_of_ble_eq_true rfl⟩) hS ?_
        rintro _ _ locs ⟨x80, rfl, b80, t80⟩ hS
        have t80 : x80.toInt = (flq (vw (G.2.1 (F (F a 3) 0))) ((G.1 q5 0).toInt) ((G.1 q5 2).toInt) ((G.1 q5 3).toInt) ((G.1 q5 5).toInt) ((G.1 q5 6).toInt) (p1.toInt) (stt (vw (G.2.1 (F (F a 3) 0))) ((G.1 q5 0).toInt) ((G.1 q5 2).toInt) ((G.1 q5 3).toInt) ((G.1 q5 4).toInt) (p1.toInt))) := by rw [(t35 : Int32.toInt x35 = (stt (vw (G.2.1 (F (F a 3) 0))) ((G.1 q5 0).toInt) ((G.1 q5 2).toInt) ((G.1 q5 3).toInt) ((G.1 q5 4).toInt) (p1.toInt)))] at t80; exact t80
        refine xi_zeq (tgt := 90) hx hb (rfl : Int32.toInt x80 = x80.toInt) dX10_question_83 (by decide) (fun c83 => ?_) (fun c83 => ?_)
        · refine lv_iconst (v := 0) hx hb dX10_question_90 (by decide) ?_
          exact x_ri hx hb hr hlk hQ (Nat.le_of_ble_eq_true rfl) (Nat.le_of_ble_eq_true rfl) hS dX10_question_91 () ⟨_, rfl, (v_X10_question_91_8 (K := K) (F := F) a q5 G p0 p1 x18 p2 x80 ha hs5 ht5 t18 c21 c41 t80 (xzi b80) c83)⟩ hh
        · refine lv_iconst (v := 1) hx hb dX10_question_86 (by decide) ?_
          refine lv_goto (tgt := 91) hx hb dX10_question_87 (by decide) ?_
          exact x_ri hx hb hr hlk hQ (Nat.le_of_ble_eq_true rfl) (Nat.le_of_ble_eq_true rfl) hS dX10_question_91 () ⟨_, rfl, (v_X10_question_91_9 (K := K) (F := F) a q5 G p0 p1 x18 p2 x80 ha hs5 ht5 t18 c21 c41 t80 (xzi b80) c83)⟩ hh
    · refine lv_ldcw (v := (-2147483648)) hx hb S.2.2.2.1 (S.2.2.2.2 _ (List.mem_cons_of_mem _ kc_X10_274)) dX10_question_24 ?_
      exact x_ri hx hb hr hlk hQ (Nat.le_of_ble_eq_true rfl) (Nat.le_of_ble_eq_true rfl) hS dX10_question_27 () ⟨_, rfl, (by rw [((by decide) : Int32.toInt (-2147483648) = (-2147483648 : Int))] <;> exact (v_X10_question_27_10 (K := K) (F := F) a q5 G p0 p1 x18 p2 ha hs5 ht5 t18 c21))⟩ hh

theorem z_X10_depth_1 (a0 : Int) (h0 : 0 ≤ a0 ∧ a0 ≤ 31) : ¬ (100 - a0 < ((0 : Nat) : Int)) := by omega
theorem z_X10_depth_2 (a0 : Int) (a1 : Int) (h0 : 0 ≤ a0 ∧ a0 ≤ 31) (h1 : a1 = (a0 + 1) ∨ (a0 + 1) < -2147483648 ∨ 2147483648 ≤ (a0 + 1)) : a1 = (a0 + 1) := by omega
theorem z_X10_depth_3 (a0 : Int) (h0 : 0 ≤ a0 ∧ a0 ≤ 31) (h1 : ¬ ((30 : Int) < a0)) : 0 ≤ (a0 + 1) ∧ (a0 + 1) ≤ 31 := by omega
theorem z_X10_depth_4 (a0 : Int) (a1 : Nat) (h0 : 100 - a0 < ((a1 + 1 : Nat) : Int)) : 100 - (a0 + 1) < ((a1 : Nat) : Int) := by omega
abbrev rm_X10_depth : Room := { frames := 2, cells := 0, slots := 0, locals := 44 }
set_option maxHeartbeats 4000000 in
set_option maxRecDepth 100000 in
theorem c_X10_depth (l : Launch) (E : XE) (K : Nat → Nat) (F : Nat → Nat → Nat) (G : XG) (h0 : Heap) (a : Nat) (p0 : Int32) (p1 : Int32) (ha : K a = 12) (ron : RO (vw (G.2.1 (F (F a 3) 0))) (aI (G.2.1 (F (F a 3) 1)))) : Met l yX10_depth (xw yX10_depth cX10_depth 7 (some .int)) rm_X10_depth (va_Pc [.ref a, .int p0, .int p1] (XPh E K F G h0)) (XQ E (fun v (u : Unit) => ∃ r : Int32, v = .int r ∧ ((((p0.toInt < 0 ∨ 12 ≤ p0.toInt) ∨ G.2.2.1 (F (F a 2) 0) (p0.toInt).toNat = none) ∧ r.toInt = -1) ∨ (∃ q : Nat, ((0 ≤ p0.toInt ∧ p0.toInt < 12) ∧ G.2.2.1 (F (F a 2) 0) (p0.toInt).toNat = some q) ∧ r.toInt = dpS (vw (G.2.1 (F (F a 3) 0))) (G.1 q 0).toInt (G.1 q 2).toInt (G.1 q 3).toInt p1.toInt))) (fun _ H => H = h0)) 0 0 (xA E) := by
  refine x_enter (by decide) (Nat.le_of_ble_eq_true rfl) ?_
  intro p e s m args below meth c Q S hr hlk hnm hQ hP ls hl
  obtain ⟨⟨hz, hK, hT⟩, hh⟩ := hP
  obtain ⟨hx, hb, -, -, -⟩ := id S
  have hS : va_S (xA E) s.heap s.heap [] := va_S.rf
  have hl : lv_has ls 7 [(0, .ref a), (1, .int p0), (2, .int p1)] := hl
  obtain ⟨hk9999, hj9999⟩ := fkX10_2 hT ha
  obtain ⟨hk9999a, hj9999a⟩ := fkX0_0 hT hk9999
  obtain ⟨hk9999b, hj9999b⟩ := fkX10_3 hT ha
  obtain ⟨hk9999c, hj9999c⟩ := fkX6_0 hT hk9999b
  have hj9999d : F (F (F a 3) 0) 99 = 0 := by rw [hj9999c, hj9999b]
  obtain ⟨hk9999d, hj9999e⟩ := fkX6_1 hT hk9999b
  have hj9999f : F (F (F a 3) 1) 99 = 0 := by rw [hj9999e, hj9999b]
  refine lv_aload_n hx hb dX10_depth_0 rfl (lv_at hl 0 rfl) ?_
  refine gX10_2 S hK hT ha kf_X10_30 dX10_depth_1 (fun _ _ => ?_)
  refine lv_iload_n hx hb dX10_depth_4 rfl (lv_at hl 1 rfl) ?_
  refine x_clp (x_runV (b := (F a 2)) (As := [.int p0]) (rest := []) S (c_X0_get l E K F G s.heap (F a 2) p0 hk9999) mv_X0_get km_X10_159 rfl rfl ⟨Nat.le_of_ble_eq_true rfl, Nat.le_of_ble_eq_true rfl⟩ (rc_2 hK hT hk9999) hK (fun _ => XPh.blind) (fun U hU hW => XPh.at hK hz hS hT hU hW) rfl hl.1 (Nat.le_of_ble_eq_true rfl) dX10_depth_5 ⟨Nat.le_of_ble_eq_true rfl, Nat.le_of_ble_eq_true rfl⟩) hS ?_
  rintro _ _ locs (⟨rfl, hn5⟩ | ⟨q5, rfl, hk5, ht5, hs5⟩) hS
  · refine lv_astore_nN (lv' := [(3, .null), (0, .ref a), (1, .int p0), (2, .int p1)]) hx hb dX10_depth_8 rfl hl (by decide) rfl (fun ls hl => ?_)
    refine lv_aload_nN hx hb dX10_depth_9 rfl (lv_at hl 0 rfl) ?_
    refine lv_ifnullN (tgt := 36) hx hb dX10_depth_10 (by decide) ?_
    refine lv_iconst (v := (-1)) hx hb dX10_depth_36 (by decide) ?_
    exact x_ri hx hb hr hlk hQ (Nat.le_of_ble_eq_true rfl) (Nat.le_of_ble_eq_true rfl) hS dX10_depth_37 () ⟨_, rfl, (by rw [((by decide) : Int32.toInt (-1) = (-1 : Int))] <;> exact (v_X10_depth_37_1 (K := K) (F := F) a G p0 p1 ha hn5))⟩ hh
  · have ht5 : 0 ≤ p0.toInt ∧ p0.toInt < 12 := ht5
    refine lv_astore_n (lv' := [(3, .ref q5), (0, .ref a), (1, .int p0), (2, .int p1)]) hx hb dX10_depth_8 rfl hl (by decide) rfl (fun ls hl => ?_)
    refine lv_aload_n hx hb dX10_depth_9 rfl (lv_at hl 0 rfl) ?_
    refine lv_ifnull hx hb dX10_depth_10 ?_
    refine lv_aload_n hx hb dX10_depth_13 rfl (lv_at hl 0 rfl) ?_
    refine gX7_0 S hK hT hk5 kf_X10_140 dX10_depth_14 (v := (G.1 q5 0)) rfl (?_)
    refine lv_iconst (v := 5) hx hb dX10_depth_17 (by decide) ?_
    refine xi_cne (tgt := 36) hx hb (rfl : Int32.toInt (G.1 q5 0) = ((G.1 q5 0).toInt)) ((by decide) : Int32.toInt 5 = (5 : Int)) dX10_depth_18 (by decide) (fun c18 => ?_) (fun c18 => ?_)
    · refine lv_iconst (v := (-1)) hx hb dX10_depth_36 (by decide) ?_
      exact x_ri hx hb hr hlk hQ (Nat.le_of_ble_eq_true rfl) (Nat.le_of_ble_eq_true rfl) hS dX10_depth_37 () ⟨_, rfl, (by rw [((by decide) : Int32.toInt (-1) = (-1 : Int))] <;> exact (v_X10_depth_37_2 (K := K) (F := F) a q5 G p0 p1 ha hs5 ht5 c18))⟩ hh
    · refine lv_aload_n hx hb dX10_depth_21 rfl (lv_at hl 1 rfl) ?_
      refine gX10_3 S hK hT ha kf_X10_37 dX10_depth_22 (fun _ _ => ?_)
      refine lv_aload_n hx hb dX10_depth_25 rfl (lv_at hl 0 rfl) ?_
      refine gX7_2 S hK hT hk5 kf_X10_275 dX10_depth_26 (v := (G.1 q5 2)) rfl (?_)
      refine lv_iload_n hx hb dX10_depth_29 rfl (lv_at hl 3 rfl) ?_
      refine x_clp (x_runV (b := (F a 3)) (As := [.int (G.1 q5 2), .int p1]) (rest := []) S (c_X6_has l E K F G s.heap (F a 3) (G.1 q5 2) p1 hk9999b (v_X10_depth_30_3 (F := F) a G ron)) mv_X6_has km_X10_191 rfl rfl ⟨Nat.le_of_ble_eq_true rfl, Nat.le_of_ble_eq_true rfl⟩ (rc_8 hK hT hk9999b) hK (fun _ => XPh.blind) (fun U hU hW => XPh.at hK hz hS hT hU hW) rfl hl.1 (Nat.le_of_ble_eq_true rfl) dX10_depth_30 ⟨Nat.le_of_ble_eq_true rfl, Nat.le_of_ble_eq_true rfl⟩) hS ?_
      rintro _ _ locs ⟨x30, rfl, b30, t30⟩ hS
      have t30 : (x30.toInt = 1 ∧ (cel (vw (G.2.1 (F (F a 3) 0))) ((G.1 q5 2).toInt) (p1.toInt) 0) ≠ -2000) ∨ (x30.toInt = 0 ∧ (cel (vw (G.2.1 (F (F a 3) 0))) ((G.1 q5 2).toInt) (p1.toInt) 0) = -2000) := t30
      refine xi_zne (tgt := 38) hx hb (rfl : Int32.toInt x30 = x30.toInt) dX10_depth_33 (by decide) (fun c33 => ?_) (fun c33 => ?_)
      · refine lv_iload_n hx hb dX10_depth_38 rfl (lv_at hl 3 rfl) ?_
        refine lv_istore (lv' := [(4, .int p1), (3, .ref q5), (0, .ref a), (1, .int p0), (2, .int p1)]) hx hb dX10_depth_39 hl (by decide) rfl (fun ls hl => ?_)
        refine lv_iconst (v := 0) hx hb dX10_depth_41 (by decide) ?_
        refine lv_istore (lv' := [(5, .int 0), (4, .int p1), (3, .ref q5), (0, .ref a), (1, .int p0), (2, .int p1)]) hx hb dX10_depth_42 hl (by decide) rfl (fun ls hl => ?_)
        have L44 : ∀ (N44 : Nat) (l4_44 : Int32) (l5_44 : Int32) (locs : List Loc) (ls : Array Slot), dpF (vw (G.2.1 (F (F a 3) 0))) ((G.1 q5 2).toInt) ((G.1 q5 3).toInt) 31 0 (p1.toInt) = dpF (vw (G.2.1 (F (F a 3) 0))) ((G.1 q5 2).toInt) ((G.1 q5 3).toInt) (31 - l5_44.toInt).toNat (l5_44.toInt) (l4_44.toInt) → 0 ≤ l5_44.toInt ∧ l5_44.toInt ≤ 31 → 100 - l5_44.toInt < ((N44 : Nat) : Int) → TW E K F G s.heap → va_S (xA E) s.heap s.heap locs → lv_has ls 7 [(0, .ref a), (3, .ref q5), (4, .int l4_44), (5, .int l5_44)] → W p l e rm_X10_depth s m args below meth c s.heap locs 0 0 Q (F0 m 44 ls []) := by
          intro N44
          induction N44 with
          | zero =>
            intro l4_44 l5_44 locs ls dp I44_0 hm44
            exact absurd hm44 (z_X10_depth_1 l5_44.toInt I44_0)
          | succ N44 ih44 =>
            intro l4_44 l5_44 locs ls dp I44_0 hm44 hT hS hl
            refine lv_iload hx hb dX10_depth_44 (lv_at hl 3 rfl) ?_
            refine lv_bipush (v := 30) hx hb dX10_depth_46 (by decide) ?_
            refine xi_cgt (tgt := 99) hx hb (rfl : Int32.toInt l5_44 = l5_44.toInt) ((by decide) : Int32.toInt 30 = (30 : Int)) dX10_depth_48 (by decide) (fun c48 => ?_) (fun c48 => ?_)
            · refine lv_bipush (v := (-2)) hx hb dX10_depth_99 (by decide) ?_
              exact x_ri hx hb hr hlk hQ (Nat.le_of_ble_eq_true rfl) (Nat.le_of_ble_eq_true rfl) hS dX10_depth_101 () ⟨_, rfl, (by rw [((by decide) : Int32.toInt (-2) = (-2 : Int))] <;> exact (v_X10_depth_101_4 (K := K) (F := F) a q5 G p0 p1 l5_44 l4_44 x30 N44 ha hs5 dp ht5 c18 t30 c33 I44_0 hm44 c48))⟩ hh
            · refine lv_aload_n hx hb dX10_depth_51 rfl (lv_at hl 0 rfl) ?_
              refine gX10_3 S hK hT ha kf_X10_37 dX10_depth_52 (fun _ _ => ?_)
              refine lv_aload_n hx hb dX10_depth_55 rfl (lv_at hl 1 rfl) ?_
              refine gX7_2 S hK hT hk5 kf_X10_275 dX10_depth_56 (v := (G.1 q5 2)) rfl (?_)
              refine lv_iload hx hb dX10_depth_59 (lv_at hl 2 rfl) ?_
              refine lv_aload_n hx hb dX10_depth_61 rfl (lv_at hl 1 rfl) ?_
              refine gX7_3 S hK hT hk5 kf_X10_278 dX10_depth_62 (v := (G.1 q5 3)) rfl (?_)
              refine x_clp (x_runV (b := (F a 3)) (As := [.int (G.1 q5 2), .int l4_44, .int (G.1 q5 3)]) (rest := []) S (c_X6_cell l E K F G s.heap (F a 3) (G.1 q5 2) l4_44 (G.1 q5 3) hk9999b) mv_X6_cell km_X10_265 rfl rfl ⟨Nat.le_of_ble_eq_true rfl, Nat.le_of_ble_eq_true rfl⟩ (rc_8 hK hT hk9999b) hK (fun _ => XPh.blind) (fun U hU hW => XPh.at hK hz hS hT hU hW) rfl hl.1 (Nat.le_of_ble_eq_true rfl) dX10_depth_65 ⟨Nat.le_of_ble_eq_true rfl, Nat.le_of_ble_eq_true rfl⟩) hS ?_
              rintro _ _ locs ⟨x65, rfl, t65⟩ hS
              have t65 : x65.toInt = (cel (vw (G.2.1 (F (F a 3) 0))) ((G.1 q5 2).toInt) (l4_44.toInt) ((G.1 q5 3).toInt)) := t65
              refine lv_istore (lv' := [(6, .int x65), (0, .ref a), (3, .ref q5), (4, .int l4_44), (5, .int l5_44)]) hx hb dX10_depth_68 hl (by decide) rfl (fun ls hl => ?_)
              refine lv_aload_n hx hb dX10_depth_70 rfl (lv_at hl 1 rfl) ?_
              refine gX10_3 S hK hT ha kf_X10_37 dX10_depth_71 (fun _ _ => ?_)
              refine lv_aload_n hx hb dX10_depth_74 rfl (lv_at hl 2 rfl) ?_
              refine gX7_2 S hK hT hk5 kf_X10_275 dX10_depth_75 (v := (G.1 q5 2)) rfl (?_)
              refine lv_iload hx hb dX10_depth_78 (lv_at hl 0 rfl) ?_
              refine x_clp (x_runV (b := (F a 3)) (As := [.int (G.1 q5 2), .int x65]) (rest := []) S (c_X6_has l E K F G s.heap (F a 3) (G.1 q5 2) x65 hk9999b (v_X10_depth_80_5 (F := F) a G ron)) mv_X6_has km_X10_191 rfl rfl ⟨Nat.le_of_ble_eq_true rfl, Nat.le_of_ble_eq_true rfl⟩ (rc_8 hK hT hk9999b) hK (fun _ => XPh.blind) (fun U hU hW => XPh.at hK hz hS hT hU hW) rfl hl.1 (Nat.le_of_ble_eq_true rfl) dX10_depth_80 ⟨Nat.le_of_ble_eq_true rfl, Nat.le_of_ble_eq_true rfl⟩) hS ?_
              rintro _ _ locs ⟨x80, rfl, b80, t80⟩ hS
              have t80 : (x80.toInt = 1 ∧ (cel (vw (G.2.1 (F (F a 3) 0))) ((G.1 q5 2).toInt) (cel (vw (G.2.1 (F (F a 3) 0))) ((G.1 q5 2).toInt) (l4_44.toInt) ((G.1 q5 3).toInt)) 0) ≠ -2000) ∨ (x80.toInt = 0 ∧ (cel (vw (G.2.1 (F (F a 3) 0))) ((G.1 q5 2).toInt) (cel (vw (G.2.1 (F (F a 3) 0))) ((G.1 q5 2).toInt) (l4_44.toInt) ((G.1 q5 3).toInt)) 0) = -2000) := by rw [(t65 : Int32.toInt x65 = (cel (vw (G.2.1 (F (F a 3) 0))) ((G.1 q5 2).toInt) (l4_44.toInt) ((G.1 q5 3).toInt)))] at t80; exact t80
              refine xi_zne (tgt := 89) hx hb (rfl : Int32.toInt x80 = x80.toInt) dX10_depth_83 (by decide) (fun c83 => ?_) (fun c83 => ?_)
              · refine lv_iload hx hb dX10_depth_89 (lv_at hl 0 rfl) ?_
                refine lv_istore (lv' := [(4, .int x65), (6, .int x65), (0, .ref a), (3, .ref q5), (5, .int l5_44)]) hx hb dX10_depth_91 hl (by decide) rfl (fun ls hl => ?_)
                refine xi_iinc (n := 1) (lv' := fun z9 => [(5, .int z9), (4, .int x65), (6, .int x65), (0, .ref a), (3, .ref q5)]) (k := 4) hx hb (rfl : Int32.toInt l5_44 = l5_44.toInt) (by decide) dX10_depth_93 hl rfl (by decide) (fun _ => rfl) (fun x93 ls t93 hl => ?_)
                have e93 : x93.toInt = (l5_44.toInt + 1) := (z_X10_depth_2 l5_44.toInt x93.toInt I44_0 t93)
                have hl : lv_has ls 7 [(5, .int x93), (4, .int x65), (6, .int x65), (0, .ref a), (3, .ref q5)] := hl
                refine lv_goto (tgt := 44) hx hb dX10_depth_96 (by decide) ?_
                exact ih44 x65 x93 _ _ (by rw [(e93 : Int32.toInt x93 = (l5_44.toInt + 1)), (t65 : Int32.toInt x65 = (cel (vw (G.2.1 (F (F a 3) 0))) ((G.1 q5 2).toInt) (l4_44.toInt) ((G.1 q5 3).toInt)))] <;> exact (v_X10_depth_96_6 (K := K) (F := F) a q5 G p0 p1 l5_44 l4_44 x30 N44 x80 ha hs5 dp ht5 c18 t30 c33 I44_0 hm44 c48 t80 c83)) (by rw [(e93 : Int32.toInt x93 = (l5_44.toInt + 1))] <;> exact (z_X10_depth_3 l5_44.toInt I44_0 c48)) (by rw [(e93 : Int32.toInt x93 = (l5_44.toInt + 1))] <;> exact (z_X10_depth_4 l5_44.toInt N44 hm44)) hT hS (lv_sub hl [3, 4, 1, 0] rfl)
              · refine lv_iload hx hb dX10_depth_86 (lv_at hl 4 rfl) ?_
                exact x_ri hx hb hr hlk hQ (Nat.le_of_ble_eq_true rfl) (Nat.le_of_ble_eq_true rfl) hS dX10_depth_88 () ⟨_, rfl, (v_X10_depth_88_7 (K := K) (F := F) a q5 G p0 p1 l5_44 l4_44 x30 N44 x80 ha hs5 dp ht5 c18 t30 c33 I44_0 hm44 c48 t80 c83)⟩ hh
        exact L44 4294967297 p1 0 _ _ (v_X10_depth_42_8 (F := F) a q5 G p1) (by decide) (by decide) hT hS (lv_sub hl [3, 2, 1, 0] rfl)
      · refine lv_iconst (v := (-1)) hx hb dX10_depth_36 (by decide) ?_
        exact x_ri hx hb hr hlk hQ (Nat.le_of_ble_eq_true rfl) (Nat.le_of_ble_eq_true rfl) hS dX10_depth_37 () ⟨_, rfl, (by rw [((by decide) : Int32.toInt (-1) = (-1 : Int))] <;> exact (v_X10_depth_37_9 (K := K) (F := F) a q5 G p0 x30 p1 ha hs5 ht5 c18 t30 c33))⟩ hh

theorem z_X10_changedSince_1 (a0 : Int) (a1 : Int) (h0 : 0 ≤ a0 ∧ a0 ≤ a1) (h1 : 0 ≤ a1 ∧ a1 ≤ 1080) : ¬ (5000 - a0 < ((0 : Nat) : Int)) := by omega
theorem z_X10_changedSince_2 (a0 : Int) (a1 : Int) (a2 : Int) (h0 : 0 ≤ a2 ∧ a2 ≤ 1080) (h1 : 0 ≤ a0 ∧ a0 ≤ a2) (h2 : a1 = (a0 + 1) ∨ (a0 + 1) < -2147483648 ∨ 2147483648 ≤ (a0 + 1)) : a1 = (a0 + 1) := by omega
theorem z_X10_changedSince_3 (a0 : Int) (a1 : Int) (h0 : 0 ≤ a0 ∧ a0 ≤ a1) (h1 : ¬ (a1 ≤ a0)) : 0 ≤ (a0 + 1) ∧ (a0 + 1) ≤ a1 := by omega
theorem z_X10_changedSince_4 (a0 : Int) (a1 : Int) (h0 : 0 ≤ a0 ∧ a0 ≤ a1) : 0 ≤ a0 ∧ a0 ≤ (a1 + 1) := by omega
theorem z_X10_changedSince_5 (a0 : Int) (a1 : Nat) (h0 : 5000 - a0 < ((a1 + 1 : Nat) : Int)) : 5000 - (a0 + 1) < ((a1 : Nat) : Int) := by omega
theorem z_X10_changedSince_10 (a0 : Int) (a1 : Int) (a2 : Int) (a3 : Int) (h0 : 0 ≤ a3 ∧ a3 ≤ 1080) (h1 : 0 ≤ a0 ∧ a0 ≤ a1) (h2 : ¬ (a3 ≤ a1)) (h3 : a2 = (a0 + 1) ∨ (a0 + 1) < -2147483648 ∨ 2147483648 ≤ (a0 + 1)) : a2 = (a0 + 1) := by omega
theorem z_X10_changedSince_13 (a0 : Int) (a1 : Int) (h0 : 0 ≤ a0 ∧ a0 ≤ a1) : 0 ≤ (a0 + 1) ∧ (a0 + 1) ≤ (a1 + 1) := by omega
theorem z_X10_changedSince_15 (a0 : Int) (h0 : 0 ≤ a0 ∧ a0 ≤ 1080) : 0 ≤ (0 : Int) ∧ (0 : Int) ≤ a0 := by omega
abbrev rm_X10_changedSince : Room := { frames := 3, cells := 0, slots := 0, locals := 72 }
set_option maxHeartbeats 4000000 in
set_option maxRecDepth 100000 in
theorem c_X10_changedSince (l : Launch) (E : XE) (K : Nat → Nat) (F : Nat → Nat → Nat) (G : XG) (h0 : Heap) (a : Nat) (p0 : Nat) (ha : K a = 12) (hp0 : K p0 = 8) (w8 : 0 ≤ ((G.1 (F a 8) 6).toInt) ∧ ((G.1 (F a 8) 6).toInt) ≤ 1080) (rox : RO (vw (G.2.1 (F p0 0))) (aI (G.2.1 (F p0 1)))) (bkn : BKr K G (G.2.2.1 (F (F a 2) 0))) : Met l yX10_changedSince (xw yX10_changedSince cX10_changedSince 5 (some .int)) rm_X10_changedSince (va_Pc [.ref a, .ref p0] (XPh E K F G h0)) (XQ E (fun v (u : Unit) => ∃ r : Int32, v = .int r ∧ (r.toInt = smQ (chQ G (G.2.2.1 (F (F a 2) 0)) (vw (G.2.1 (F p0 0)))) (qL G F (F a 8)))) (fun _ H => H = h0)) 0 0 (xA E) := by
  refine x_enter (by decide) (Nat.le_of_ble_eq_true rfl) ?_
  intro p e s m args below meth c Q S hr hlk hnm hQ hP ls hl
  obtain ⟨⟨hz, hK, hT⟩, hh⟩ := hP
  obtain ⟨hx, hb, -, -, -⟩ := id S
  have hS : va_S (xA E) s.heap s.heap [] := va_S.rf
  have hl : lv_has ls 5 [(0, .ref a), (1, .ref p0)] := hl
  obtain ⟨hk9999, hj9999⟩ := fkX10_2 hT ha
  obtain ⟨hk9999a, hj9999a⟩ := fkX0_0 hT hk9999
  obtain ⟨hk9999b, hj9999b⟩ := fkX10_8 hT ha
  obtain ⟨hk9999c, hj9999c⟩ := fkX6_0 hT hp0
  obtain ⟨hk9999d, hj9999d⟩ := fkX6_1 hT hp0
  refine lv_iconst (v := 0) hx hb dX10_changedSince_0 (by decide) ?_
  refine lv_istore_n (lv' := [(2, .int 0), (0, .ref a), (1, .ref p0)]) hx hb dX10_changedSince_1 rfl hl (by decide) rfl (fun ls hl => ?_)
  refine lv_iconst (v := 0) hx hb dX10_changedSince_2 (by decide) ?_
  refine lv_istore_n (lv' := [(3, .int 0), (2, .int 0), (0, .ref a), (1, .ref p0)]) hx hb dX10_changedSince_3 rfl hl (by decide) rfl (fun ls hl => ?_)
  have L4 : ∀ (N4 : Nat) (l2_4 : Int32) (l3_4 : Int32) (locs : List Loc) (ls : Array Slot), l2_4.toInt = smS (fun j => chQ G (G.2.2.1 (F (F a 2) 0)) (vw (G.2.1 (F p0 0))) (qtI G F (F a 8) j)) 0 l3_4.toInt → 0 ≤ l3_4.toInt ∧ l3_4.toInt ≤ ((G.1 (F a 8) 6).toInt) → 0 ≤ l2_4.toInt ∧ l2_4.toInt ≤ l3_4.toInt → 5000 - l3_4.toInt < ((N4 : Nat) : Int) → TW E K F G s.heap → va_S (xA E) s.heap s.heap locs → lv_has ls 5 [(0, .ref a), (1, .ref p0), (2, .int l2_4), (3, .int l3_4)] → W p l e rm_X10_changedSince s m args below meth c s.heap locs 0 0 Q (F0 m 4 ls []) := by
    intro N4
    induction N4 with
    | zero =>
      intro l2_4 l3_4 locs ls pc I4_0 I4_1 hm4
      exact absurd hm4 (z_X10_changedSince_1 l3_4.toInt ((G.1 (F a 8) 6).toInt) I4_0 w8)
    | succ N4 ih4 =>
      intro l2_4 l3_4 locs ls pc I4_0 I4_1 hm4 hT hS hl
      refine lv_iload_n hx hb dX10_changedSince_4 rfl (lv_at hl 3 rfl) ?_
      refine lv_aload_n hx hb dX10_changedSince_5 rfl (lv_at hl 0 rfl) ?_
      refine gX10_8 S hK hT ha kf_X10_57 dX10_changedSince_6 (fun _ _ => ?_)
      refine x_clp (x_runV (b := (F a 8)) (As := []) (rest := [.int l3_4]) S (c_X4_size l E K F G s.heap (F a 8) hk9999b) mv_X4_size km_X10_232 rfl rfl ⟨Nat.le_of_ble_eq_true rfl, Nat.le_of_ble_eq_true rfl⟩ (rc_6 hK hT hk9999b) hK (fun _ => XPh.blind) (fun U hU hW => XPh.at hK hz hS hT hU hW) rfl hl.1 (Nat.le_of_ble_eq_true rfl) dX10_changedSince_9 ⟨Nat.le_of_ble_eq_true rfl, Nat.le_of_ble_eq_true rfl⟩) hS ?_
      rintro _ _ locs ⟨x9, rfl, t9⟩ hS
      have t9 : x9.toInt = ((G.1 (F a 8) 6).toInt) := t9
      refine xi_cge (tgt := 71) hx hb (rfl : Int32.toInt l3_4 = l3_4.toInt) (t9 : Int32.toInt x9 = ((G.1 (F a 8) 6).toInt)) dX10_changedSince_12 (by decide) (fun c12 => ?_) (fun c12 => ?_)
      · refine lv_iload_n hx hb dX10_changedSince_71 rfl (lv_at hl 2 rfl) ?_
        exact x_ri hx hb hr hlk hQ (Nat.le_of_ble_eq_true rfl) (Nat.le_of_ble_eq_true rfl) hS dX10_changedSince_72 () ⟨_, rfl, (v_X10_changedSince_72_1 (K := K) (F := F) a p0 G l2_4 l3_4 N4 ha hp0 pc w8 I4_0 I4_1 hm4 c12)⟩ hh
      · refine lv_aload_n hx hb dX10_changedSince_15 rfl (lv_at hl 0 rfl) ?_
        refine gX10_2 S hK hT ha kf_X10_30 dX10_changedSince_16 (fun _ _ => ?_)
        refine lv_aload_n hx hb dX10_changedSince_19 rfl (lv_at hl 0 rfl) ?_
        refine gX10_8 S hK hT ha kf_X10_57 dX10_changedSince_20 (fun _ _ => ?_)
        refine lv_iload_n hx hb dX10_changedSince_23 rfl (lv_at hl 3 rfl) ?_
        refine x_clp (x_runV (b := (F a 8)) (As := [.int l3_4]) (rest := [.ref (F a 2)]) S (c_X4_number l E K F G s.heap (F a 8) l3_4 hk9999b) mv_X4_number km_X10_301 rfl rfl ⟨Nat.le_of_ble_eq_true rfl, Nat.le_of_ble_eq_true rfl⟩ (rc_6 hK hT hk9999b) hK (fun _ => XPh.blind) (fun U hU hW => XPh.at hK hz hS hT hU hW) rfl hl.1 (Nat.le_of_ble_eq_true rfl) dX10_changedSince_24 ⟨Nat.le_of_ble_eq_true rfl, Nat.le_of_ble_eq_true rfl⟩) hS ?_
        rintro _ _ locs ⟨x24, rfl, t24⟩ hS
        obtain ⟨hk24, hj24⟩ := fkX4_0 hT hk9999b
        have hj24a : F (F (F a 8) 0) 99 = 10 * 0 + 0 := by rw [hj24, hj9999b]
        have t24 : ((0 ≤ l3_4.toInt ∧ l3_4.toInt < ((G.1 (F a 8) 6).toInt) ∧ l3_4.toInt < 1080) ∧ x24.toInt = (aI (G.2.1 (F (F a 8) 0)) (l3_4.toInt))) ∨ (¬ (0 ≤ l3_4.toInt ∧ l3_4.toInt < ((G.1 (F a 8) 6).toInt) ∧ l3_4.toInt < 1080) ∧ x24.toInt = -1) := t24
        refine x_clp (x_runV (b := (F a 2)) (As := [.int x24]) (rest := []) S (c_X0_get l E K F G s.heap (F a 2) x24 hk9999) mv_X0_get km_X10_159 rfl rfl ⟨Nat.le_of_ble_eq_true rfl, Nat.le_of_ble_eq_true rfl⟩ (rc_2 hK hT hk9999) hK (fun _ => XPh.blind) (fun U hU hW => XPh.at hK hz hS hT hU hW) rfl hl.1 (Nat.le_of_ble_eq_true rfl) dX10_changedSince_27 ⟨Nat.le_of_ble_eq_true rfl, Nat.le_of_ble_eq_true rfl⟩) hS ?_
        rintro _ _ locs (⟨rfl, hn27⟩ | ⟨q27, rfl, hk27, ht27, hs27⟩) hS
        · refine lv_astoreN (lv' := [(4, .null), (0, .ref a), (1, .ref p0), (2, .int l2_4), (3, .int l3_4)]) hx hb dX10_changedSince_30 hl (by decide) rfl (fun ls hl => ?_)
          refine lv_aloadN hx hb dX10_changedSince_32 (lv_at hl 0 rfl) ?_
          refine lv_ifnullN (tgt := 65) hx hb dX10_changedSince_34 (by decide) ?_
          refine xi_iinc (n := 1) (lv' := fun z9 => [(3, .int z9), (4, .null), (0, .ref a), (1, .ref p0), (2, .int l2_4)]) (k := 4) hx hb (rfl : Int32.toInt l3_4 = l3_4.toInt) (by decide) dX10_changedSince_65 hl rfl (by decide) (fun _ => rfl) (fun x65 ls t65 hl => ?_)
          have e65 : x65.toInt = (l3_4.toInt + 1) := (z_X10_changedSince_2 l3_4.toInt x65.toInt ((G.1 (F a 8) 6).toInt) w8 I4_0 t65)
          have hl : lv_has ls 5 [(3, .int x65), (4, .null), (0, .ref a), (1, .ref p0), (2, .int l2_4)] := hl
          refine lv_goto (tgt := 4) hx hb dX10_changedSince_68 (by decide) ?_
          exact ih4 l2_4 x65 _ _ (by rw [(e65 : Int32.toInt x65 = (l3_4.toInt + 1))] <;> exact (v_X10_changedSince_68_2 (K := K) (F := F) a p0 G l2_4 l3_4 x24 N4 ha hp0 pc hn27 w8 I4_0 I4_1 hm4 c12 t24)) (by rw [(e65 : Int32.toInt x65 = (l3_4.toInt + 1))] <;> exact (z_X10_changedSince_3 l3_4.toInt ((G.1 (F a 8) 6).toInt) I4_0 c12)) (by rw [(e65 : Int32.toInt x65 = (l3_4.toInt + 1))] <;> exact (z_X10_changedSince_4 l2_4.toInt l3_4.toInt I4_1)) (by rw [(e65 : Int32.toInt x65 = (l3_4.toInt + 1))] <;> exact (z_X10_changedSince_5 l3_4.toInt N4 hm4)) hT hS (lv_sub hl [2, 3, 4, 0] rfl)
        · have ht27 : 0 ≤ x24.toInt ∧ x24.toInt < 12 := ht27
          refine lv_astore (lv' := [(4, .ref q27), (0, .ref a), (1, .ref p0), (2, .int l2_4), (3, .int l3_4)]) hx hb dX10_changedSince_30 hl (by decide) rfl (fun ls hl => ?_)
          refine lv_aload hx hb dX10_changedSince_32 (lv_at hl 0 rfl) ?_
          refine lv_ifnull hx hb dX10_changedSince_34 ?_
          refine lv_aload hx hb dX10_changedSince_37 (lv_at hl 0 rfl) ?_
          refine lv_aload_n hx hb dX10_changedSince_39 rfl (lv_at hl 2 rfl) ?_
          refine lv_aload_n hx hb dX10_changedSince_40 rfl (lv_at hl 1 rfl) ?_
          refine gX10_8 S hK hT ha kf_X10_57 dX10_changedSince_41 (fun _ _ => ?_)
          refine lv_iload_n hx hb dX10_changedSince_44 rfl (lv_at hl 4 rfl) ?_
          refine x_clp (x_runV (b := (F a 8)) (As := [.int l3_4]) (rest := [.ref p0, .ref q27]) S (c_X4_subject l E K F G s.heap (F a 8) l3_4 hk9999b) mv_X4_subject km_X10_147 rfl rfl ⟨Nat.le_of_ble_eq_true rfl, Nat.le_of_ble_eq_true rfl⟩ (rc_6 hK hT hk9999b) hK (fun _ => XPh.blind) (fun U hU hW => XPh.at hK hz hS hT hU hW) rfl hl.1 (Nat.le_of_ble_eq_true rfl) dX10_changedSince_45 ⟨Nat.le_of_ble_eq_true rfl, Nat.le_of_ble_eq_true rfl⟩) hS ?_
          rintro _ _ locs ⟨x45, rfl, t45⟩ hS
          obtain ⟨hk45, hj45⟩ := fkX4_1 hT hk9999b
          have hj45a : F (F (F a 8) 1) 99 = 10 * 0 + 1 := by rw [hj45, hj9999b]
          have t45 : ((0 ≤ l3_4.toInt ∧ l3_4.toInt < ((G.1 (F a 8) 6).toInt) ∧ l3_4.toInt < 1080) ∧ x45.toInt = (aI (G.2.1 (F (F a 8) 1)) (l3_4.toInt))) ∨ (¬ (0 ≤ l3_4.toInt ∧ l3_4.toInt < ((G.1 (F a 8) 6).toInt) ∧ l3_4.toInt < 1080) ∧ x45.toInt = -1) := t45
          refine x_clp (x_runV (b := q27) (As := [.ref p0, .int x45]) (rest := []) S (c_X7_state l E K F G s.heap q27 p0 x45 hk27 hp0 (v_X10_changedSince_48_3 (F := F) p0 G rox) (v_X10_changedSince_48_4 (K := K) (F := F) G a x24 q27 l3_4 bkn hs27 t24 ht27)) mv_X7_state km_X10_328 rfl rfl ⟨Nat.le_of_ble_eq_true rfl, Nat.le_of_ble_eq_true rfl⟩ (rc_9 hK hT hk27) hK (fun _ => XPh.blind) (fun U hU hW => XPh.at hK hz hS hT hU hW) rfl hl.1 (Nat.le_of_ble_eq_true rfl) dX10_changedSince_48 ⟨Nat.le_of_ble_eq_true rfl, Nat.le_of_ble_eq_true rfl⟩) hS ?_
          rintro _ _ locs ⟨x48, rfl, t48⟩ hS
          have t48 : x48.toInt = (stt (vw (G.2.1 (F p0 0))) ((G.1 q27 0).toInt) ((G.1 q27 2).toInt) ((G.1 q27 3).toInt) ((G.1 q27 4).toInt) (x45.toInt)) := t48
          refine lv_aload_n hx hb dX10_changedSince_51 rfl (lv_at hl 1 rfl) ?_
          refine gX10_8 S hK hT ha kf_X10_57 dX10_changedSince_52 (fun _ _ => ?_)
          refine lv_iload_n hx hb dX10_changedSince_55 rfl (lv_at hl 4 rfl) ?_
          refine x_clp (x_runV (b := (F a 8)) (As := [.int l3_4]) (rest := [.int x48]) S (c_X4_after l E K F G s.heap (F a 8) l3_4 hk9999b) mv_X4_after km_X10_306 rfl rfl ⟨Nat.le_of_ble_eq_true rfl, Nat.le_of_ble_eq_true rfl⟩ (rc_6 hK hT hk9999b) hK (fun _ => XPh.blind) (fun U hU hW => XPh.at hK hz hS hT hU hW) rfl hl.1 (Nat.le_of_ble_eq_true rfl) dX10_changedSince_56 ⟨Nat.le_of_ble_eq_true rfl, Nat.le_of_ble_eq_true rfl⟩) hS ?_
          rintro _ _ locs ⟨x56, rfl, t56⟩ hS
          obtain ⟨hk56, hj56⟩ := fkX4_3 hT hk9999b
          have hj56a : F (F (F a 8) 3) 99 = 10 * 0 + 3 := by rw [hj56, hj9999b]
          have t56 : ((0 ≤ l3_4.toInt ∧ l3_4.toInt < ((G.1 (F a 8) 6).toInt) ∧ l3_4.toInt < 1080) ∧ x56.toInt = (aI (G.2.1 (F (F a 8) 3)) (l3_4.toInt))) ∨ (¬ (0 ≤ l3_4.toInt ∧ l3_4.toInt < ((G.1 (F a 8) 6).toInt) ∧ l3_4.toInt < 1080) ∧ x56.toInt = -2000) := t56
          refine xi_ceq (tgt := 65) hx hb (t48 : Int32.toInt x48 = (stt (vw (G.2.1 (F p0 0))) ((G.1 q27 0).toInt) ((G.1 q27 2).toInt) ((G.1 q27 3).toInt) ((G.1 q27 4).toInt) (x45.toInt))) (rfl : Int32.toInt x56 = x56.toInt) dX10_changedSince_59 (by decide) (fun c59 => ?_) (fun c59 => ?_)
          · refine xi_iinc (n := 1) (lv' := fun z9 => [(3, .int z9), (4, .ref q27), (0, .ref a), (1, .ref p0), (2, .int l2_4)]) (k := 4) hx hb (rfl : Int32.toInt l3_4 = l3_4.toInt) (by decide) dX10_changedSince_65 hl rfl (by decide) (fun _ => rfl) (fun x65 ls t65 hl => ?_)
            have e65 : x65.toInt = (l3_4.toInt + 1) := (z_X10_changedSince_2 l3_4.toInt x65.toInt ((G.1 (F a 8) 6).toInt) w8 I4_0 t65)
            have hl : lv_has ls 5 [(3, .int x65), (4, .ref q27), (0, .ref a), (1, .ref p0), (2, .int l2_4)] := hl
            refine lv_goto (tgt := 4) hx hb dX10_changedSince_68 (by decide) ?_
            exact ih4 l2_4 x65 _ _ (by rw [(e65 : Int32.toInt x65 = (l3_4.toInt + 1))] <;> exact (v_X10_changedSince_68_5 (K := K) (F := F) a p0 q27 G l2_4 l3_4 x24 x48 x45 N4 x56 ha hp0 pc hs27 t48 w8 I4_0 I4_1 hm4 c12 t24 ht27 t45 t56 c59)) (by rw [(e65 : Int32.toInt x65 = (l3_4.toInt + 1))] <;> exact (z_X10_changedSince_3 l3_4.toInt ((G.1 (F a 8) 6).toInt) I4_0 c12)) (by rw [(e65 : Int32.toInt x65 = (l3_4.toInt + 1))] <;> exact (z_X10_changedSince_4 l2_4.toInt l3_4.toInt I4_1)) (by rw [(e65 : Int32.toInt x65 = (l3_4.toInt + 1))] <;> exact (z_X10_changedSince_5 l3_4.toInt N4 hm4)) hT hS (lv_sub hl [2, 3, 4, 0] rfl)
          · refine xi_iinc (n := 1) (lv' := fun z9 => [(2, .int z9), (4, .ref q27), (0, .ref a), (1, .ref p0), (3, .int l3_4)]) (k := 3) hx hb (rfl : Int32.toInt l2_4 = l2_4.toInt) (by decide) dX10_changedSince_62 hl rfl (by decide) (fun _ => rfl) (fun x62 ls t62 hl => ?_)
            have e62 : x62.toInt = (l2_4.toInt + 1) := (z_X10_changedSince_10 l2_4.toInt l3_4.toInt x62.toInt ((G.1 (F a 8) 6).toInt) w8 I4_1 c12 t62)
            have hl : lv_has ls 5 [(2, .int x62), (4, .ref q27), (0, .ref a), (1, .ref p0), (3, .int l3_4)] := hl
            refine xi_iinc (n := 1) (lv' := fun z9 => [(3, .int z9), (2, .int x62), (4, .ref q27), (0, .ref a), (1, .ref p0)]) (k := 4) hx hb (rfl : Int32.toInt l3_4 = l3_4.toInt) (by decide) dX10_changedSince_65 hl rfl (by decide) (fun _ => rfl) (fun x65 ls t65 hl => ?_)
            have e65 : x65.toInt = (l3_4.toInt + 1) := (z_X10_changedSince_2 l3_4.toInt x65.toInt ((G.1 (F a 8) 6).toInt) w8 I4_0 t65)
            have hl : lv_has ls 5 [(3, .int x65), (2, .int x62), (4, .ref q27), (0, .ref a), (1, .ref p0)] := hl
            refine lv_goto (tgt := 4) hx hb dX10_changedSince_68 (by decide) ?_
            exact ih4 x62 x65 _ _ (by rw [(e62 : Int32.toInt x62 = (l2_4.toInt + 1)), (e65 : Int32.toInt x65 = (l3_4.toInt + 1))] <;> exact (v_X10_changedSince_68_6 (K := K) (F := F) a p0 q27 G l2_4 l3_4 x24 x48 x45 N4 x56 ha hp0 pc hs27 t48 w8 I4_0 I4_1 hm4 c12 t24 ht27 t45 t56 c59)) (by rw [(e65 : Int32.toInt x65 = (l3_4.toInt + 1))] <;> exact (z_X10_changedSince_3 l3_4.toInt ((G.1 (F a 8) 6).toInt) I4_0 c12)) (by rw [(e62 : Int32.toInt x62 = (l2_4.toInt + 1)), (e65 : Int32.toInt x65 = (l3_4.toInt + 1))] <;> exact (z_X10_changedSince_13 l2_4.toInt l3_4.toInt I4_1)) (by rw [(e65 : Int32.toInt x65 = (l3_4.toInt + 1))] <;> exact (z_X10_changedSince_5 l3_4.toInt N4 hm4)) hT hS (lv_sub hl [3, 4, 1, 0] rfl)
  exact L4 4294967297 0 0 _ _ (v_X10_changedSince_3_7 (F := F) a p0 G) (z_X10_changedSince_15 ((G.1 (F a 8) 6).toInt) w8) (by decide) (by decide) hT hS (lv_sub hl [2, 3, 1, 0] rfl)

abbrev rm_X10_settledSince : Room := { frames := 6, cells := 0, slots := 0, locals := 149 }
set_option maxHeartbeats 4000000 in
set_option maxRecDepth 100000 in
theorem c_X10_settledSince (l : Launch) (E : XE) (K : Nat → Nat) (F : Nat → Nat → Nat) (G : XG) (a : Nat) (p0 : Nat) (ha : K a = 12) (hp0 : K p0 = 8) (sb : 0 ≤ ((G.1 (F a 2) 2).toInt) ∧ ((G.1 (F a 2) 2).toInt) ≤ 12) (rox : RO (vw (G.2.1 (F p0 0))) (aI (G.2.1 (F p0 1)))) (j0 : F p0 99 < 12) (rob : RO (vw (G.2.1 (F (F a 4) 0))) (aI (G.2.1 (F (F a 4) 1)))) (ron : RO (vw (G.2.1 (F (F a 3) 0))) (aI (G.2.1 (F (F a 3) 1)))) (bko : BKr K G (G.2.2.1 (F (F a 2) 1))) (bkn : BKr K G (G.2.2.1 (F (F a 2) 0))) : Met l yX10_settledSince (xw yX10_settledSince cX10_settledSince 5 (some .int)) rm_X10_settledSince (va_Pc [.ref a, .ref p0] (XP E K F G)) (XQ E (fun v (u : XG) => ∃ r : Int32, v = .int r ∧ XFr [(F a 11, 3), (F a 9, 6)] [F (F a 11) 0, F (F a 11) 1, F (F a 11) 2, F (F a 9) 0, F (F a 9) 1, F (F a 9) 2, F (F a 9) 3, F (F a 9) 4, F (F a 9) 5] [] G u ∧ (r.toInt = smQ (seQ G (G.2.2.1 (F (F a 2) 0)) (vw (G.2.1 (F (F a 3) 0)))) (gaL G (G.2.2.1 (F (F a 2) 1)) (vw (G.2.1 (F (F a 4) 0))) (vw (G.2.1 (F p0 0))) 1 (((G.1 (F a 2) 2).toInt)).toNat))) (fun u H => TW E K F u H)) 0 0 (xA E) := by
  refine x_enter (by decide) (Nat.le_of_ble_eq_true rfl) ?_
  intro p e s m args below meth c Q S hr hlk hnm hQ hP ls hl
  obtain ⟨hz, hK, hT⟩ := hP
  obtain ⟨hx, hb, -, -, -⟩ := id S
  obtain ⟨H, hT, hS, hgo⟩ : ∃ H : Heap, TW E K F G H ∧ va_S (xA E) s.heap H [] ∧ H = s.heap := ⟨_, hT, va_S.rf, rfl⟩
  rw [← hgo]
  have hl : lv_has ls 5 [(0, .ref a), (1, .ref p0)] := hl
  obtain ⟨hk9999, hj9999⟩ := fkX10_11 hT ha
  obtain ⟨hk9999a, hj9999a⟩ := fkX10_9 hT ha
  obtain ⟨hk9999b, hj9999b⟩ := fkX1_0 hT hk9999
  obtain ⟨hk9999c, hj9999c⟩ := fkX1_1 hT hk9999
  obtain ⟨hk9999d, hj9999d⟩ := fkX1_2 hT hk9999
  obtain ⟨hk9999e, hj9999e⟩ := fkX4_0 hT hk9999a
  have hj9999f : F (F (F a 9) 0) 99 = 10 * 1 + 0 := by rw [hj9999e, hj9999a]
  obtain ⟨hk9999f, hj9999g⟩ := fkX4_1 hT hk9999a
  have hj9999h : F (F (F a 9) 1) 99 = 10 * 1 + 1 := by rw [hj9999g, hj9999a]
  obtain ⟨hk9999g, hj9999i⟩ := fkX4_2 hT hk9999a
  have hj9999j : F (F (F a 9) 2) 99 = 10 * 1 + 2 := by rw [hj9999i, hj9999a]
  obtain ⟨hk9999h, hj9999k⟩ := fkX4_3 hT hk9999a
  have hj9999l : F (F (F a 9) 3) 99 = 10 * 1 + 3 := by rw [hj9999k, hj9999a]
  obtain ⟨hk9999i, hj9999m⟩ := fkX4_4 hT hk9999a
  have hj9999n : F (F (F a 9) 4) 99 = 10 * 1 + 4 := by rw [hj9999m, hj9999a]
  obtain ⟨hk9999j, hj9999o⟩ := fkX4_5 hT hk9999a
  have hj9999p : F (F (F a 9) 5) 99 = 10 * 1 + 5 := by rw [hj9999o, hj9999a]
  obtain ⟨hk9999k, hj9999q⟩ := fkX10_2 hT ha
  obtain ⟨hk9999l, hj9999r⟩ := fkX0_0 hT hk9999k
  obtain ⟨hk9999m, hj9999s⟩ := fkX0_1 hT hk9999k
  obtain ⟨hk9999n, hj9999t⟩ := fkX6_0 hT hp0
  obtain ⟨hk9999o, hj9999u⟩ := fkX6_1 hT hp0
  obtain ⟨hk9999p, hj9999v⟩ := fkX10_4 hT ha
  obtain ⟨hk9999q, hj9999w⟩ := fkX6_0 hT hk9999p
  have hj9999y : F (F (F a 4) 0) 99 = 1 := by rw [hj9999w, hj9999v]
  obtain ⟨hk9999r, hj9999z25⟩ := fkX6_1 hT hk9999p
  have hj9999z26 : F (F (F a 4) 1) 99 = 1 := by rw [hj9999z25, hj9999v]
  obtain ⟨hk9999s, hj9999z27⟩ := fkX10_3 hT ha
  obtain ⟨hk9999t, hj9999z28⟩ := fkX6_0 hT hk9999s
  have hj9999z29 : F (F (F a 3) 0) 99 = 0 := by rw [hj9999z28, hj9999z27]
  obtain ⟨hk9999u, hj9999z30⟩ := fkX6_1 hT hk9999s
  have hj9999z31 : F (F (F a 3) 1) 99 = 0 := by rw [hj9999z30, hj9999z27]
  refine lv_aload_n hx hb dX10_settledSince_0 rfl (lv_at hl 0 rfl) ?_
  refine lv_aload_n hx hb dX10_settledSince_1 rfl (lv_at hl 0 rfl) ?_
  refine gX10_9 S hK hT ha kf_X10_61 dX10_settledSince_2 (fun _ _ => ?_)
  refine lv_aload_n hx hb dX10_settledSince_5 rfl (lv_at hl 0 rfl) ?_
  refine gX10_4 S hK hT ha kf_X10_41 dX10_settledSince_6 (fun _ _ => ?_)
  refine lv_aload_n hx hb dX10_settledSince_9 rfl (lv_at hl 1 rfl) ?_
  refine lv_iconst (v := 1) hx hb dX10_settledSince_10 (by decide) ?_
  refine x_cv0 (x_runV (b := a) (As := [.ref (F a 9), .ref (F a 4), .ref p0, .int 1]) (rest := []) S (c_X10_gather l E K F G a (F a 9) (F a 4) p0 1 ha hk9999a hk9999p hp0 (sb) (v_X10_settledSince_11_1 (F := F) a G rob) (v_X10_settledSince_11_2 (F := F) p0 G rox) (v_X10_settledSince_11_3 (K := K) (F := F) G a bko) (v_X10_settledSince_11_4 (K := K) (F := F) a p0 G ha hp0 hk9999 hj9999 hk9999a hj9999a hk9999b hj9999b hk9999c hj9999c hk9999d hj9999d hk9999e hj9999f hk9999f hj9999h hk9999g hj9999j hk9999h hj9999l hk9999i hj9999n hk9999j hj9999p hk9999k hj9999q hk9999l hj9999r hk9999m hj9999s hk9999n hj9999t hk9999o hj9999u hk9999p hj9999v hk9999q hj9999y hk9999r hj9999z26 hk9999s hj9999z27 hk9999t hj9999z29 hk9999u hj9999z31 rox j0 rob ron bko bkn sb) (v_X10_settledSince_11_5 (F := F) p0 j0)) mv_X10_gather km_X10_240 rfl rfl ⟨Nat.le_of_ble_eq_true rfl, Nat.le_of_ble_eq_true rfl⟩ (rc_12 hK hT ha) hK (fun _ => XP.blind) (fun U hU hW => XP.at hK hz hS hT hU hW) rfl hl.1 (Nat.le_of_ble_eq_true rfl) dX10_settledSince_11 ⟨Nat.le_of_ble_eq_true rfl, Nat.le_of_ble_eq_true rfl⟩) hS ?_
  rintro G11 H locs ⟨hF11, t11, oq11⟩ hT hS
  have t11 : 0 ≤ ((G11.1 (F a 9) 6).toInt) ∧ ((G11.1 (F a 9) 6).toInt) ≤ 1080 := t11
  refine lv_iconst (v := 0) hx hb dX10_settledSince_14 (by decide) ?_
  refine lv_istore_n (lv' := [(2, .int 0), (0, .ref a), (1, .ref p0)]) hx hb dX10_settledSince_15 rfl hl (by decide) rfl (fun ls hl => ?_)
  refine lv_iconst (v := 0) hx hb dX10_settledSince_16 (by decide) ?_
  refine lv_istore_n (lv' := [(3, .int 0), (2, .int 0), (0, .ref a), (1, .ref p0)]) hx hb dX10_settledSince_17 rfl hl (by decide) rfl (fun ls hl => ?_)
  have L18 : ∀ (N18 : Nat) (l2_18 : Int32) (l3_18 : Int32) (H : Heap) (locs : List Loc) (ls : Array Slot), l2_18.toInt = smS (fun j => seQ G (G.2.2.1 (F (F a 2) 0)) (vw (G.2.1 (F (F a 3) 0))) (qtI G11 F (F a 9) j)) 0 l3_18.toInt → 0 ≤ l3_18.toInt ∧ l3_18.toInt ≤ ((G11.1 (F a 9) 6).toInt) → 0 ≤ l2_18.toInt ∧ l2_18.toInt ≤ l3_18.toInt → 5000 - l3_18.toInt < ((N18 : Nat) : Int) → TW E K F G11 H → va_S (xA E) s.heap H locs → lv_has ls 5 [(0, .ref a), (2, .int l2_18), (3, .int l3_18)] → W p l e rm_X10_settledSince s m args below meth c H locs 0 0 Q (F0 m 18 ls []) := by
    intro N18
    induction N18 with
    | zero =>
      intro l2_18 l3_18 H locs ls pc I18_0 I18_1 hm18
      exact absurd hm18 (z_X10_changedSince_1 l3_18.toInt ((G11.1 (F a 9) 6).toInt) I18_0 t11)
    | succ N18 ih18 =>
      intro l2_18 l3_18 H locs ls pc I18_0 I18_1 hm18 hT hS hl
      refine lv_iload_n hx hb dX10_settledSince_18 rfl (lv_at hl 2 rfl) ?_
      refine lv_aload_n hx hb dX10_settledSince_19 rfl (lv_at hl 0 rfl) ?_
      refine gX10_9 S hK hT ha kf_X10_61 dX10_settledSince_20 (fun _ _ => ?_)
      refine x_clp (x_runV (b := (F a 9)) (As := []) (rest := [.int l3_18]) S (c_X4_size l E K F G11 H (F a 9) hk9999a) mv_X4_size km_X10_232 rfl rfl ⟨Nat.le_of_ble_eq_true rfl, Nat.le_of_ble_eq_true rfl⟩ (rc_6 hK hT hk9999a) hK (fun _ => XPh.blind) (fun U hU hW => XPh.at hK hz hS hT hU hW) rfl hl.1 (Nat.le_of_ble_eq_true rfl) dX10_settledSince_23 ⟨Nat.le_of_ble_eq_true rfl, Nat.le_of_ble_eq_true rfl⟩) hS ?_
      rintro _ _ locs ⟨x23, rfl, t23⟩ hS
      have t23 : x23.toInt = ((G11.1 (F a 9) 6).toInt) := t23
      refine xi_cge (tgt := 88) hx hb (rfl : Int32.toInt l3_18 = l3_18.toInt) (t23 : Int32.toInt x23 = ((G11.1 (F a 9) 6).toInt)) dX10_settledSince_26 (by decide) (fun c26 => ?_) (fun c26 => ?_)
      · refine lv_iload_n hx hb dX10_settledSince_88 rfl (lv_at hl 1 rfl) ?_
        exact x_ri hx hb hr hlk hQ (Nat.le_of_ble_eq_true rfl) (Nat.le_of_ble_eq_true rfl) hS dX10_settledSince_89 G11 ⟨_, rfl, (XFr.call XFr.rf hF11 (xm1 0 rfl (xm1 1 rfl xm0)) (xm1 0 rfl (xm1 1 rfl (xm1 2 rfl (xm1 3 rfl (xm1 4 rfl (xm1 5 rfl (xm1 6 rfl (xm1 7 rfl (xm1 8 rfl xm0))))))))) xm0), (v_X10_settledSince_89_6 (K := K) (F := F) a p0 G G11 l2_18 l3_18 N18 ha hp0 j0 oq11 pc sb t11 I18_0 I18_1 hm18 c26)⟩ hT
      · refine lv_aload_n hx hb dX10_settledSince_29 rfl (lv_at hl 0 rfl) ?_
        refine gX10_2 S hK hT ha kf_X10_30 dX10_settledSince_30 (fun _ _ => ?_)
        refine lv_aload_n hx hb dX10_settledSince_33 rfl (lv_at hl 0 rfl) ?_
        refine gX10_9 S hK hT ha kf_X10_61 dX10_settledSince_34 (fun _ _ => ?_)
        refine lv_iload_n hx hb dX10_settledSince_37 rfl (lv_at hl 2 rfl) ?_
        refine x_clp (x_runV (b := (F a 9)) (As := [.int l3_18]) (rest := [.ref (F a 2)]) S (c_X4_number l E K F G11 H (F a 9) l3_18 hk9999a) mv_X4_number km_X10_301 rfl rfl ⟨Nat.le_of_ble_eq_true rfl, Nat.le_of_ble_eq_true rfl⟩ (rc_6 hK hT hk9999a) hK (fun _ => XPh.blind) (fun U hU hW => XPh.at hK hz hS hT hU hW) rfl hl.1 (Nat.le_of_ble_eq_true rfl) dX10_settledSince_38 ⟨Nat.le_of_ble_eq_true rfl, Nat.le_of_ble_eq_true rfl⟩) hS ?_
        rintro _ _ locs ⟨x38, rfl, t38⟩ hS
        have t38 : ((0 ≤ l3_18.toInt ∧ l3_18.toInt < ((G11.1 (F a 9) 6).toInt) ∧ l3_18.toInt < 1080) ∧ x38.toInt = (aI (G11.2.1 (F (F a 9) 0)) (l3_18.toInt))) ∨ (¬ (0 ≤ l3_18.toInt ∧ l3_18.toInt < ((G11.1 (F a 9) 6).toInt) ∧ l3_18.toInt < 1080) ∧ x38.toInt = -1) := t38
        refine x_clp (x_runV (b := (F a 2)) (As := [.int x38]) (rest := []) S (c_X0_get l E K F G11 H (F a 2) x38 hk9999k) mv_X0_get km_X10_159 rfl rfl ⟨Nat.le_of_ble_eq_true rfl, Nat.le_of_ble_eq_true rfl⟩ (rc_2 hK hT hk9999k) hK (fun _ => XPh.blind) (fun U hU hW => XPh.at hK hz hS hT hU hW) rfl hl.1 (Nat.le_of_ble_eq_true rfl) dX10_settledSince_41 ⟨Nat.le_of_ble_eq_true rfl, Nat.le_of_ble_eq_true rfl⟩) hS ?_
        rintro _ _ locs (⟨rfl, hn41⟩ | ⟨q41, rfl, hk41, ht41, hs41⟩) hS
        · refine lv_astoreN (lv' := [(4, .null), (0, .ref a), (2, .int l2_18), (3, .int l3_18)]) hx hb dX10_settledSince_44 hl (by decide) rfl (fun ls hl => ?_)
          refine lv_aloadN hx hb dX10_settledSince_46 (lv_at hl 0 rfl) ?_
          refine lv_ifnullN (tgt := 82) hx hb dX10_settledSince_48 (by decide) ?_
          refine xi_iinc (n := 1) (lv' := fun z9 => [(3, .int z9), (4, .null), (0, .ref a), (2, .int l2_18)]) (k := 3) hx hb (rfl : Int32.toInt l3_18 = l3_18.toInt) (by decide) dX10_settledSince_82 hl rfl (by decide) (fun _ => rfl) (fun x82 ls t82 hl => ?_)
          have e82 : x82.toInt = (l3_18.toInt + 1) := (z_X10_changedSince_2 l3_18.toInt x82.toInt ((G11.1 (F a 9) 6).toInt) t11 I18_0 t82)
          have hl : lv_has ls 5 [(3, .int x82), (4, .null), (0, .ref a), (2, .int l2_18)] := hl
          refine lv_goto (tgt := 18) hx hb dX10_settledSince_85 (by decide) ?_
          exact ih18 l2_18 x82 _ _ _ (by rw [(e82 : Int32.toInt x82 = (l3_18.toInt + 1))] <;> exact (v_X10_settledSince_85_7 (K := K) (F := F) a p0 G G11 l2_18 l3_18 x38 N18 ha hp0 j0 pc hn41 sb t11 I18_0 I18_1 hm18 c26 t38 (hF11.2.2 _ xn0))) (by rw [(e82 : Int32.toInt x82 = (l3_18.toInt + 1))] <;> exact (z_X10_changedSince_3 l3_18.toInt ((G11.1 (F a 9) 6).toInt) I18_0 c26)) (by rw [(e82 : Int32.toInt x82 = (l3_18.toInt + 1))] <;> exact (z_X10_changedSince_4 l2_18.toInt l3_18.toInt I18_1)) (by rw [(e82 : Int32.toInt x82 = (l3_18.toInt + 1))] <;> exact (z_X10_changedSince_5 l3_18.toInt N18 hm18)) hT hS (lv_sub hl [2, 3, 0] rfl)
        · have ht41 : 0 ≤ x38.toInt ∧ x38.toInt < 12 := ht41
          refine lv_astore (lv' := [(4, .ref q41), (0, .ref a), (2, .int l2_18), (3, .int l3_18)]) hx hb dX10_settledSince_44 hl (by decide) rfl (fun ls hl => ?_)
          refine lv_aload hx hb dX10_settledSince_46 (lv_at hl 0 rfl) ?_
          refine lv_ifnull hx hb dX10_settledSince_48 ?_
          refine lv_aload hx hb dX10_settledSince_51 (lv_at hl 0 rfl) ?_
          refine lv_aload_n hx hb dX10_settledSince_53 rfl (lv_at hl 1 rfl) ?_
          refine gX10_3 S hK hT ha kf_X10_37 dX10_settledSince_54 (fun _ _ => ?_)
          refine lv_aload_n hx hb dX10_settledSince_57 rfl (lv_at hl 1 rfl) ?_
          refine gX10_9 S hK hT ha kf_X10_61 dX10_settledSince_58 (fun _ _ => ?_)
          refine lv_iload_n hx hb dX10_settledSince_61 rfl (lv_at hl 3 rfl) ?_
          refine x_clp (x_runV (b := (F a 9)) (As := [.int l3_18]) (rest := [.ref (F a 3), .ref q41]) S (c_X4_subject l E K F G11 H (F a 9) l3_18 hk9999a) mv_X4_subject km_X10_147 rfl rfl ⟨Nat.le_of_ble_eq_true rfl, Nat.le_of_ble_eq_true rfl⟩ (rc_6 hK hT hk9999a) hK (fun _ => XPh.blind) (fun U hU hW => XPh.at hK hz hS hT hU hW) rfl hl.1 (Nat.le_of_ble_eq_true rfl) dX10_settledSince_62 ⟨Nat.le_of_ble_eq_true rfl, Nat.le_of_ble_eq_true rfl⟩) hS ?_
          rintro _ _ locs ⟨x62, rfl, t62⟩ hS
          have t62 : ((0 ≤ l3_18.toInt ∧ l3_18.toInt < ((G11.1 (F a 9) 6).toInt) ∧ l3_18.toInt < 1080) ∧ x62.toInt = (aI (G11.2.1 (F (F a 9) 1)) (l3_18.toInt))) ∨ (¬ (0 ≤ l3_18.toInt ∧ l3_18.toInt < ((G11.1 (F a 9) 6).toInt) ∧ l3_18.toInt < 1080) ∧ x62.toInt = -1) := t62
          refine x_clp (x_runV (b := q41) (As := [.ref (F a 3), .int x62]) (rest := []) S (c_X7_state l E K F G11 H q41 (F a 3) x62 hk41 hk9999s (v_X10_settledSince_65_8 (F := F) a p0 G G11 rox rob ron (hF11.2.1 _ (xn1 (xne_k hk9999t hk9999b (by decide)) (xn1 (xne_k hk9999t hk9999c (by decide)) (xn1 (xne_k hk9999t hk9999d (by decide)) (xn1 (xne_k hk9999t hk9999e (by decide)) (xn1 (xne_k hk9999t hk9999f (by decide)) (xn1 (xne_k hk9999t hk9999g (by decide)) (xn1 (xne_k hk9999t hk9999h (by decide)) (xn1 (xne_k hk9999t hk9999i (by decide)) (xn1 (xne_k hk9999t hk9999j (by decide)) xn0)))))))))) (hF11.2.1 _ (xn1 (xne_j hj9999z31 hj9999b (by first | decide | omega)) (xn1 (xne_j hj9999z31 hj9999c (by first | decide | omega)) (xn1 (xne_k hk9999u hk9999d (by decide)) (xn1 (xne_k hk9999u hk9999e (by decide)) (xn1 (xne_k hk9999u hk9999f (by decide)) (xn1 (xne_k hk9999u hk9999g (by decide)) (xn1 (xne_k hk9999u hk9999h (by decide)) (xn1 (xne_k hk9999u hk9999i (by decide)) (xn1 (xne_k hk9999u hk9999j (by decide)) xn0))))))))))) (v_X10_settledSince_65_9 (K := K) (F := F) G a G11 x38 q41 bkn hs41 ht41 (hF11.2.2 _ xn0) (fr_A hF11 (fun _ => (xna (xne_k hk41 hk9999 (by decide)) (xna (xne_k hk41 hk9999a (by decide)) xn0)))))) mv_X7_state km_X10_328 rfl rfl ⟨Nat.le_of_ble_eq_true rfl, Nat.le_of_ble_eq_true rfl⟩ (rc_9 hK hT hk41) hK (fun _ => XPh.blind) (fun U hU hW => XPh.at hK hz hS hT hU hW) rfl hl.1 (Nat.le_of_ble_eq_true rfl) dX10_settledSince_65 ⟨Nat.le_of_ble_eq_true rfl, Nat.le_of_ble_eq_true rfl⟩) hS ?_
          rintro _ _ locs ⟨x65, rfl, t65⟩ hS
          have t65 : x65.toInt = (stt (vw (G.2.1 (F (F a 3) 0))) ((G.1 q41 0).toInt) ((G.1 q41 2).toInt) ((G.1 q41 3).toInt) ((G.1 q41 4).toInt) (x62.toInt)) := by rw [(show G11.2.1 (F (F a 3) 0) = G.2.1 (F (F a 3) 0) from (hF11.2.1 _ (xn1 (xne_k hk9999t hk9999b (by decide)) (xn1 (xne_k hk9999t hk9999c (by decide)) (xn1 (xne_k hk9999t hk9999d (by decide)) (xn1 (xne_k hk9999t hk9999e (by decide)) (xn1 (xne_k hk9999t hk9999f (by decide)) (xn1 (xne_k hk9999t hk9999g (by decide)) (xn1 (xne_k hk9999t hk9999h (by decide)) (xn1 (xne_k hk9999t hk9999i (by decide)) (xn1 (xne_k hk9999t hk9999j (by decide)) xn0)))))))))))] at t65; rw [(show (G11.1 q41 0).toInt = ((G.1 q41 0).toInt) from (congrArg Int32.toInt (hF11.1 _ _ (xnj (by decide) (xnj (by decide) xn0)))).trans (rfl : Int32.toInt (G.1 q41 0) = ((G.1 q41 0).toInt)))] at t65; rw [(show (G11.1 q41 2).toInt = ((G.1 q41 2).toInt) from (congrArg Int32.toInt (hF11.1 _ _ (xnj (by decide) (xnj (by decide) xn0)))).trans (rfl : Int32.toInt (G.1 q41 2) = ((G.1 q41 2).toInt)))] at t65; rw [(show (G11.1 q41 3).toInt = ((G.1 q41 3).toInt) from (congrArg Int32.toInt (hF11.1 _ _ (xna (xne_k hk41 hk9999 (by decide)) (xnj (by decide) xn0)))).trans (rfl : Int32.toInt (G.1 q41 3) = ((G.1 q41 3).toInt)))] at t65; rw [(show (G11.1 q41 4).toInt = ((G.1 q41 4).toInt) from (congrArg Int32.toInt (hF11.1 _ _ (xnj (by decide) (xnj (by decide) xn0)))).trans (rfl : Int32.toInt (G.1 q41 4) = ((G.1 q41 4).toInt)))] at t65; exact t65
          refine lv_aload_n hx hb dX10_settledSince_68 rfl (lv_at hl 1 rfl) ?_
          refine gX10_9 S hK hT ha kf_X10_61 dX10_settledSince_69 (fun _ _ => ?_)
          refine lv_iload_n hx hb dX10_settledSince_72 rfl (lv_at hl 3 rfl) ?_
          refine x_clp (x_runV (b := (F a 9)) (As := [.int l3_18]) (rest := [.int x65]) S (c_X4_before l E K F G11 H (F a 9) l3_18 hk9999a) mv_X4_before km_X10_303 rfl rfl ⟨Nat.le_of_ble_eq_true rfl, Nat.le_of_ble_eq_true rfl⟩ (rc_6 hK hT hk9999a) hK (fun _ => XPh.blind) (fun U hU hW => XPh.at hK hz hS hT hU hW) rfl hl.1 (Nat.le_of_ble_eq_true rfl) dX10_settledSince_73 ⟨Nat.le_of_ble_eq_true rfl, Nat.le_of_ble_eq_true rfl⟩) hS ?_
          rintro _ _ locs ⟨x73, rfl, t73⟩ hS
          have t73 : ((0 ≤ l3_18.toInt ∧ l3_18.toInt < ((G11.1 (F a 9) 6).toInt) ∧ l3_18.toInt < 1080) ∧ x73.toInt = (aI (G11.2.1 (F (F a 9) 2)) (l3_18.toInt))) ∨ (¬ (0 ≤ l3_18.toInt ∧ l3_18.toInt < ((G11.1 (F a 9) 6).toInt) ∧ l3_18.toInt < 1080) ∧ x73.toInt = -2000) := t73
          refine xi_cne (tgt := 82) hx hb (t65 : Int32.toInt x65 = (stt (vw (G.2.1 (F (F a 3) 0))) ((G.1 q41 0).toInt) ((G.1 q41 2).toInt) ((G.1 q41 3).toInt) ((G.1 q41 4).toInt) (x62.toInt))) (rfl : Int32.toInt x73 = x73.toInt) dX10_settledSince_76 (by decide) (fun c76 => ?_) (fun c76 => ?_)
          · refine xi_iinc (n := 1) (lv' := fun z9 => [(3, .int z9), (4, .ref q41), (0, .ref a), (2, .int l2_18)]) (k := 3) hx hb (rfl : Int32.toInt l3_18 = l3_18.toInt) (by decide) dX10_settledSince_82 hl rfl (by decide) (fun _ => rfl) (fun x82 ls t82 hl => ?_)
            have e82 : x82.toInt = (l3_18.toInt + 1) := (z_X10_changedSince_2 l3_18.toInt x82.toInt ((G11.1 (F a 9) 6).toInt) t11 I18_0 t82)
            have hl : lv_has ls 5 [(3, .int x82), (4, .ref q41), (0, .ref a), (2, .int l2_18)] := hl
            refine lv_goto (tgt := 18) hx hb dX10_settledSince_85 (by decide) ?_
            exact ih18 l2_18 x82 _ _ _ (by rw [(e82 : Int32.toInt x82 = (l3_18.toInt + 1))] <;> exact (v_X10_settledSince_85_10 (K := K) (F := F) a p0 q41 G G11 l2_18 l3_18 x38 x65 x62 N18 x73 ha hp0 j0 pc hs41 t65 sb t11 I18_0 I18_1 hm18 c26 t38 ht41 t62 t73 c76 (hF11.2.2 _ xn0))) (by rw [(e82 : Int32.toInt x82 = (l3_18.toInt + 1))] <;> exact (z_X10_changedSince_3 l3_18.toInt ((G11.1 (F a 9) 6).toInt) I18_0 c26)) (by rw [(e82 : Int32.toInt x82 = (l3_18.toInt + 1))] <;> exact (z_X10_changedSince_4 l2_18.toInt l3_18.toInt I18_1)) (by rw [(e82 : Int32.toInt x82 = (l3_18.toInt + 1))] <;> exact (z_X10_changedSince_5 l3_18.toInt N18 hm18)) hT hS (lv_sub hl [2, 3, 0] rfl)
          · refine xi_iinc (n := 1) (lv' := fun z9 => [(2, .int z9), (4, .ref q41), (0, .ref a), (3, .int l3_18)]) (k := 2) hx hb (rfl : Int32.toInt l2_18 = l2_18.toInt) (by decide) dX10_settledSince_79 hl rfl (by decide) (fun _ => rfl) (fun x79 ls t79 hl => ?_)
            have e79 : x79.toInt = (l2_18.toInt + 1) := (z_X10_changedSince_10 l2_18.toInt l3_18.toInt x79.toInt ((G11.1 (F a 9) 6).toInt) t11 I18_1 c26 t79)
            have hl : lv_has ls 5 [(2, .int x79), (4, .ref q41), (0, .ref a), (3, .int l3_18)] := hl
            refine xi_iinc (n := 1) (lv' := fun z9 => [(3, .int z9), (2, .int x79), (4, .ref q41), (0, .ref a)]) (k := 3) hx hb (rfl : Int32.toInt l3_18 = l3_18.toInt) (by decide) dX10_settledSince_82 hl rfl (by decide) (fun _ => rfl) (fun x82 ls t82 hl => ?_)
            have e82 : x82.toInt = (l3_18.toInt + 1) := (z_X10_changedSince_2 l3_18.toInt x82.toInt ((G11.1 (F a 9) 6).toInt) t11 I18_0 t82)
            have hl : lv_has ls 5 [(3, .int x82), (2, .int x79), (4, .ref q41), (0, .ref a)] := hl
            refine lv_goto (tgt := 18) hx hb dX10_settledSince_85 (by decide) ?_
            exact ih18 x79 x82 _ _ _ (by rw [(e79 : Int32.toInt x79 = (l2_18.toInt + 1)), (e82 : Int32.toInt x82 = (l3_18.toInt + 1))] <;> exact (v_X10_settledSince_85_11 (K := K) (F := F) a p0 q41 G G11 l2_18 l3_18 x38 x65 x62 N18 x73 ha hp0 j0 pc hs41 t65 sb t11 I18_0 I18_1 hm18 c26 t38 ht41 t62 t73 c76 (hF11.2.2 _ xn0))) (by rw [(e82 : Int32.toInt x82 = (l3_18.toInt + 1))] <;> exact (z_X10_changedSince_3 l3_18.toInt ((G11.1 (F a 9) 6).toInt) I18_0 c26)) (by rw [(e79 : Int32.toInt x79 = (l2_18.toInt + 1)), (e82 : Int32.toInt x82 = (l3_18.toInt + 1))] <;> exact (z_X10_changedSince_13 l2_18.toInt l3_18.toInt I18_1)) (by rw [(e82 : Int32.toInt x82 = (l3_18.toInt + 1))] <;> exact (z_X10_changedSince_5 l3_18.toInt N18 hm18)) hT hS (lv_sub hl [3, 1, 0] rfl)
  exact L18 4294967297 0 0 _ _ _ (v_X10_settledSince_17_12 (F := F) a G G11) (z_X10_changedSince_15 ((G11.1 (F a 9) 6).toInt) t11) (by decide) (by decide) hT hS (lv_sub hl [2, 1, 0] rfl)

abbrev rm_X10_fresh : Room := { frames := 7, cells := 0, slots := 0, locals := 173 }
set_option maxHeartbeats 4000000 in
set_option maxRecDepth 100000 in
theorem c_X10_fresh (l : Launch) (E : XE) (K : Nat → Nat) (F : Nat → Nat → Nat) (G : XG) (a : Nat) (p0 : Int32) (p1 : Int32) (ha : K a = 12) (sb : 0 ≤ ((G.1 (F a 2) 2).toInt) ∧ ((G.1 (F a 2) 2).toInt) ≤ 12) (w8 : 0 ≤ ((G.1 (F a 8) 6).toInt) ∧ ((G.1 (F a 8) 6).toInt) ≤ 1080) (rob : RO (vw (G.2.1 (F (F a 4) 0))) (aI (G.2.1 (F (F a 4) 1)))) (ron : RO (vw (G.2.1 (F (F a 3) 0))) (aI (G.2.1 (F (F a 3) 1)))) (bko : BKr K G (G.2.2.1 (F (F a 2) 1))) (bkn : BKr K G (G.2.2.1 (F (F a 2) 0))) (rok : ∀ (i q : Nat), i < 8 → G.2.2.1 (F a 7) i = some q → RO (vw (G.2.1 (F q 0))) (aI (G.2.1 (F q 1)))) : Met l yX10_fresh (xw yX10_fresh cX10_fresh 4 (some .int)) rm_X10_fresh (va_Pc [.ref a, .int p0, .int p1] (XP E K F G)) (XQ E (fun v (u : XG) => ∃ r : Int32, v = .int r ∧ XFr [(F a 11, 3), (F a 9, 6)] [F (F a 11) 0, F (F a 11) 1, F (F a 11) 2, F (F a 9) 0, F (F a 9) 1, F (F a 9) 2, F (F a 9) 3, F (F a 9) 4, F (F a 9) 5] [] G u ∧ ((((p0.toInt < 0 ∨ ((G.1 a 17).toInt) ≤ p0.toInt ∨ 8 ≤ p0.toInt) ∨ p1.toInt < 0 ∨ 1 < p1.toInt) ∧ r.toInt = -1) ∨ (∃ q : Nat, (0 ≤ p0.toInt ∧ p0.toInt < ((G.1 a 17).toInt) ∧ p0.toInt < 8) ∧ G.2.2.1 (F a 7) (p0.toInt).toNat = some q ∧ ((p1.toInt = 0 ∧ r.toInt = smQ (chQ G (G.2.2.1 (F (F a 2) 0)) (vw (G.2.1 (F q 0)))) (qL G F (F a 8))) ∨ (p1.toInt = 1 ∧ r.toInt = smQ (seQ G (G.2.2.1 (F (F a 2) 0)) (vw (G.2.1 (F (F a 3) 0)))) (gaL G (G.2.2.1 (F (F a 2) 1)) (vw (G.2.1 (F (F a 4) 0))) (vw (G.2.1 (F q 0))) 1 (((G.1 (F a 2) 2).toInt)).toNat)))))) (fun u H => TW E K F u H)) 0 0 (xA E) := by
  refine x_enter (by decide) (Nat.le_of_ble_eq_true rfl) ?_
  intro p e s m args below meth c Q S hr hlk hnm hQ hP ls hl
  obtain ⟨hz, hK, hT⟩ := hP
  obtain ⟨hx, hb, -, -, -⟩ := id S
  obtain ⟨H, hT, hS, hgo⟩ : ∃ H : Heap, TW E K F G H ∧ va_S (xA E) s.heap H [] ∧ H = s.heap := ⟨_, hT, va_S.rf, rfl⟩
  rw [← hgo]
  have hl : lv_has ls 4 [(0, .ref a), (1, .int p0), (2, .int p1)] := hl
  obtain ⟨hk9999, hj9999⟩ := fkX10_11 hT ha
  obtain ⟨hk9999a, hj9999a⟩ := fkX10_9 hT ha
  obtain ⟨hk9999b, hj9999b⟩ := fkX1_0 hT hk9999
  obtain ⟨hk9999c, hj9999c⟩ := fkX1_1 hT hk9999
  obtain ⟨hk9999d, hj9999d⟩ := fkX1_2 hT hk9999
  obtain ⟨hk9999e, hj9999e⟩ := fkX4_0 hT hk9999a
  have hj9999f : F (F (F a 9) 0) 99 = 10 * 1 + 0 := by rw [hj9999e, hj9999a]
  obtain ⟨hk9999f, hj9999g⟩ := fkX4_1 hT hk9999a
  have hj9999h : F (F (F a 9) 1) 99 = 10 * 1 + 1 := by rw [hj9999g, hj9999a]
  obtain ⟨hk9999g, hj9999i⟩ := fkX4_2 hT hk9999a
  have hj9999j : F (F (F a 9) 2) 99 = 10 * 1 + 2 := by rw [hj9999i, hj9999a]
  obtain ⟨hk9999h, hj9999k⟩ := fkX4_3 hT hk9999a
  have hj9999l : F (F (F a 9) 3) 99 = 10 * 1 + 3 := by rw [hj9999k, hj9999a]
  obtain ⟨hk9999i, hj9999m⟩ := fkX4_4 hT hk9999a
  have hj9999n : F (F (F a 9) 4) 99 = 10 * 1 + 4 := by rw [hj9999m, hj9999a]
  obtain ⟨hk9999j, hj9999o⟩ := fkX4_5 hT hk9999a
  have hj9999p : F (F (F a 9) 5) 99 = 10 * 1 + 5 := by rw [hj9999o, hj9999a]
  obtain ⟨hk9999k, hj9999q⟩ := fkX10_2 hT ha
  obtain ⟨hk9999l, hj9999r⟩ := fkX0_0 hT hk9999k
  obtain ⟨hk9999m, hj9999s⟩ := fkX0_1 hT hk9999k
  obtain ⟨hk9999n, hj9999t⟩ := fkX10_7 hT ha
  obtain ⟨hk9999o, hj9999u⟩ := fkX10_8 hT ha
  obtain ⟨hk9999p, hj9999v⟩ := fkX10_4 hT ha
  obtain ⟨hk9999q, hj9999w⟩ := fkX6_0 hT hk9999p
  have hj9999y : F (F (F a 4) 0) 99 = 1 := by rw [hj9999w, hj9999v]
  obtain ⟨hk9999r, hj9999z25⟩ := fkX6_1 hT hk9999p
  have hj9999z26 : F (F (F a 4) 1) 99 = 1 := by rw [hj9999z25, hj9999v]
  obtain ⟨hk9999s, hj9999z27⟩ := fkX10_3 hT ha
  obtain ⟨hk9999t, hj9999z28⟩ := fkX6_0 hT hk9999s
  have hj9999z29 : F (F (F a 3) 0) 99 = 0 := by rw [hj9999z28, hj9999z27]
  obtain ⟨hk9999u, hj9999z30⟩ := fkX6_1 hT hk9999s
  have hj9999z31 : F (F (F a 3) 1) 99 = 0 := by rw [hj9999z30, hj9999z27]
  refine lv_aload_n hx hb dX10_fresh_0 rfl (lv_at hl 0 rfl) ?_
  refine lv_iload_n hx hb dX10_fresh_1 rfl (lv_at hl 1 rfl) ?_
  refine x_clp (x_runV (b := a) (As := [.int p0]) (rest := []) S (c_X10_rowsAtMark l E K F G H a p0 ha) mv_X10_rowsAtMark km_X10_236 rfl rfl ⟨Nat.le_of_ble_eq_true rfl, Nat.le_of_ble_eq_true rfl⟩ (rc_12 hK hT ha) hK (fun _ => XPh.blind) (fun U hU hW => XPh.at hK hz hS hT hU hW) rfl hl.1 (Nat.le_of_ble_eq_true rfl) dX10_fresh_2 ⟨Nat.le_of_ble_eq_true rfl, Nat.le_of_ble_eq_true rfl⟩) hS ?_
  rintro _ _ locs (⟨rfl, hn2⟩ | ⟨q2, rfl, hk2, ht2, hs2⟩) hS
  · refine lv_astore_nN (lv' := [(3, .null), (0, .ref a), (1, .int p0), (2, .int p1)]) hx hb dX10_fresh_5 rfl hl (by decide) rfl (fun ls hl => ?_)
    refine lv_aload_nN hx hb dX10_fresh_6 rfl (lv_at hl 0 rfl) ?_
    refine lv_ifnonnullN hx hb dX10_fresh_7 ?_
    refine lv_iconst (v := (-1)) hx hb dX10_fresh_10 (by decide) ?_
    exact x_ri hx hb hr hlk hQ (Nat.le_of_ble_eq_true rfl) (Nat.le_of_ble_eq_true rfl) hS dX10_fresh_11 G ⟨_, rfl, XFr.rf, (by rw [((by decide) : Int32.toInt (-1) = (-1 : Int))] <;> exact (v_X10_fresh_11_1 (F := F) a G p0 p1 hn2))⟩ hT
  · have ht2 : 0 ≤ p0.toInt ∧ p0.toInt < ((G.1 a 17).toInt) ∧ p0.toInt < 8 := ht2
    refine lv_astore_n (lv' := [(3, .ref q2), (0, .ref a), (1, .int p0), (2, .int p1)]) hx hb dX10_fresh_5 rfl hl (by decide) rfl (fun ls hl => ?_)
    refine lv_aload_n hx hb dX10_fresh_6 rfl (lv_at hl 0 rfl) ?_
    refine lv_ifnonnull (tgt := 12) hx hb dX10_fresh_7 (by decide) ?_
    refine lv_iload_n hx hb dX10_fresh_12 rfl (lv_at hl 3 rfl) ?_
    rcases ((z_X10_question_1 p1.toInt) : (¬ p1.toInt = 0 ∧ ¬ p1.toInt = 1) ∨ (p1.toInt = 0) ∨ (p1.toInt = 1)) with c13 | c13 | c13
    · refine lv_lookup (off := 39) (tgt := 52) hx hb dX10_fresh_13 (by decide) (by first | (simp only [Op.lookupswitch.offset_cons, Op.lookupswitch.offset_nil]; (repeat' split) <;> omega) | (simp [Op.lookupswitch.offset]; (repeat' split) <;> omega) | (simp [Op.lookupswitch.offset]; omega)) (by decide) ?_
      refine lv_iconst (v := (-1)) hx hb dX10_fresh_52 (by decide) ?_
      exact x_ri hx hb hr hlk hQ (Nat.le_of_ble_eq_true rfl) (Nat.le_of_ble_eq_true rfl) hS dX10_fresh_53 G ⟨_, rfl, XFr.rf, (by rw [((by decide) : Int32.toInt (-1) = (-1 : Int))] <;> exact (v_X10_fresh_53_2 (K := K) (F := F) a q2 p0 G p1 ha ((hs2).1) hs2 sb w8 ht2 c13))⟩ hT
    · refine lv_lookup (off := 27) (tgt := 40) hx hb dX10_fresh_13 (by decide) (by rw [c13]; rfl) (by decide) ?_
      refine lv_aload_n hx hb dX10_fresh_40 rfl (lv_at hl 1 rfl) ?_
      refine lv_aload_n hx hb dX10_fresh_41 rfl (lv_at hl 0 rfl) ?_
      refine x_clp (x_runV (b := a) (As := [.ref q2]) (rest := []) S (c_X10_changedSince l E K F G H a q2 ha hk2 (w8) (v_X10_fresh_42_3 (F := F) G a q2 p0 rok hs2 ht2) (v_X10_fresh_42_4 (K := K) (F := F) a G bkn)) mv_X10_changedSince km_X10_318 rfl rfl ⟨Nat.le_of_ble_eq_true rfl, Nat.le_of_ble_eq_true rfl⟩ (rc_12 hK hT ha) hK (fun _ => XPh.blind) (fun U hU hW => XPh.at hK hz hS hT hU hW) rfl hl.1 (Nat.le_of_ble_eq_true rfl) dX10_fresh_42 ⟨Nat.le_of_ble_eq_true rfl, Nat.le_of_ble_eq_true rfl⟩) hS ?_
      rintro _ _ locs ⟨x42, rfl, oq42⟩ hS
      obtain ⟨hk42, hj42⟩ := fkX6_0 hT hk2
      have hj42a : F (F q2 0) 99 = 4 + (p0.toInt).toNat := by rw [hj42, (hs2).1]
      exact x_ri hx hb hr hlk hQ (Nat.le_of_ble_eq_true rfl) (Nat.le_of_ble_eq_true rfl) hS dX10_fresh_45 G ⟨_, rfl, XFr.rf, (v_X10_fresh_45_5 (F := F) a q2 p0 G x42 p1 hs2 oq42 ht2 c13)⟩ hT
    · refine lv_lookup (off := 33) (tgt := 46) hx hb dX10_fresh_13 (by decide) (by rw [c13]; rfl) (by decide) ?_
      refine lv_aload_n hx hb dX10_fresh_46 rfl (lv_at hl 1 rfl) ?_
      refine lv_aload_n hx hb dX10_fresh_47 rfl (lv_at hl 0 rfl) ?_
      refine x_cl0 (x_runV (b := a) (As := [.ref q2]) (rest := []) S (c_X10_settledSince l E K F G a q2 ha hk2 (sb) (v_X10_fresh_48_6 (F := F) G a q2 p0 rok hs2 ht2) (v_X10_fresh_48_7 (F := F) q2 p0 G a hs2 ht2) (v_X10_fresh_48_8 (F := F) a G rob) (v_X10_fresh_48_9 (F := F) a G ron) (v_X10_fresh_48_10 (K := K) (F := F) a G bko) (v_X10_fresh_48_11 (K := K) (F := F) a G bkn)) mv_X10_settledSince km_X10_322 rfl rfl ⟨Nat.le_of_ble_eq_true rfl, Nat.le_of_ble_eq_true rfl⟩ (rc_12 hK hT ha) hK (fun _ => XP.blind) (fun U hU hW => XP.at hK hz hS hT hU hW) rfl hl.1 (Nat.le_of_ble_eq_true rfl) dX10_fresh_48 ⟨Nat.le_of_ble_eq_true rfl, Nat.le_of_ble_eq_true rfl⟩) hS ?_
      rintro _ G48 H locs ⟨x48, rfl, hF48, oq48⟩ hT hS
      obtain ⟨hk48, hj48⟩ := fkX6_0 hT hk2
      have hj48a : F (F q2 0) 99 = 4 + (p0.toInt).toNat := by rw [hj48, (hs2).1]
      exact x_ri hx hb hr hlk hQ (Nat.le_of_ble_eq_true rfl) (Nat.le_of_ble_eq_true rfl) hS dX10_fresh_51 G48 ⟨_, rfl, (XFr.call XFr.rf hF48 (xm1 0 rfl (xm1 1 rfl xm0)) (xm1 0 rfl (xm1 1 rfl (xm1 2 rfl (xm1 3 rfl (xm1 4 rfl (xm1 5 rfl (xm1 6 rfl (xm1 7 rfl (xm1 8 rfl xm0))))))))) xm0), (v_X10_fresh_51_12 (F := F) a q2 p0 G x48 p1 hs2 oq48 ht2 c13)⟩ hT

abbrev rm_X10_verdict : Room := { frames := 3, cells := 0, slots := 0, locals := 60 }
set_option maxHeartbeats 4000000 in
set_option maxRecDepth 100000 in
theorem c_X10_verdict (l : Launch) (E : XE) (K : Nat → Nat) (F : Nat → Nat → Nat) (G : XG) (h0 : Heap) (a : Nat) (p0 : Int32) (ha : K a = 12) : Met l yX10_verdict (xw yX10_verdict cX10_verdict 2 (some .int)) rm_X10_verdict (va_Pc [.ref a, .int p0] (XPh E K F G h0)) (XQ E (fun v (u : Unit) => ∃ r : Int32, v = .int r) (fun _ H => H = h0)) 0 0 (xA E) := by
  refine x_enter (by decide) (Nat.le_of_ble_eq_true rfl) ?_
  intro p e s m args below meth c Q S hr hlk hnm hQ hP ls hl
  obtain ⟨⟨hz, hK, hT⟩, hh⟩ := hP
  obtain ⟨hx, hb, -, -, -⟩ := id S
  have hS : va_S (xA E) s.heap s.heap [] := va_S.rf
  have hl : lv_has ls 2 [(0, .ref a), (1, .int p0)] := hl
  refine lv_iload_n hx hb dX10_verdict_0 rfl (lv_at hl 1 rfl) ?_
  refine lv_iconst (v := 2) hx hb dX10_verdict_1 (by decide) ?_
  refine xi_cne (tgt := 13) hx hb (rfl : Int32.toInt p0 = p0.toInt) ((by decide) : Int32.toInt 2 = (2 : Int)) dX10_verdict_2 (by decide) (fun c2 => ?_) (fun c2 => ?_)
  · refine lv_aload_n hx hb dX10_verdict_13 rfl (lv_at hl 0 rfl) ?_
    obtain ⟨hk14, hj14⟩ := fkX10_14 hT ha
    refine gX10_14 S hK hT ha kf_X10_91 dX10_verdict_14 (fun _ _ => ?_)
    refine x_clp (x_runV (b := (F a 14)) (As := []) (rest := []) S (c_X9_isTold l E K F G s.heap (F a 14) hk14) mv_X9_isTold km_X10_341 rfl rfl ⟨Nat.le_of_ble_eq_true rfl, Nat.le_of_ble_eq_true rfl⟩ (rc_11 hK hT hk14) hK (fun _ => XPh.blind) (fun U hU hW => XPh.at hK hz hS hT hU hW) rfl hl.1 (Nat.le_of_ble_eq_true rfl) dX10_verdict_17 ⟨Nat.le_of_ble_eq_true rfl, Nat.le_of_ble_eq_true rfl⟩) hS ?_
    rintro _ _ locs ⟨x17, rfl, b17⟩ hS
    refine xi_zne (tgt := 27) hx hb (rfl : Int32.toInt x17 = x17.toInt) dX10_verdict_20 (by decide) (fun c20 => ?_) (fun c20 => ?_)
    · refine lv_iload_n hx hb dX10_verdict_27 rfl (lv_at hl 1 rfl) ?_
      rcases ((z_X10_question_1 p0.toInt) : (¬ p0.toInt = 0 ∧ ¬ p0.toInt = 1) ∨ (p0.toInt = 0) ∨ (p0.toInt = 1)) with c28 | c28 | c28
      · refine lv_lookup (off := 44) (tgt := 72) hx hb dX10_verdict_28 (by decide) (by first | (simp only [Op.lookupswitch.offset_cons, Op.lookupswitch.offset_nil]; (repeat' split) <;> omega) | (simp [Op.lookupswitch.offset]; (repeat' split) <;> omega) | (simp [Op.lookupswitch.offset]; omega)) (by decide) ?_
        refine lv_ldcw (v := (-2147483648)) hx hb S.2.2.2.1 (S.2.2.2.2 _ (List.mem_cons_of_mem _ kc_X10_274)) dX10_verdict_72 ?_
        exact x_ri hx hb hr hlk hQ (Nat.le_of_ble_eq_true rfl) (Nat.le_of_ble_eq_true rfl) hS dX10_verdict_75 () ⟨_, rfl⟩ hh
      · refine lv_lookup (off := 28) (tgt := 56) hx hb dX10_verdict_28 (by decide) (by rw [c28]; rfl) (by decide) ?_
        refine lv_aload_n hx hb dX10_verdict_56 rfl (lv_at hl 0 rfl) ?_
        refine gX10_14 S hK hT ha kf_X10_91 dX10_verdict_57 (fun _ _ => ?_)
        refine x_clp (x_runV (b := (F a 14)) (As := []) (rest := []) S (c_X9_number l E K F G s.heap (F a 14) hk14) mv_X9_number km_X10_345 rfl rfl ⟨Nat.le_of_ble_eq_true rfl, Nat.le_of_ble_eq_true rfl⟩ (rc_11 hK hT hk14) hK (fun _ => XPh.blind) (fun U hU hW => XPh.at hK hz hS hT hU hW) rfl hl.1 (Nat.le_of_ble_eq_true rfl) dX10_verdict_60 ⟨Nat.le_of_ble_eq_true rfl, Nat.le_of_ble_eq_true rfl⟩) hS ?_
        rintro _ _ locs ⟨x60, rfl⟩ hS
        exact x_ri hx hb hr hlk hQ (Nat.le_of_ble_eq_true rfl) (Nat.le_of_ble_eq_true rfl) hS dX10_verdict_63 () ⟨_, rfl⟩ hh
      · refine lv_lookup (off := 36) (tgt := 64) hx hb dX10_verdict_28 (by decide) (by rw [c28]; rfl) (by decide) ?_
        refine lv_aload_n hx hb dX10_verdict_64 rfl (lv_at hl 0 rfl) ?_
        refine gX10_14 S hK hT ha kf_X10_91 dX10_verdict_65 (fun _ _ => ?_)
        refine x_clp (x_runV (b := (F a 14)) (As := []) (rest := []) S (c_X9_subject l E K F G s.heap (F a 14) hk14) mv_X9_subject km_X10_347 rfl rfl ⟨Nat.le_of_ble_eq_true rfl, Nat.le_of_ble_eq_true rfl⟩ (rc_11 hK hT hk14) hK (fun _ => XPh.blind) (fun U hU hW => XPh.at hK hz hS hT hU hW) rfl hl.1 (Nat.le_of_ble_eq_true rfl) dX10_verdict_68 ⟨Nat.le_of_ble_eq_true rfl, Nat.le_of_ble_eq_true rfl⟩) hS ?_
        rintro _ _ locs ⟨x68, rfl⟩ hS
        exact x_ri hx hb hr hlk hQ (Nat.le_of_ble_eq_true rfl) (Nat.le_of_ble_eq_true rfl) hS dX10_verdict_71 () ⟨_, rfl⟩ hh
    · refine lv_ldcw (v := (-2147483648)) hx hb S.2.2.2.1 (S.2.2.2.2 _ (List.mem_cons_of_mem _ kc_X10_274)) dX10_verdict_23 ?_
      exact x_ri hx hb hr hlk hQ (Nat.le_of_ble_eq_true rfl) (Nat.le_of_ble_eq_true rfl) hS dX10_verdict_26 () ⟨_, rfl⟩ hh
  · refine lv_aload_n hx hb dX10_verdict_5 rfl (lv_at hl 0 rfl) ?_
    obtain ⟨hk6, hj6⟩ := fkX10_14 hT ha
    refine gX10_14 S hK hT ha kf_X10_91 dX10_verdict_6 (fun _ _ => ?_)
    refine x_clp (x_runV (b := (F a 14)) (As := []) (rest := []) S (c_X9_signs l E K F G s.heap (F a 14) hk6) mv_X9_signs km_X10_338 rfl rfl ⟨Nat.le_of_ble_eq_true rfl, Nat.le_of_ble_eq_true rfl⟩ (rc_11 hK hT hk6) hK (fun _ => XPh.blind) (fun U hU hW => XPh.at hK hz hS hT hU hW) rfl hl.1 (Nat.le_of_ble_eq_true rfl) dX10_verdict_9 ⟨Nat.le_of_ble_eq_true rfl, Nat.le_of_ble_eq_true rfl⟩) hS ?_
    rintro _ _ locs ⟨x9, rfl⟩ hS
    exact x_ri hx hb hr hlk hQ (Nat.le_of_ble_eq_true rfl) (Nat.le_of_ble_eq_true rfl) hS dX10_verdict_12 () ⟨_, rfl⟩ hh

abbrev rm_X10_letter : Room := { frames := 5, cells := 0, slots := 0, locals := 109 }
set_option maxHeartbeats 4000000 in
set_option maxRecDepth 100000 in
theorem c_X10_letter (l : Launch) (E : XE) (K : Nat → Nat) (F : Nat → Nat → Nat) (G : XG) (h0 : Heap) (a : Nat) (p0 : Int32) (ha : K a = 12) : Met l yX10_letter (xw yX10_letter cX10_letter 2 (some .int)) rm_X10_letter (va_Pc [.ref a, .int p0] (XPh E K F G h0)) (XQ E (fun v (u : Unit) => ∃ r : Int32, v = .int r) (fun _ H => H = h0)) 0 0 (xA E) := by
  refine x_enter (by decide) (Nat.le_of_ble_eq_true rfl) ?_
  intro p e s m args below meth c Q S hr hlk hnm hQ hP ls hl
  obtain ⟨⟨hz, hK, hT⟩, hh⟩ := hP
  obtain ⟨hx, hb, -, -, -⟩ := id S
  have hS : va_S (xA E) s.heap s.heap [] := va_S.rf
  have hl : lv_has ls 2 [(0, .ref a), (1, .int p0)] := hl
  refine lv_aload_n hx hb dX10_letter_0 rfl (lv_at hl 0 rfl) ?_
  obtain ⟨hk1, hj1⟩ := fkX10_14 hT ha
  refine gX10_14 S hK hT ha kf_X10_91 dX10_letter_1 (fun _ _ => ?_)
  refine lv_iload_n hx hb dX10_letter_4 rfl (lv_at hl 1 rfl) ?_
  refine x_clp (x_runV (b := (F a 14)) (As := [.int p0]) (rest := []) S (c_X9_signAt l E K F G s.heap (F a 14) p0 hk1) mv_X9_signAt km_X10_349 rfl rfl ⟨Nat.le_of_ble_eq_true rfl, Nat.le_of_ble_eq_true rfl⟩ (rc_11 hK hT hk1) hK (fun _ => XPh.blind) (fun U hU hW => XPh.at hK hz hS hT hU hW) rfl hl.1 (Nat.le_of_ble_eq_true rfl) dX10_letter_5 ⟨Nat.le_of_ble_eq_true rfl, Nat.le_of_ble_eq_true rfl⟩) hS ?_
  rintro _ _ locs ⟨x5, rfl⟩ hS
  exact x_ri hx hb hr hlk hQ (Nat.le_of_ble_eq_true rfl) (Nat.le_of_ble_eq_true rfl) hS dX10_letter_8 () ⟨_, rfl⟩ hh

theorem z_X10_wouldCut_1 (a0 : Int) (a1 : Int) (a2 : Int) (a3 : Int) (h0 : ¬ (0 ≤ a0 ∧ a0 < 3 ∧ 0 ≤ a1 ∧ a1 < 30) → a3 = -2000) (h1 : (a2 = 1 ∧ a3 ≠ -2000) ∨ (a2 = 0 ∧ a3 = -2000)) (h2 : a2 ≠ 0) : 0 ≤ a0 ∧ a0 < 3 ∧ 0 ≤ a1 ∧ a1 < 30 := by omega
theorem z_X10_wouldCut_2 (a0 : Int) (a1 : Int) (a2 : Int) (h0 : (a0 = 1 ∧ a1 ≠ -2000) ∨ (a0 = 0 ∧ a1 = -2000)) (h1 : a0 ≠ 0) (h2 : a2 = a1) : a2 ≠ -2000 := by omega
theorem z_X10_wouldCut_3 (a0 : Int) : (a0 < 0 ∨ 2 < a0) ∨ (a0 = 0) ∨ (a0 = 1) ∨ (a0 = 2) := by omega
theorem z_X10_wouldCut_4 (a0 : Int) (a1 : Int) (a2 : Int) (a3 : Int) (a4 : Int) (h0 : a0 = a3 ∧ (0 ≤ a0 ∧ a0 ≤ 90)) (h1 : a1 = a4 ∧ (0 ≤ a1 ∧ a1 ≤ 90)) (h2 : a2 = (a0 - a1) ∨ (a0 - a1) < -2147483648 ∨ 2147483648 ≤ (a0 - a1)) : a2 = (a0 - a1) := by omega
abbrev rm_X10_wouldCut : Room := { frames := 7, cells := 0, slots := 0, locals := 170 }
set_option maxHeartbeats 4000000 in
set_option maxRecDepth 100000 in
theorem c_X10_wouldCut (l : Launch) (E : XE) (K : Nat → Nat) (F : Nat → Nat → Nat) (G : XG) (a : Nat) (p0 : Int32) (p1 : Int32) (p2 : Int32) (ha : K a = 12) (sb : 0 ≤ ((G.1 (F a 2) 2).toInt) ∧ ((G.1 (F a 2) 2).toInt) ≤ 12) (ron : RO (vw (G.2.1 (F (F a 3) 0))) (aI (G.2.1 (F (F a 3) 1)))) (bko : BKr K G (G.2.2.1 (F (F a 2) 1))) (bkn : BKr K G (G.2.2.1 (F (F a 2) 0))) (hac : ACo G (G.2.2.1 (F (F a 2) 0))) : Met l yX10_wouldCut (xw yX10_wouldCut cX10_wouldCut 4 (some .int)) rm_X10_wouldCut (va_Pc [.ref a, .int p0, .int p1, .int p2] (XP E K F G)) (XQ E (fun v (u : XG) => ∃ r : Int32, v = .int r ∧ XFr [(F a 11, 3), (F a 9, 6), (F a 12, 4)] [F (F a 11) 0, F (F a 11) 1, F (F a 11) 2, F (F a 9) 0, F (F a 9) 1, F (F a 9) 2, F (F a 9) 3, F (F a 9) 4, F (F a 9) 5, F (F a 5) 0, F (F a 5) 1, F (F a 12) 0, F (F a 12) 1, F (F a 12) 2, F (F a 12) 3] [] G u ∧ ((cel (vw (G.2.1 (F (F a 3) 0))) p0.toInt p1.toInt 0 = -2000 ∧ r.toInt = -1) ∨ (cel (vw (G.2.1 (F (F a 3) 0))) p0.toInt p1.toInt 0 ≠ -2000 ∧ ((p2.toInt = 0 ∧ ∃ b : Int → Int, RO (cfin (clsA G (G.2.2.1 (F (F a 2) 0))) (clsT G (G.2.2.1 (F (F a 2) 0))) (clsC G (G.2.2.1 (F (F a 2) 0))) ([(p0.toInt, p1.toInt, 0, 0)], rfil (vw (G.2.1 (F (F a 3) 0))) p0.toInt p1.toInt (-2000) 3)) b ∧ r.toInt = toB (aI (G.2.1 (F (F a 3) 1))) 3 - toB b 3) ∨ (p2.toInt = 1 ∧ r.toInt = bsI (nn1 (cfin (clsA G (G.2.2.1 (F (F a 2) 0))) (clsT G (G.2.2.1 (F (F a 2) 0))) (clsC G (G.2.2.1 (F (F a 2) 0))) ([(p0.toInt, p1.toInt, 0, 0)], rfil (vw (G.2.1 (F (F a 3) 0))) p0.toInt p1.toInt (-2000) 3)) (vw (G.2.1 (F (F a 3) 0)))) 270) ∨ (p2.toInt = 2 ∧ AnsR ((G.1 a 18).toInt) r.toInt (gaL G (G.2.2.1 (F (F a 2) 1)) (vw (G.2.1 (F (F a 3) 0))) (cfin (clsA G (G.2.2.1 (F (F a 2) 0))) (clsT G (G.2.2.1 (F (F a 2) 0))) (clsC G (G.2.2.1 (F (F a 2) 0))) ([(p0.toInt, p1.toInt, 0, 0)], rfil (vw (G.2.1 (F (F a 3) 0))) p0.toInt p1.toInt (-2000) 3)) 0 (((G.1 (F a 2) 2).toInt)).toNat)) ∨ ((p2.toInt < 0 ∨ 2 < p2.toInt) ∧ r.toInt = -1))))) (fun u H => TW E K F u H)) 0 0 (xA E) := by
  refine x_enter (by decide) (Nat.le_of_ble_eq_true rfl) ?_
  intro p e s m args below meth c Q S hr hlk hnm hQ hP ls hl
  obtain ⟨hz, hK, hT⟩ := hP
  obtain ⟨hx, hb, -, -, -⟩ := id S
  obtain ⟨H, hT, hS, hgo⟩ : ∃ H : Heap, TW E K F G H ∧ va_S (xA E) s.heap H [] ∧ H = s.heap := ⟨_, hT, va_S.rf, rfl⟩
  rw [← hgo]
  have hl : lv_has ls 4 [(0, .ref a), (1, .int p0), (2, .int p1), (3, .int p2)] := hl
  obtain ⟨hk9999, hj9999⟩ := fkX10_11 hT ha
  obtain ⟨hk9999a, hj9999a⟩ := fkX10_9 hT ha
  obtain ⟨hk9999b, hj9999b⟩ := fkX10_12 hT ha
  obtain ⟨hk9999c, hj9999c⟩ := fkX1_0 hT hk9999
  obtain ⟨hk9999d, hj9999d⟩ := fkX1_1 hT hk9999
  obtain ⟨hk9999e, hj9999e⟩ := fkX1_2 hT hk9999
  obtain ⟨hk9999f, hj9999f⟩ := fkX4_0 hT hk9999a
  have hj9999g : F (F (F a 9) 0) 99 = 10 * 1 + 0 := by rw [hj9999f, hj9999a]
  obtain ⟨hk9999g, hj9999h⟩ := fkX4_1 hT hk9999a
  have hj9999i : F (F (F a 9) 1) 99 = 10 * 1 + 1 := by rw [hj9999h, hj9999a]
  obtain ⟨hk9999h, hj9999j⟩ := fkX4_2 hT hk9999a
  have hj9999k : F (F (F a 9) 2) 99 = 10 * 1 + 2 := by rw [hj9999j, hj9999a]
  obtain ⟨hk9999i, hj9999l⟩ := fkX4_3 hT hk9999a
  have hj9999m : F (F (F a 9) 3) 99 = 10 * 1 + 3 := by rw [hj9999l, hj9999a]
  obtain ⟨hk9999j, hj9999n⟩ := fkX4_4 hT hk9999a
  have hj9999o : F (F (F a 9) 4) 99 = 10 * 1 + 4 := by rw [hj9999n, hj9999a]
  obtain ⟨hk9999k, hj9999p⟩ := fkX4_5 hT hk9999a
  have hj9999q : F (F (F a 9) 5) 99 = 10 * 1 + 5 := by rw [hj9999p, hj9999a]
  obtain ⟨hk9999l, hj9999r⟩ := fkX10_5 hT ha
  obtain ⟨hk9999m, hj9999s⟩ := fkX6_0 hT hk9999l
  have hj9999t : F (F (F a 5) 0) 99 = 2 := by rw [hj9999s, hj9999r]
  obtain ⟨hk9999n, hj9999u⟩ := fkX6_1 hT hk9999l
  have hj9999v : F (F (F a 5) 1) 99 = 2 := by rw [hj9999u, hj9999r]
  obtain ⟨hk9999o, hj9999w⟩ := fkX2_0 hT hk9999b
  obtain ⟨hk9999p, hj9999y⟩ := fkX2_1 hT hk9999b
  obtain ⟨hk9999q, hj9999z25⟩ := fkX2_2 hT hk9999b
  obtain ⟨hk9999r, hj9999z26⟩ := fkX2_3 hT hk9999b
  obtain ⟨hk9999s, hj9999z27⟩ := fkX10_2 hT ha
  obtain ⟨hk9999t, hj9999z28⟩ := fkX0_1 hT hk9999s
  obtain ⟨hk9999u, hj9999z29⟩ := fkX0_0 hT hk9999s
  obtain ⟨hk9999v, hj9999z30⟩ := fkX10_3 hT ha
  obtain ⟨hk9999w, hj9999z31⟩ := fkX6_0 hT hk9999v
  have hj9999z32 : F (F (F a 3) 0) 99 = 0 := by rw [hj9999z31, hj9999z30]
  obtain ⟨hk9999y, hj9999z33⟩ := fkX6_1 hT hk9999v
  have hj9999z34 : F (F (F a 3) 1) 99 = 0 := by rw [hj9999z33, hj9999z30]
  refine lv_aload_n hx hb dX10_wouldCut_0 rfl (lv_at hl 0 rfl) ?_
  refine gX10_3 S hK hT ha kf_X10_37 dX10_wouldCut_1 (fun _ _ => ?_)
  refine lv_iload_n hx hb dX10_wouldCut_4 rfl (lv_at hl 1 rfl) ?_
  have z5 : ¬ (0 ≤ p0.toInt ∧ p0.toInt < 3 ∧ 0 ≤ p1.toInt ∧ p1.toInt < 30) → (cel (vw (G.2.1 (F (F a 3) 0))) (p0.toInt) (p1.toInt) 0) = -2000 := fun h9 => cel_out (by omega)
  refine lv_iload_n hx hb dX10_wouldCut_5 rfl (lv_at hl 2 rfl) ?_
  refine x_clp (x_runV (b := (F a 3)) (As := [.int p0, .int p1]) (rest := []) S (c_X6_has l E K F G H (F a 3) p0 p1 hk9999v (v_X10_wouldCut_6_1 (F := F) a G ron)) mv_X6_has km_X10_191 rfl rfl ⟨Nat.le_of_ble_eq_true rfl, Nat.le_of_ble_eq_true rfl⟩ (rc_8 hK hT hk9999v) hK (fun _ => XPh.blind) (fun U hU hW => XPh.at hK hz hS hT hU hW) rfl hl.1 (Nat.le_of_ble_eq_true rfl) dX10_wouldCut_6 ⟨Nat.le_of_ble_eq_true rfl, Nat.le_of_ble_eq_true rfl⟩) hS ?_
  rintro _ _ locs ⟨x6, rfl, b6, t6⟩ hS
  have t6 : (x6.toInt = 1 ∧ (cel (vw (G.2.1 (F (F a 3) 0))) (p0.toInt) (p1.toInt) 0) ≠ -2000) ∨ (x6.toInt = 0 ∧ (cel (vw (G.2.1 (F (F a 3) 0))) (p0.toInt) (p1.toInt) 0) = -2000) := t6
  refine xi_zne (tgt := 14) hx hb (rfl : Int32.toInt x6 = x6.toInt) dX10_wouldCut_9 (by decide) (fun c9 => ?_) (fun c9 => ?_)
  · refine lv_aload_n hx hb dX10_wouldCut_14 rfl (lv_at hl 0 rfl) ?_
    refine gX10_5 S hK hT ha kf_X10_44 dX10_wouldCut_15 (fun _ _ => ?_)
    refine lv_aload_n hx hb dX10_wouldCut_18 rfl (lv_at hl 0 rfl) ?_
    refine gX10_3 S hK hT ha kf_X10_37 dX10_wouldCut_19 (fun _ _ => ?_)
    refine x_cv0 (x_runV (b := (F a 5)) (As := [.ref (F a 3)]) (rest := []) S (c_X6_copy l E K F G (F a 5) (F a 3) hk9999l hk9999v (v_X10_wouldCut_22_2 (F := F) a G ron)) mv_X6_copy km_X10_195 rfl rfl ⟨Nat.le_of_ble_eq_true rfl, Nat.le_of_ble_eq_true rfl⟩ (rc_8 hK hT hk9999l) hK (fun _ => XP.blind) (fun U hU hW => XP.at hK hz hS hT hU hW) rfl hl.1 (Nat.le_of_ble_eq_true rfl) dX10_wouldCut_22 ⟨Nat.le_of_ble_eq_true rfl, Nat.le_of_ble_eq_true rfl⟩) hS ?_
    rintro G22 H locs ⟨hF22, oq22, oq22a⟩ hT hS
    have z25 : (cel (vw (G22.2.1 (F (F a 5) 0))) (p0.toInt) (p1.toInt) 0) = (cel (vw (G.2.1 (F (F a 3) 0))) (p0.toInt) (p1.toInt) 0) := by rw [oq22]
    refine lv_aload_n hx hb dX10_wouldCut_25 rfl (lv_at hl 0 rfl) ?_
    refine gX10_12 S hK hT ha kf_X10_77 dX10_wouldCut_26 (fun _ _ => ?_)
    refine lv_aload_n hx hb dX10_wouldCut_29 rfl (lv_at hl 0 rfl) ?_
    refine gX10_5 S hK hT ha kf_X10_44 dX10_wouldCut_30 (fun _ _ => ?_)
    refine lv_aload_n hx hb dX10_wouldCut_33 rfl (lv_at hl 0 rfl) ?_
    refine gX10_2 S hK hT ha kf_X10_30 dX10_wouldCut_34 (fun _ _ => ?_)
    refine lv_iload_n hx hb dX10_wouldCut_37 rfl (lv_at hl 1 rfl) ?_
    refine lv_iload_n hx hb dX10_wouldCut_38 rfl (lv_at hl 2 rfl) ?_
    refine x_cv0 (x_runV (b := (F a 12)) (As := [.ref (F a 5), .ref (F a 2), .int p0, .int p1]) (rest := []) S (c_X2_cutRow l E K F G22 (F a 12) (F a 5) (F a 2) p0 p1 hk9999b hk9999l hk9999s (z_X10_wouldCut_1 p0.toInt p1.toInt x6.toInt (cel (vw (G.2.1 (F (F a 3) 0))) (p0.toInt) (p1.toInt) 0) z5 t6 c9) (z_X10_wouldCut_2 x6.toInt (cel (vw (G.2.1 (F (F a 3) 0))) (p0.toInt) (p1.toInt) 0) (cel (vw (G22.2.1 (F (F a 5) 0))) (p0.toInt) (p1.toInt) 0) t6 c9 z25) (v_X10_wouldCut_39_3 (F := F) G22 a oq22a) (v_X10_wouldCut_39_4 (K := K) (F := F) a G G22 p0 p1 x6 ha hk9999 hj9999 hk9999a hj9999a hk9999b hj9999b hk9999c hj9999c hk9999d hj9999d hk9999e hj9999e hk9999f hj9999g hk9999g hj9999i hk9999h hj9999k hk9999i hj9999m hk9999j hj9999o hk9999k hj9999q hk9999l hj9999r hk9999m hj9999t hk9999n hj9999v hk9999o hj9999w hk9999p hj9999y hk9999q hj9999z25 hk9999r hj9999z26 hk9999s hj9999z27 hk9999t hj9999z28 hk9999u hj9999z29 hk9999v hj9999z30 hk9999w hj9999z32 hk9999y hj9999z34 (XFr.call XFr.rf hF22 xm0 (xm1 9 rfl (xm1 10 rfl xm0)) xm0) hF22 ron bko bkn hac oq22 oq22a sb z5 t6 c9 z25 (hF22.2.1 _ (xn1 (xne_k hk9999c hk9999m (by decide)) (xn1 (xne_j hj9999c hj9999v (by first | decide | omega)) xn0))) (hF22.2.1 _ (xn1 (xne_k hk9999d hk9999m (by decide)) (xn1 (xne_j hj9999d hj9999v (by first | decide | omega)) xn0))) (hF22.2.1 _ (xn1 (xne_k hk9999e hk9999m (by decide)) (xn1 (xne_k hk9999e hk9999n (by decide)) xn0))) (hF22.2.1 _ (xn1 (xne_k hk9999o hk9999m (by decide)) (xn1 (xne_k hk9999o hk9999n (by decide)) xn0))) (hF22.2.1 _ (xn1 (xne_k hk9999p hk9999m (by decide)) (xn1 (xne_k hk9999p hk9999n (by decide)) xn0))) (hF22.2.1 _ (xn1 (xne_k hk9999q hk9999m (by decide)) (xn1 (xne_k hk9999q hk9999n (by decide)) xn0))) (hF22.2.1 _ (xn1 (xne_k hk9999r hk9999m (by decide)) (xn1 (xne_k hk9999r hk9999n (by decide)) xn0))) (hF22.2.1 _ (xn1 (xne_k hk9999f hk9999m (by decide)) (xn1 (xne_k hk9999f hk9999n (by decide)) xn0))) (hF22.2.1 _ (xn1 (xne_k hk9999g hk9999m (by decide)) (xn1 (xne_k hk9999g hk9999n (by decide)) xn0))) (hF22.2.1 _ (xn1 (xne_k hk9999h hk9999m (by decide)) (xn1 (xne_k hk9999h hk9999n (by decide)) xn0))) (hF22.2.1 _ (xn1 (xne_k hk9999i hk9999m (by decide)) (xn1 (xne_k hk9999i hk9999n (by decide)) xn0))) (hF22.2.1 _ (xn1 (xne_k hk9999j hk9999m (by decide)) (xn1 (xne_k hk9999j hk9999n (by decide)) xn0))) (hF22.2.1 _ (xn1 (xne_k hk9999k hk9999m (by decide)) (xn1 (xne_k hk9999k hk9999n (by decide)) xn0))) (hF22.2.2 _ xn0) (hF22.1 _ _ xn0) (hF22.1 _ _ xn0) (hF22.1 _ _ xn0)) (v_X10_wouldCut_39_5 (K := K) (F := F) a G G22 p0 p1 x6 ha hk9999 hj9999 hk9999a hj9999a hk9999b hj9999b hk9999c hj9999c hk9999d hj9999d hk9999e hj9999e hk9999f hj9999g hk9999g hj9999i hk9999h hj9999k hk9999i hj9999m hk9999j hj9999o hk9999k hj9999q hk9999l hj9999r hk9999m hj9999t hk9999n hj9999v hk9999o hj9999w hk9999p hj9999y hk9999q hj9999z25 hk9999r hj9999z26 hk9999s hj9999z27 hk9999t hj9999z28 hk9999u hj9999z29 hk9999v hj9999z30 hk9999w hj9999z32 hk9999y hj9999z34 (XFr.call XFr.rf hF22 xm0 (xm1 9 rfl (xm1 10 rfl xm0)) xm0) hF22 ron bko bkn hac oq22 oq22a sb z5 t6 c9 z25 (hF22.2.1 _ (xn1 (xne_k hk9999c hk9999m (by decide)) (xn1 (xne_j hj9999c hj9999v (by first | decide | omega)) xn0))) (hF22.2.1 _ (xn1 (xne_k hk9999d hk9999m (by decide)) (xn1 (xne_j hj9999d hj9999v (by first | decide | omega)) xn0))) (hF22.2.1 _ (xn1 (xne_k hk9999e hk9999m (by decide)) (xn1 (xne_k hk9999e hk9999n (by decide)) xn0))) (hF22.2.1 _ (xn1 (xne_k hk9999o hk9999m (by decide)) (xn1 (xne_k hk9999o hk9999n (by decide)) xn0))) (hF22.2.1 _ (xn1 (xne_k hk9999p hk9999m (by decide)) (xn1 (xne_k hk9999p hk9999n (by decide)) xn0))) (hF22.2.1 _ (xn1 (xne_k hk9999q hk9999m (by decide)) (xn1 (xne_k hk9999q hk9999n (by decide)) xn0))) (hF22.2.1 _ (xn1 (xne_k hk9999r hk9999m (by decide)) (xn1 (xne_k hk9999r hk9999n (by decide)) xn0))) (hF22.2.1 _ (xn1 (xne_k hk9999f hk9999m (by decide)) (xn1 (xne_k hk9999f hk9999n (by decide)) xn0))) (hF22.2.1 _ (xn1 (xne_k hk9999g hk9999m (by decide)) (xn1 (xne_k hk9999g hk9999n (by decide)) xn0))) (hF22.2.1 _ (xn1 (xne_k hk9999h hk9999m (by decide)) (xn1 (xne_k hk9999h hk9999n (by decide)) xn0))) (hF22.2.1 _ (xn1 (xne_k hk9999i hk9999m (by decide)) (xn1 (xne_k hk9999i hk9999n (by decide)) xn0))) (hF22.2.1 _ (xn1 (xne_k hk9999j hk9999m (by decide)) (xn1 (xne_k hk9999j hk9999n (by decide)) xn0))) (hF22.2.1 _ (xn1 (xne_k hk9999k hk9999m (by decide)) (xn1 (xne_k hk9999k hk9999n (by decide)) xn0))) (hF22.2.2 _ xn0) (hF22.1 _ _ xn0) (hF22.1 _ _ xn0) (hF22.1 _ _ xn0))) mv_X2_cutRow km_X10_214 rfl rfl ⟨Nat.le_of_ble_eq_true rfl, Nat.le_of_ble_eq_true rfl⟩ (rc_4 hK hT hk9999b) hK (fun _ => XP.blind) (fun U hU hW => XP.at hK hz hS hT hU hW) rfl hl.1 (Nat.le_of_ble_eq_true rfl) dX10_wouldCut_39 ⟨Nat.le_of_ble_eq_true rfl, Nat.le_of_ble_eq_true rfl⟩) hS ?_
    rintro G39 H locs ⟨hF39, oq39, oq39a⟩ hT hS
    refine lv_iload_n hx hb dX10_wouldCut_42 rfl (lv_at hl 3 rfl) ?_
    rcases ((z_X10_wouldCut_3 p2.toInt) : (p2.toInt < 0 ∨ 2 < p2.toInt) ∨ (p2.toInt = 0) ∨ (p2.toInt = 1) ∨ (p2.toInt = 2)) with c43 | c43 | c43 | c43
    · refine lv_tableOut (tgt := 101) hx hb dX10_wouldCut_43 c43 (by decide) ?_
      refine lv_iconst (v := (-1)) hx hb dX10_wouldCut_101 (by decide) ?_
      exact x_ri hx hb hr hlk hQ (Nat.le_of_ble_eq_true rfl) (Nat.le_of_ble_eq_true rfl) hS dX10_wouldCut_102 G39 ⟨_, rfl, (XFr.call (XFr.call XFr.rf hF22 xm0 (xm1 9 rfl (xm1 10 rfl xm0)) xm0) hF39 (xm1 2 rfl xm0) (xm1 11 rfl (xm1 12 rfl (xm1 13 rfl (xm1 14 rfl (xm1 9 rfl (xm1 10 rfl xm0)))))) xm0), (by rw [((by decide) : Int32.toInt (-1) = (-1 : Int))] <;> exact (v_X10_wouldCut_102_6 (K := K) (F := F) a G G22 p0 p1 x6 p2 ha sb z5 t6 c9 z25 c43))⟩ hT
    · refine lv_tableIn (off := 25) (tgt := 68) hx hb dX10_wouldCut_43 (by rw [c43]; decide) (by rw [c43]; decide) (by rw [c43]; rfl) (by decide) ?_
      refine lv_aload_n hx hb dX10_wouldCut_68 rfl (lv_at hl 0 rfl) ?_
      refine gX10_3 S hK hT ha kf_X10_37 dX10_wouldCut_69 (fun _ _ => ?_)
      refine x_clp (x_runV (b := (F a 3)) (As := []) (rest := []) S (c_X6_total l E K F G39 H (F a 3) hk9999v (v_X10_wouldCut_72_7 (F := F) a G G39 G22 ron oq22a oq39a ((hF39.2.1 _ (xn1 (xne_k hk9999w hk9999o (by decide)) (xn1 (xne_k hk9999w hk9999p (by decide)) (xn1 (xne_k hk9999w hk9999q (by decide)) (xn1 (xne_k hk9999w hk9999r (by decide)) (xn1 (xne_j hj9999z32 hj9999t (by first | decide | omega)) (xn1 (xne_k hk9999w hk9999n (by decide)) xn0))))))).trans (hF22.2.1 _ (xn1 (xne_j hj9999z32 hj9999t (by first | decide | omega)) (xn1 (xne_k hk9999w hk9999n (by decide)) xn0)))) ((hF39.2.1 _ (xn1 (xne_k hk9999y hk9999o (by decide)) (xn1 (xne_k hk9999y hk9999p (by decide)) (xn1 (xne_k hk9999y hk9999q (by decide)) (xn1 (xne_k hk9999y hk9999r (by decide)) (xn1 (xne_k hk9999y hk9999m (by decide)) (xn1 (xne_j hj9999z34 hj9999v (by first | decide | omega)) xn0))))))).trans (hF22.2.1 _ (xn1 (xne_k hk9999y hk9999m (by decide)) (xn1 (xne_j hj9999z34 hj9999v (by first | decide | omega)) xn0)))))) mv_X6_total km_X10_222 rfl rfl ⟨Nat.le_of_ble_eq_true rfl, Nat.le_of_ble_eq_true rfl⟩ (rc_8 hK hT hk9999v) hK (fun _ => XPh.blind) (fun U hU hW => XPh.at hK hz hS hT hU hW) rfl hl.1 (Nat.le_of_ble_eq_true rfl) dX10_wouldCut_72 ⟨Nat.le_of_ble_eq_true rfl, Nat.le_of_ble_eq_true rfl⟩) hS ?_
      rintro _ _ locs ⟨x72, rfl, t72⟩ hS
      have t72 : x72.toInt = (toB (aI (G.2.1 (F (F a 3) 1))) 3) ∧ (0 ≤ x72.toInt ∧ x72.toInt ≤ 90) := by rw [(show G39.2.1 (F (F a 3) 1) = G.2.1 (F (F a 3) 1) from ((hF39.2.1 _ (xn1 (xne_k hk9999y hk9999o (by decide)) (xn1 (xne_k hk9999y hk9999p (by decide)) (xn1 (xne_k hk9999y hk9999q (by decide)) (xn1 (xne_k hk9999y hk9999r (by decide)) (xn1 (xne_k hk9999y hk9999m (by decide)) (xn1 (xne_j hj9999z34 hj9999v (by first | decide | omega)) xn0))))))).trans (hF22.2.1 _ (xn1 (xne_k hk9999y hk9999m (by decide)) (xn1 (xne_j hj9999z34 hj9999v (by first | decide | omega)) xn0)))))] at t72; exact t72
      refine lv_aload_n hx hb dX10_wouldCut_75 rfl (lv_at hl 0 rfl) ?_
      refine gX10_5 S hK hT ha kf_X10_44 dX10_wouldCut_76 (fun _ _ => ?_)
      refine x_clp (x_runV (b := (F a 5)) (As := []) (rest := [.int x72]) S (c_X6_total l E K F G39 H (F a 5) hk9999l (v_X10_wouldCut_79_8 (F := F) G39 a oq39a)) mv_X6_total km_X10_222 rfl rfl ⟨Nat.le_of_ble_eq_true rfl, Nat.le_of_ble_eq_true rfl⟩ (rc_8 hK hT hk9999l) hK (fun _ => XPh.blind) (fun U hU hW => XPh.at hK hz hS hT hU hW) rfl hl.1 (Nat.le_of_ble_eq_true rfl) dX10_wouldCut_79 ⟨Nat.le_of_ble_eq_true rfl, Nat.le_of_ble_eq_true rfl⟩) hS ?_
      rintro _ _ locs ⟨x79, rfl, t79⟩ hS
      have t79 : x79.toInt = (toB (aI (G39.2.1 (F (F a 5) 1))) 3) ∧ (0 ≤ x79.toInt ∧ x79.toInt ≤ 90) := t79
      refine xi_isub hx hb (rfl : Int32.toInt x72 = x72.toInt) (rfl : Int32.toInt x79 = x79.toInt) dX10_wouldCut_82 (fun x82 t82 => ?_)
      have e82 : x82.toInt = (x72.toInt - x79.toInt) := (z_X10_wouldCut_4 x72.toInt x79.toInt x82.toInt (toB (aI (G.2.1 (F (F a 3) 1))) 3) (toB (aI (G39.2.1 (F (F a 5) 1))) 3) t72 t79 t82)
      exact x_ri hx hb hr hlk hQ (Nat.le_of_ble_eq_true rfl) (Nat.le_of_ble_eq_true rfl) hS dX10_wouldCut_83 G39 ⟨_, rfl, (XFr.call (XFr.call XFr.rf hF22 xm0 (xm1 9 rfl (xm1 10 rfl xm0)) xm0) hF39 (xm1 2 rfl xm0) (xm1 11 rfl (xm1 12 rfl (xm1 13 rfl (xm1 14 rfl (xm1 9 rfl (xm1 10 rfl xm0)))))) xm0), (by rw [(e82 : Int32.toInt x82 = (x72.toInt - x79.toInt))] <;> exact (v_X10_wouldCut_83_9 (K := K) (F := F) a G G39 G22 p0 p1 x72 x79 x6 p2 ha hk9999 hj9999 hk9999a hj9999a hk9999b hj9999b hk9999c hj9999c hk9999d hj9999d hk9999e hj9999e hk9999f hj9999g hk9999g hj9999i hk9999h hj9999k hk9999i hj9999m hk9999j hj9999o hk9999k hj9999q hk9999l hj9999r hk9999m hj9999t hk9999n hj9999v hk9999o hj9999w hk9999p hj9999y hk9999q hj9999z25 hk9999r hj9999z26 hk9999s hj9999z27 hk9999t hj9999z28 hk9999u hj9999z29 hk9999v hj9999z30 hk9999w hj9999z32 hk9999y hj9999z34 hF22 bkn oq22 oq39 oq39a sb z5 t6 c9 z25 c43 t72 t79 (hF22.2.2 _ xn0)))⟩ hT
    · refine lv_tableIn (off := 41) (tgt := 84) hx hb dX10_wouldCut_43 (by rw [c43]; decide) (by rw [c43]; decide) (by rw [c43]; rfl) (by decide) ?_
      refine lv_aload_n hx hb dX10_wouldCut_84 rfl (lv_at hl 0 rfl) ?_
      refine gX10_5 S hK hT ha kf_X10_44 dX10_wouldCut_85 (fun _ _ => ?_)
      refine lv_aload_n hx hb dX10_wouldCut_88 rfl (lv_at hl 0 rfl) ?_
      refine gX10_3 S hK hT ha kf_X10_37 dX10_wouldCut_89 (fun _ _ => ?_)
      refine x_clp (x_runV (b := (F a 5)) (As := [.ref (F a 3)]) (rest := []) S (c_X6_newNulls l E K F G39 H (F a 5) (F a 3) hk9999l hk9999v) mv_X6_newNulls km_X10_355 rfl rfl ⟨Nat.le_of_ble_eq_true rfl, Nat.le_of_ble_eq_true rfl⟩ (rc_8 hK hT hk9999l) hK (fun _ => XPh.blind) (fun U hU hW => XPh.at hK hz hS hT hU hW) rfl hl.1 (Nat.le_of_ble_eq_true rfl) dX10_wouldCut_92 ⟨Nat.le_of_ble_eq_true rfl, Nat.le_of_ble_eq_true rfl⟩) hS ?_
      rintro _ _ locs ⟨x92, rfl, t92⟩ hS
      have t92 : x92.toInt = (bsI (nn1 (vw (G39.2.1 (F (F a 5) 0))) (vw (G.2.1 (F (F a 3) 0)))) 270) := by rw [(show G39.2.1 (F (F a 3) 0) = G.2.1 (F (F a 3) 0) from ((hF39.2.1 _ (xn1 (xne_k hk9999w hk9999o (by decide)) (xn1 (xne_k hk9999w hk9999p (by decide)) (xn1 (xne_k hk9999w hk9999q (by decide)) (xn1 (xne_k hk9999w hk9999r (by decide)) (xn1 (xne_j hj9999z32 hj9999t (by first | decide | omega)) (xn1 (xne_k hk9999w hk9999n (by decide)) xn0))))))).trans (hF22.2.1 _ (xn1 (xne_j hj9999z32 hj9999t (by first | decide | omega)) (xn1 (xne_k hk9999w hk9999n (by decide)) xn0)))))] at t92; exact t92
      exact x_ri hx hb hr hlk hQ (Nat.le_of_ble_eq_true rfl) (Nat.le_of_ble_eq_true rfl) hS dX10_wouldCut_95 G39 ⟨_, rfl, (XFr.call (XFr.call XFr.rf hF22 xm0 (xm1 9 rfl (xm1 10 rfl xm0)) xm0) hF39 (xm1 2 rfl xm0) (xm1 11 rfl (xm1 12 rfl (xm1 13 rfl (xm1 14 rfl (xm1 9 rfl (xm1 10 rfl xm0)))))) xm0), (by rw [(t92 : Int32.toInt x92 = (bsI (nn1 (vw (G39.2.1 (F (F a 5) 0))) (vw (G.2.1 (F (F a 3) 0)))) 270))] <;> exact (v_X10_wouldCut_95_10 (K := K) (F := F) a G G39 G22 p0 p1 x6 p2 ha hk9999 hj9999 hk9999a hj9999a hk9999b hj9999b hk9999c hj9999c hk9999d hj9999d hk9999e hj9999e hk9999f hj9999g hk9999g hj9999i hk9999h hj9999k hk9999i hj9999m hk9999j hj9999o hk9999k hj9999q hk9999l hj9999r hk9999m hj9999t hk9999n hj9999v hk9999o hj9999w hk9999p hj9999y hk9999q hj9999z25 hk9999r hj9999z26 hk9999s hj9999z27 hk9999t hj9999z28 hk9999u hj9999z29 hk9999v hj9999z30 hk9999w hj9999z32 hk9999y hj9999z34 hF22 bkn oq22 oq39 sb z5 t6 c9 z25 c43 (hF22.2.2 _ xn0)))⟩ hT
    · refine lv_tableIn (off := 53) (tgt := 96) hx hb dX10_wouldCut_43 (by rw [c43]; decide) (by rw [c43]; decide) (by rw [c43]; rfl) (by decide) ?_
      refine lv_aload_n hx hb dX10_wouldCut_96 rfl (lv_at hl 0 rfl) ?_
      refine x_cl0 (x_runV (b := a) (As := []) (rest := []) S (c_X10_answerOnPaper l E K F G39 a ha (by rw [(show (G39.1 (F a 2) 2).toInt = ((G.1 (F a 2) 2).toInt) from (congrArg Int32.toInt ((hF39.1 _ _ (xnj (by decide) xn0)).trans (hF22.1 _ _ xn0))).trans (rfl : Int32.toInt (G.1 (F a 2) 2) = ((G.1 (F a 2) 2).toInt)))] <;> exact (sb)) (v_X10_wouldCut_97_11 (F := F) a G G39 G22 ron oq22a oq39a ((hF39.2.1 _ (xn1 (xne_k hk9999w hk9999o (by decide)) (xn1 (xne_k hk9999w hk9999p (by decide)) (xn1 (xne_k hk9999w hk9999q (by decide)) (xn1 (xne_k hk9999w hk9999r (by decide)) (xn1 (xne_j hj9999z32 hj9999t (by first | decide | omega)) (xn1 (xne_k hk9999w hk9999n (by decide)) xn0))))))).trans (hF22.2.1 _ (xn1 (xne_j hj9999z32 hj9999t (by first | decide | omega)) (xn1 (xne_k hk9999w hk9999n (by decide)) xn0)))) ((hF39.2.1 _ (xn1 (xne_k hk9999y hk9999o (by decide)) (xn1 (xne_k hk9999y hk9999p (by decide)) (xn1 (xne_k hk9999y hk9999q (by decide)) (xn1 (xne_k hk9999y hk9999r (by decide)) (xn1 (xne_k hk9999y hk9999m (by decide)) (xn1 (xne_j hj9999z34 hj9999v (by first | decide | omega)) xn0))))))).trans (hF22.2.1 _ (xn1 (xne_k hk9999y hk9999m (by decide)) (xn1 (xne_j hj9999z34 hj9999v (by first | decide | omega)) xn0))))) (v_X10_wouldCut_97_12 (F := F) G39 a oq39a) (v_X10_wouldCut_97_13 (K := K) (F := F) a G G39 G22 p0 p1 x6 p2 ha hk9999 hj9999 hk9999a hj9999a hk9999b hj9999b hk9999c hj9999c hk9999d hj9999d hk9999e hj9999e hk9999f hj9999g hk9999g hj9999i hk9999h hj9999k hk9999i hj9999m hk9999j hj9999o hk9999k hj9999q hk9999l hj9999r hk9999m hj9999t hk9999n hj9999v hk9999o hj9999w hk9999p hj9999y hk9999q hj9999z25 hk9999r hj9999z26 hk9999s hj9999z27 hk9999t hj9999z28 hk9999u hj9999z29 hk9999v hj9999z30 hk9999w hj9999z32 hk9999y hj9999z34 (XFr.call (XFr.call XFr.rf hF22 xm0 (xm1 9 rfl (xm1 10 rfl xm0)) xm0) hF39 (xm1 2 rfl xm0) (xm1 11 rfl (xm1 12 rfl (xm1 13 rfl (xm1 14 rfl (xm1 9 rfl (xm1 10 rfl xm0)))))) xm0) hF22 hF39 ron bko bkn hac oq22 oq22a oq39 oq39a sb z5 t6 c9 z25 c43 ((hF39.2.1 _ (xn1 (xne_k hk9999c hk9999o (by decide)) (xn1 (xne_k hk9999c hk9999p (by decide)) (xn1 (xne_k hk9999c hk9999q (by decide)) (xn1 (xne_k hk9999c hk9999r (by decide)) (xn1 (xne_k hk9999c hk9999m (by decide)) (xn1 (xne_j hj9999c hj9999v (by first | decide | omega)) xn0))))))).trans (hF22.2.1 _ (xn1 (xne_k hk9999c hk9999m (by decide)) (xn1 (xne_j hj9999c hj9999v (by first | decide | omega)) xn0)))) ((hF39.2.1 _ (xn1 (xne_k hk9999d hk9999o (by decide)) (xn1 (xne_k hk9999d hk9999p (by decide)) (xn1 (xne_k hk9999d hk9999q (by decide)) (xn1 (xne_k hk9999d hk9999r (by decide)) (xn1 (xne_k hk9999d hk9999m (by decide)) (xn1 (xne_j hj9999d hj9999v (by first | decide | omega)) xn0))))))).trans (hF22.2.1 _ (xn1 (xne_k hk9999d hk9999m (by decide)) (xn1 (xne_j hj9999d hj9999v (by first | decide | omega)) xn0)))) ((hF39.2.1 _ (xn1 (xne_j hj9999e hj9999w (by first | decide | omega)) (xn1 (xne_j hj9999e hj9999y (by first | decide | omega)) (xn1 (xne_j hj9999e hj9999z25 (by first | decide | omega)) (xn1 (xne_j hj9999e hj9999z26 (by first | decide | omega)) (xn1 (xne_k hk9999e hk9999m (by decide)) (xn1 (xne_k hk9999e hk9999n (by decide)) xn0))))))).trans (hF22.2.1 _ (xn1 (xne_k hk9999e hk9999m (by decide)) (xn1 (xne_k hk9999e hk9999n (by decide)) xn0)))) ((hF39.2.1 _ (xn1 (xne_k hk9999f hk9999o (by decide)) (xn1 (xne_k hk9999f hk9999p (by decide)) (xn1 (xne_k hk9999f hk9999q (by decide)) (xn1 (xne_k hk9999f hk9999r (by decide)) (xn1 (xne_k hk9999f hk9999m (by decide)) (xn1 (xne_k hk9999f hk9999n (by decide)) xn0))))))).trans (hF22.2.1 _ (xn1 (xne_k hk9999f hk9999m (by decide)) (xn1 (xne_k hk9999f hk9999n (by decide)) xn0)))) ((hF39.2.1 _ (xn1 (xne_k hk9999g hk9999o (by decide)) (xn1 (xne_k hk9999g hk9999p (by decide)) (xn1 (xne_k hk9999g hk9999q (by decide)) (xn1 (xne_k hk9999g hk9999r (by decide)) (xn1 (xne_k hk9999g hk9999m (by decide)) (xn1 (xne_k hk9999g hk9999n (by decide)) xn0))))))).trans (hF22.2.1 _ (xn1 (xne_k hk9999g hk9999m (by decide)) (xn1 (xne_k hk9999g hk9999n (by decide)) xn0)))) ((hF39.2.1 _ (xn1 (xne_k hk9999h hk9999o (by decide)) (xn1 (xne_k hk9999h hk9999p (by decide)) (xn1 (xne_k hk9999h hk9999q (by decide)) (xn1 (xne_k hk9999h hk9999r (by decide)) (xn1 (xne_k hk9999h hk9999m (by decide)) (xn1 (xne_k hk9999h hk9999n (by decide)) xn0))))))).trans (hF22.2.1 _ (xn1 (xne_k hk9999h hk9999m (by decide)) (xn1 (xne_k hk9999h hk9999n (by decide)) xn0)))) ((hF39.2.1 _ (xn1 (xne_k hk9999i hk9999o (by decide)) (xn1 (xne_k hk9999i hk9999p (by decide)) (xn1 (xne_k hk9999i hk9999q (by decide)) (xn1 (xne_k hk9999i hk9999r (by decide)) (xn1 (xne_k hk9999i hk9999m (by decide)) (xn1 (xne_k hk9999i hk9999n (by decide)) xn0))))))).trans (hF22.2.1 _ (xn1 (xne_k hk9999i hk9999m (by decide)) (xn1 (xne_k hk9999i hk9999n (by decide)) xn0)))) ((hF39.2.1 _ (xn1 (xne_k hk9999j hk9999o (by decide)) (xn1 (xne_k hk9999j hk9999p (by decide)) (xn1 (xne_k hk9999j hk9999q (by decide)) (xn1 (xne_k hk9999j hk9999r (by decide)) (xn1 (xne_k hk9999j hk9999m (by decide)) (xn1 (xne_k hk9999j hk9999n (by decide)) xn0))))))).trans (hF22.2.1 _ (xn1 (xne_k hk9999j hk9999m (by decide)) (xn1 (xne_k hk9999j hk9999n (by decide)) xn0)))) ((hF39.2.1 _ (xn1 (xne_k hk9999k hk9999o (by decide)) (xn1 (xne_k hk9999k hk9999p (by decide)) (xn1 (xne_k hk9999k hk9999q (by decide)) (xn1 (xne_k hk9999k hk9999r (by decide)) (xn1 (xne_k hk9999k hk9999m (by decide)) (xn1 (xne_k hk9999k hk9999n (by decide)) xn0))))))).trans (hF22.2.1 _ (xn1 (xne_k hk9999k hk9999m (by decide)) (xn1 (xne_k hk9999k hk9999n (by decide)) xn0)))) (hF22.2.2 _ xn0) ((hF39.2.2 _ xn0).trans (hF22.2.2 _ xn0)) ((hF39.1 _ _ (xnj (by decide) xn0)).trans (hF22.1 _ _ xn0)) ((hF39.1 _ _ (xnj (by decide) xn0)).trans (hF22.1 _ _ xn0)))) mv_X10_answerOnPaper km_X10_352 rfl rfl ⟨Nat.le_of_ble_eq_true rfl, Nat.le_of_ble_eq_true rfl⟩ (rc_12 hK hT ha) hK (fun _ => XP.blind) (fun U hU hW => XP.at hK hz hS hT hU hW) rfl hl.1 (Nat.le_of_ble_eq_true rfl) dX10_wouldCut_97 ⟨Nat.le_of_ble_eq_true rfl, Nat.le_of_ble_eq_true rfl⟩) hS ?_
      rintro _ G97 H locs ⟨x97, rfl, hF97, oq97⟩ hT hS
      have oq97 : AnsR ((G.1 a 18).toInt) x97.toInt (gaL G39 (G39.2.2.1 (F (F a 2) 1)) (vw (G.2.1 (F (F a 3) 0))) (vw (G39.2.1 (F (F a 5) 0))) 0 (((G.1 (F a 2) 2).toInt)).toNat) := by simp only [(show G39.1 a 18 = G.1 a 18 from ((hF39.1 _ _ (xnj (by decide) xn0)).trans (hF22.1 _ _ xn0))), (show G39.2.1 (F (F a 3) 0) = G.2.1 (F (F a 3) 0) from ((hF39.2.1 _ (xn1 (xne_k hk9999w hk9999o (by decide)) (xn1 (xne_k hk9999w hk9999p (by decide)) (xn1 (xne_k hk9999w hk9999q (by decide)) (xn1 (xne_k hk9999w hk9999r (by decide)) (xn1 (xne_j hj9999z32 hj9999t (by first | decide | omega)) (xn1 (xne_k hk9999w hk9999n (by decide)) xn0))))))).trans (hF22.2.1 _ (xn1 (xne_j hj9999z32 hj9999t (by first | decide | omega)) (xn1 (xne_k hk9999w hk9999n (by decide)) xn0))))), (show G39.1 (F a 2) 2 = G.1 (F a 2) 2 from ((hF39.1 _ _ (xnj (by decide) xn0)).trans (hF22.1 _ _ xn0)))] at oq97; exact oq97
      exact x_ri hx hb hr hlk hQ (Nat.le_of_ble_eq_true rfl) (Nat.le_of_ble_eq_true rfl) hS dX10_wouldCut_100 G97 ⟨_, rfl, (XFr.call (XFr.call (XFr.call XFr.rf hF22 xm0 (xm1 9 rfl (xm1 10 rfl xm0)) xm0) hF39 (xm1 2 rfl xm0) (xm1 11 rfl (xm1 12 rfl (xm1 13 rfl (xm1 14 rfl (xm1 9 rfl (xm1 10 rfl xm0)))))) xm0) hF97 (xm1 0 rfl (xm1 1 rfl xm0)) (xm1 0 rfl (xm1 1 rfl (xm1 2 rfl (xm1 3 rfl (xm1 4 rfl (xm1 5 rfl (xm1 6 rfl (xm1 7 rfl (xm1 8 rfl xm0))))))))) xm0), (v_X10_wouldCut_100_14 (K := K) (F := F) a G G22 G39 p0 p1 x97 x6 p2 ha hk9999 hj9999 hk9999a hj9999a hk9999b hj9999b hk9999c hj9999c hk9999d hj9999d hk9999e hj9999e hk9999f hj9999g hk9999g hj9999i hk9999h hj9999k hk9999i hj9999m hk9999j hj9999o hk9999k hj9999q hk9999l hj9999r hk9999m hj9999t hk9999n hj9999v hk9999o hj9999w hk9999p hj9999y hk9999q hj9999z25 hk9999r hj9999z26 hk9999s hj9999z27 hk9999t hj9999z28 hk9999u hj9999z29 hk9999v hj9999z30 hk9999w hj9999z32 hk9999y hj9999z34 hF22 hF39 bko bkn oq22 oq39 oq97 sb z5 t6 c9 z25 c43 (hF22.2.2 _ xn0) ((hF39.2.2 _ xn0).trans (hF22.2.2 _ xn0)))⟩ hT
  · refine lv_iconst (v := (-1)) hx hb dX10_wouldCut_12 (by decide) ?_
    exact x_ri hx hb hr hlk hQ (Nat.le_of_ble_eq_true rfl) (Nat.le_of_ble_eq_true rfl) hS dX10_wouldCut_13 G ⟨_, rfl, XFr.rf, (by rw [((by decide) : Int32.toInt (-1) = (-1 : Int))] <;> exact (v_X10_wouldCut_13_15 (K := K) (F := F) a G p0 p1 x6 p2 ha sb z5 t6 c9))⟩ hT

