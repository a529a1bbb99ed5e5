theorem z_X10_rowsAtMark_1 (a0 : Int) (h0 : ¬ (a0 < 0)) (h1 : ¬ ((8 : Int) ≤ a0)) : 0 ≤ a0 ∧ a0 < 8 := by omega
theorem z_X10_rowsAtMark_2 (a0 : Int) (a1 : Int) (h0 : ¬ (a0 < 0)) (h1 : ¬ (a1 ≤ a0)) (h2 : ¬ ((8 : Int) ≤ a0)) : 0 ≤ a0 ∧ a0 < a1 ∧ a0 < 8 := by omega
abbrev rm_X10_rowsAtMark : Room := { frames := 0, cells := 0, slots := 0, locals := 0 }
set_option maxHeartbeats 4000000 in
set_option maxRecDepth 100000 in
theorem c_X10_rowsAtMark (l : Launch) (E : XE) (K : Nat → Nat) (F : Nat → Nat → Nat) (G : XG) (h0 : Heap) (a : Nat) (p0 : Int32) (ha : K a = 12) : Met l yX10_rowsAtMark (xw yX10_rowsAtMark cX10_rowsAtMark 2 (some (.object "LateRules$Rows"))) rm_X10_rowsAtMark (va_Pc [.ref a, .int p0] (XPh E K F G h0)) (XQ E (fun v (u : Unit) => (v = .null ∧ (p0.toInt < 0 ∨ ((G.1 a 17).toInt) ≤ p0.toInt ∨ 8 ≤ p0.toInt)) ∨ (∃ q : Nat, v = .ref q ∧ K q = 8 ∧ (0 ≤ p0.toInt ∧ p0.toInt < ((G.1 a 17).toInt) ∧ p0.toInt < 8) ∧ (F q 99 = 4 + (p0.toInt).toNat ∧ G.2.2.1 (F a 7) (p0.toInt).toNat = some q))) (fun _ H => H = h0)) 0 0 (xA E) := by
  refine x_enter (by decide) (Nat.le_of_ble_eq_true rfl) ?_
  intro p e s m args below meth c Q S hr hlk hnm hQ hP ls hl
  obtain ⟨⟨hz, hK, hT⟩, hh⟩ := hP
  obtain ⟨hx, hb, -, -, -⟩ := id S
  have hS : va_S (xA E) s.heap s.heap [] := va_S.rf
  have hl : lv_has ls 2 [(0, .ref a), (1, .int p0)] := hl
  obtain ⟨hk9999, hj9999⟩ := fkX10_7 hT ha
  refine lv_iload_n hx hb dX10_rowsAtMark_0 rfl (lv_at hl 1 rfl) ?_
  refine xi_zlt (tgt := 27) hx hb (rfl : Int32.toInt p0 = p0.toInt) dX10_rowsAtMark_1 (by decide) (fun c1 => ?_) (fun c1 => ?_)
  · refine lv_null hx hb dX10_rowsAtMark_27 ?_
    exact x_ra hx hb hr (by first | exact Or.inl ⟨_, rfl⟩ | exact Or.inr ⟨_, rfl⟩) (by first | exact Or.inl rfl | exact Or.inr ⟨_, rfl⟩) hlk hQ (Nat.le_of_ble_eq_true rfl) (Nat.le_of_ble_eq_true rfl) hS dX10_rowsAtMark_28 () (Or.inl ⟨rfl, (v_X10_rowsAtMark_28_1 (K := K) a p0 G ha c1)⟩) hh
  · refine lv_iload_n hx hb dX10_rowsAtMark_4 rfl (lv_at hl 1 rfl) ?_
    refine lv_aload_n hx hb dX10_rowsAtMark_5 rfl (lv_at hl 0 rfl) ?_
    refine gX10_17 S hK hT ha kf_X10_233 dX10_rowsAtMark_6 (v := (G.1 a 17)) rfl (?_)
    refine xi_cge (tgt := 27) hx hb (rfl : Int32.toInt p0 = p0.toInt) (rfl : Int32.toInt (G.1 a 17) = ((G.1 a 17).toInt)) dX10_rowsAtMark_9 (by decide) (fun c9 => ?_) (fun c9 => ?_)
    · refine lv_null hx hb dX10_rowsAtMark_27 ?_
      exact x_ra hx hb hr (by first | exact Or.inl ⟨_, rfl⟩ | exact Or.inr ⟨_, rfl⟩) (by first | exact Or.inl rfl | exact Or.inr ⟨_, rfl⟩) hlk hQ (Nat.le_of_ble_eq_true rfl) (Nat.le_of_ble_eq_true rfl) hS dX10_rowsAtMark_28 () (Or.inl ⟨rfl, (v_X10_rowsAtMark_28_2 (K := K) a p0 G ha c1 c9)⟩) hh
    · refine lv_iload_n hx hb dX10_rowsAtMark_12 rfl (lv_at hl 1 rfl) ?_
      refine lv_bipush (v := 8) hx hb dX10_rowsAtMark_13 (by decide) ?_
      refine xi_cge (tgt := 27) hx hb (rfl : Int32.toInt p0 = p0.toInt) ((by decide) : Int32.toInt 8 = (8 : Int)) dX10_rowsAtMark_15 (by decide) (fun c15 => ?_) (fun c15 => ?_)
      · refine lv_null hx hb dX10_rowsAtMark_27 ?_
        exact x_ra hx hb hr (by first | exact Or.inl ⟨_, rfl⟩ | exact Or.inr ⟨_, rfl⟩) (by first | exact Or.inl rfl | exact Or.inr ⟨_, rfl⟩) hlk hQ (Nat.le_of_ble_eq_true rfl) (Nat.le_of_ble_eq_true rfl) hS dX10_rowsAtMark_28 () (Or.inl ⟨rfl, (v_X10_rowsAtMark_28_3 (K := K) a p0 G ha c1 c9 c15)⟩) hh
      · refine lv_aload_n hx hb dX10_rowsAtMark_18 rfl (lv_at hl 0 rfl) ?_
        refine gX10_7 S hK hT ha kf_X10_50 dX10_rowsAtMark_19 (fun _ _ => ?_)
        refine lv_iload_n hx hb dX10_rowsAtMark_22 rfl (lv_at hl 1 rfl) ?_
        refine al_16 S hK hT hk9999 (z_X10_rowsAtMark_1 p0.toInt c1 c15) dX10_rowsAtMark_23 (fun q23 hR23 hk23 hj23 => ?_)
        have hR23 : G.2.2.1 (F a 7) (p0.toInt).toNat = some q23 := by rw [← (rfl : Int32.toInt p0 = p0.toInt)]; exact hR23
        refine lv_goto (tgt := 28) hx hb dX10_rowsAtMark_24 (by decide) ?_
        exact x_ra hx hb hr (by first | exact Or.inl ⟨_, rfl⟩ | exact Or.inr ⟨_, rfl⟩) (by first | exact Or.inl rfl | exact Or.inr ⟨_, rfl⟩) hlk hQ (Nat.le_of_ble_eq_true rfl) (Nat.le_of_ble_eq_true rfl) hS dX10_rowsAtMark_28 () (Or.inr ⟨_, rfl, hk23, (z_X10_rowsAtMark_2 p0.toInt ((G.1 a 17).toInt) c1 c9 c15), (v_X10_rowsAtMark_28_4 (F := F) a q23 p0 G hj23 hR23)⟩) hh

theorem z_X10_gather_1 (a0 : Int) (h0 : -2147483648 ≤ a0 ∧ a0 < 2147483648) : ¬ (2147483648 - a0 < ((0 : Nat) : Int)) := by omega
theorem z_X10_gather_2 (a0 : Int) (a1 : Int) (a2 : Int) (h0 : 0 ≤ a1 ∧ a1 ≤ 12) (h1 : 0 ≤ a0 ∧ a0 ≤ a1) (h2 : 0 ≤ a2 ∧ a2 ≤ 90 * a0) : 0 ≤ a2 ∧ a2 ≤ 1080 := by omega
theorem z_X10_gather_3 (a0 : Int) (a1 : Int) (a2 : Int) (h0 : 0 ≤ a2 ∧ a2 ≤ 12) (h1 : 0 ≤ a0 ∧ a0 ≤ a2) (h2 : a1 = (a0 + 1) ∨ (a0 + 1) < -2147483648 ∨ 2147483648 ≤ (a0 + 1)) : a1 = (a0 + 1) := by omega
theorem z_X10_gather_4 (a0 : Int) (a1 : Int) (h0 : 0 ≤ a0 ∧ a0 ≤ a1) (h1 : ¬ (a1 ≤ a0)) : 0 ≤ (a0 + 1) ∧ (a0 + 1) ≤ a1 := by omega
theorem z_X10_gather_5 (a0 : Int) (a1 : Int) (h0 : 0 ≤ a1 ∧ a1 ≤ 90 * a0) : 0 ≤ a1 ∧ a1 ≤ 90 * (a0 + 1) := by omega
theorem z_X10_gather_6 (a0 : Int) (a1 : Int) (h0 : 0 ≤ a0 ∧ a0 ≤ a1) : (0 : Int) ≤ (a0 + 1) := by omega
theorem z_X10_gather_7 (a0 : Int) (a1 : Nat) (h0 : 2147483648 - a0 < ((a1 + 1 : Nat) : Int)) : 2147483648 - (a0 + 1) < ((a1 : Nat) : Int) := by omega
theorem z_X10_gather_8 (a0 : Int) (a1 : Int) (a2 : Int) (h0 : 0 ≤ a0 ∧ a0 < a2 ∧ a0 < 12) (h1 : a1 = (a0 + 1) ∨ (a0 + 1) < -2147483648 ∨ 2147483648 ≤ (a0 + 1)) : a1 = (a0 + 1) := by omega
theorem z_X10_gather_13 (a0 : Int) (a1 : Int) (a2 : Int) (h0 : 0 ≤ a2 ∧ a2 ≤ 90 * a0) (h1 : 0 ≤ a0 ∧ a0 < a1 ∧ a0 < 12) : 0 ≤ a2 ∧ a2 ≤ 990 := by omega
theorem z_X10_gather_16 (a0 : Int) (a1 : Int) (a2 : Int) (h0 : 0 ≤ a2 ∧ a2 ≤ 90 * a0) (h1 : a2 ≤ a1 ∧ a1 ≤ a2 + 90) : 0 ≤ a1 ∧ a1 ≤ 90 * (a0 + 1) := by omega
theorem z_X10_gather_19 (a0 : Int) (h0 : 0 ≤ a0 ∧ a0 ≤ 12) : 0 ≤ (0 : Int) ∧ (0 : Int) ≤ a0 := by omega
theorem z_X10_gather_20 (a0 : Int) (h0 : a0 = 0) : 0 ≤ a0 ∧ a0 ≤ 90 * (0 : Int) := by omega
abbrev rm_X10_gather : Room := { frames := 5, cells := 0, slots := 0, locals := 123 }
set_option maxHeartbeats 4000000 in
set_option maxRecDepth 100000 in
theorem c_X10_gather (l : Launch) (E : XE) (K : Nat → Nat) (F : Nat → Nat → Nat) (G : XG) (a : Nat) (p0 : Nat) (p1 : Nat) (p2 : Nat) (p3 : Int32) (ha : K a = 12) (hp0 : K p0 = 6) (hp1 : K p1 = 8) (hp2 : K p2 = 8) (sb : 0 ≤ ((G.1 (F a 2) 2).toInt) ∧ ((G.1 (F a 2) 2).toInt) ≤ 12) (ro1 : RO (vw (G.2.1 (F p1 0))) (aI (G.2.1 (F p1 1)))) (ro2 : RO (vw (G.2.1 (F p2 0))) (aI (G.2.1 (F p2 1)))) (hbk : ∀ (i q : Nat), i < 12 → G.2.2.1 (F (F a 2) 1) i = some q → RW (G.1 q)) (j1 : F p1 99 < 12) (j2 : F p2 99 < 12) : Met l yX10_gather (xw yX10_gather cX10_gather 7 none) rm_X10_gather (va_Pc [.ref a, .ref p0, .ref p1, .ref p2, .int p3] (XP E K F G)) (XQv E (fun (u : XG) => XFr [(F a 11, 3), (p0, 6)] [F (F a 11) 0, F (F a 11) 1, F (F a 11) 2, F p0 0, F p0 1, F p0 2, F p0 3, F p0 4, F p0 5] [] G u ∧ (0 ≤ ((u.1 p0 6).toInt) ∧ ((u.1 p0 6).toInt) ≤ 1080) ∧ (qL u F p0 = gaL G (G.2.2.1 (F (F a 2) 1)) (vw (G.2.1 (F p1 0))) (vw (G.2.1 (F p2 0))) p3.toInt (((G.1 (F a 2) 2).toInt)).toNat)) (fun u H => TW E K F u H)) 0 0 (xA E) := by
  refine x_enter (by decide) (Nat.le_of_ble_eq_true rfl) ?_
  intro p e s m args below meth c Q S hr hlk hnm hQ hP ls hl
  obtain ⟨hz, hK, hT⟩ := hP
  obtain ⟨hx, hb, -, -, -⟩ := id S
  obtain ⟨H, hT, hS, hgo⟩ : ∃ H : Heap, TW E K F G H ∧ va_S (xA E) s.heap H [] ∧ H = s.heap := ⟨_, hT, va_S.rf, rfl⟩
  rw [← hgo]
  have hl : lv_has ls 7 [(0, .ref a), (1, .ref p0), (2, .ref p1), (3, .ref p2), (4, .int p3)] := hl
  obtain ⟨hk9999, hj9999⟩ := fkX10_11 hT ha
  obtain ⟨hk9999a, hj9999a⟩ := fkX1_0 hT hk9999
  obtain ⟨hk9999b, hj9999b⟩ := fkX1_1 hT hk9999
  obtain ⟨hk9999c, hj9999c⟩ := fkX1_2 hT hk9999
  obtain ⟨hk9999d, hj9999d⟩ := fkX4_0 hT hp0
  obtain ⟨hk9999e, hj9999e⟩ := fkX4_1 hT hp0
  obtain ⟨hk9999f, hj9999f⟩ := fkX4_2 hT hp0
  obtain ⟨hk9999g, hj9999g⟩ := fkX4_3 hT hp0
  obtain ⟨hk9999h, hj9999h⟩ := fkX4_4 hT hp0
  obtain ⟨hk9999i, hj9999i⟩ := fkX4_5 hT hp0
  obtain ⟨hk9999j, hj9999j⟩ := fkX10_2 hT ha
  obtain ⟨hk9999k, hj9999k⟩ := fkX0_1 hT hk9999j
  obtain ⟨hk9999l, hj9999l⟩ := fkX6_0 hT hp1
  obtain ⟨hk9999m, hj9999m⟩ := fkX6_1 hT hp1
  obtain ⟨hk9999n, hj9999n⟩ := fkX6_0 hT hp2
  obtain ⟨hk9999o, hj9999o⟩ := fkX6_1 hT hp2
  refine lv_aload_n hx hb dX10_gather_0 rfl (lv_at hl 1 rfl) ?_
  refine x_cv0 (x_runV (b := p0) (As := []) (rest := []) S (c_X4_clear l E K F G p0 hp0) mv_X4_clear km_X10_386 rfl rfl ⟨Nat.le_of_ble_eq_true rfl, Nat.le_of_ble_eq_true rfl⟩ (rc_6 hK hT hp0) hK (fun _ => XP.blind) (fun U hU hW => XP.at hK hz hS hT hU hW) rfl hl.1 (Nat.le_of_ble_eq_true rfl) dX10_gather_1 ⟨Nat.le_of_ble_eq_true rfl, Nat.le_of_ble_eq_true rfl⟩) hS ?_
  rintro G1 H locs ⟨hF1, t1⟩ hT hS
  have t1 : ((G1.1 p0 6).toInt) = 0 := t1
  refine lv_aload_n hx hb dX10_gather_4 rfl (lv_at hl 0 rfl) ?_
  refine gX10_11 S hK hT ha kf_X10_70 dX10_gather_5 (fun _ _ => ?_)
  refine lv_aload_n hx hb dX10_gather_8 rfl (lv_at hl 2 rfl) ?_
  refine lv_aload_n hx hb dX10_gather_9 rfl (lv_at hl 3 rfl) ?_
  refine x_cv0 (x_runV (b := (F a 11)) (As := [.ref p1, .ref p2]) (rest := []) S (c_X1_ofAllRows l E K F G1 (F a 11) p1 p2 hk9999 hp1 hp2 (v_X10_gather_10_1 (F := F) p1 p2 G G1 ro1 ro2 (hF1.2.1 _ xn0) (hF1.2.1 _ xn0)) (v_X10_gather_10_2 (F := F) p1 p2 G G1 ro1 ro2 (hF1.2.1 _ xn0) (hF1.2.1 _ xn0)) (v_X10_gather_10_3 (F := F) p1 j1) (v_X10_gather_10_4 (F := F) p2 j2)) mv_X1_ofAllRows km_X10_387 rfl rfl ⟨Nat.le_of_ble_eq_true rfl, Nat.le_of_ble_eq_true rfl⟩ (rc_3 hK hT hk9999) hK (fun _ => XP.blind) (fun U hU hW => XP.at hK hz hS hT hU hW) rfl hl.1 (Nat.le_of_ble_eq_true rfl) dX10_gather_10 ⟨Nat.le_of_ble_eq_true rfl, Nat.le_of_ble_eq_true rfl⟩) hS ?_
  rintro G10 H locs ⟨hF10, oq10⟩ hT hS
  have oq10 : CH (vw (G.2.1 (F p1 0))) (vw (G.2.1 (F p2 0))) (aI (G10.2.1 (F (F a 11) 1))) (aI (G10.2.1 (F (F a 11) 0))) := by simp only [(show G1.2.1 (F p1 0) = G.2.1 (F p1 0) from (hF1.2.1 _ xn0)), (show G1.2.1 (F p2 0) = G.2.1 (F p2 0) from (hF1.2.1 _ xn0))] at oq10; exact oq10
  refine lv_iconst (v := 0) hx hb dX10_gather_13 (by decide) ?_
  refine lv_istore (lv' := [(5, .int 0), (0, .ref a), (1, .ref p0), (2, .ref p1), (3, .ref p2), (4, .int p3)]) hx hb dX10_gather_14 hl (by decide) rfl (fun ls hl => ?_)
  have L16 : ∀ (N16 : Nat) (l5_16 : Int32) (G_16 : XG) (H : Heap) (locs : List Loc) (ls : Array Slot), XFr [(F a 11, 3), (p0, 6)] [F (F a 11) 2, F p0 0, F p0 1, F p0 2, F p0 3, F p0 4, F p0 5] [] G10 G_16 → qL G_16 F p0 = gaL G (G.2.2.1 (F (F a 2) 1)) (vw (G.2.1 (F p1 0))) (vw (G.2.1 (F p2 0))) p3.toInt (l5_16.toInt).toNat → 0 ≤ l5_16.toInt ∧ l5_16.toInt ≤ ((G.1 (F a 2) 2).toInt) → 0 ≤ ((G_16.1 p0 6).toInt) ∧ ((G_16.1 p0 6).toInt) ≤ 90 * l5_16.toInt → (0 : Int) ≤ l5_16.toInt → 2147483648 - l5_16.toInt < ((N16 : Nat) : Int) → TW E K F G_16 H → va_S (xA E) s.heap H locs → lv_has ls 7 [(0, .ref a), (1, .ref p0), (2, .ref p1), (3, .ref p2), (4, .int p3), (5, .int l5_16)] → W p l e rm_X10_gather s m args below meth c H locs 0 0 Q (F0 m 16 ls []) := by
    intro N16
    induction N16 with
    | zero =>
      intro l5_16 G_16 H locs ls hF_16 pg I16_0 I16_1 I16_2 hm16
      exact absurd hm16 (z_X10_gather_1 l5_16.toInt (xr l5_16))
    | succ N16 ih16 =>
      intro l5_16 G_16 H locs ls hF_16 pg I16_0 I16_1 I16_2 hm16 hT hS hl
      refine lv_iload hx hb dX10_gather_16 (lv_at hl 5 rfl) ?_
      refine lv_aload_n hx hb dX10_gather_18 rfl (lv_at hl 0 rfl) ?_
      refine gX10_2 S hK hT ha kf_X10_30 dX10_gather_19 (fun _ _ => ?_)
      refine x_clp (x_runV (b := (F a 2)) (As := []) (rest := [.int l5_16]) S (c_X0_size l E K F G_16 H (F a 2) hk9999j) mv_X0_size km_X10_167 rfl rfl ⟨Nat.le_of_ble_eq_true rfl, Nat.le_of_ble_eq_true rfl⟩ (rc_2 hK hT hk9999j) hK (fun _ => XPh.blind) (fun U hU hW => XPh.at hK hz hS hT hU hW) rfl hl.1 (Nat.le_of_ble_eq_true rfl) dX10_gather_22 ⟨Nat.le_of_ble_eq_true rfl, Nat.le_of_ble_eq_true rfl⟩) hS ?_
      rintro _ _ locs ⟨x22, rfl, t22⟩ hS
      have t22 : x22.toInt = ((G.1 (F a 2) 2).toInt) := by rw [(show (G_16.1 (F a 2) 2).toInt = ((G.1 (F a 2) 2).toInt) from (congrArg Int32.toInt ((hF_16.1 _ _ (xnj (by decide) (xnj (by decide) xn0))).trans ((hF10.1 _ _ xn0).trans (hF1.1 _ _ (xnj (by decide) xn0))))).trans (rfl : Int32.toInt (G.1 (F a 2) 2) = ((G.1 (F a 2) 2).toInt)))] at t22; exact t22
      refine xi_cge (tgt := 72) hx hb (rfl : Int32.toInt l5_16 = l5_16.toInt) (t22 : Int32.toInt x22 = ((G.1 (F a 2) 2).toInt)) dX10_gather_25 (by decide) (fun c25 => ?_) (fun c25 => ?_)
      · exact x_rv hx hb hr hlk hQ (Nat.le_of_ble_eq_true rfl) (Nat.le_of_ble_eq_true rfl) hS dX10_gather_72 G_16 ⟨(XFr.call (XFr.call (XFr.call XFr.rf hF1 (xm1 1 rfl xm0) xm0 xm0) hF10 xm0 (xm1 0 rfl (xm1 1 rfl xm0)) xm0) hF_16 (xm1 0 rfl (xm1 1 rfl xm0)) (xm1 2 rfl (xm1 3 rfl (xm1 4 rfl (xm1 5 rfl (xm1 6 rfl (xm1 7 rfl (xm1 8 rfl xm0))))))) xm0), (z_X10_gather_2 l5_16.toInt ((G.1 (F a 2) 2).toInt) ((G_16.1 p0 6).toInt) sb I16_0 I16_1), (v_X10_gather_72_5 (K := K) (F := F) a p0 p1 p2 G G1 G10 G_16 p3 l5_16 N16 ha hp0 hp1 hp2 j1 j2 oq10 pg sb t1 I16_0 I16_1 I16_2 hm16 c25)⟩ hT
      · refine lv_aload_n hx hb dX10_gather_28 rfl (lv_at hl 0 rfl) ?_
        refine gX10_2 S hK hT ha kf_X10_30 dX10_gather_29 (fun _ _ => ?_)
        refine lv_iload hx hb dX10_gather_32 (lv_at hl 5 rfl) ?_
        refine x_clp (x_runV (b := (F a 2)) (As := [.int l5_16]) (rest := []) S (c_X0_inOrder l E K F G_16 H (F a 2) l5_16 hk9999j) mv_X0_inOrder km_X10_391 rfl rfl ⟨Nat.le_of_ble_eq_true rfl, Nat.le_of_ble_eq_true rfl⟩ (rc_2 hK hT hk9999j) hK (fun _ => XPh.blind) (fun U hU hW => XPh.at hK hz hS hT hU hW) rfl hl.1 (Nat.le_of_ble_eq_true rfl) dX10_gather_34 ⟨Nat.le_of_ble_eq_true rfl, Nat.le_of_ble_eq_true rfl⟩) hS ?_
        rintro _ _ locs (⟨rfl, hn34⟩ | ⟨q34, rfl, hk34, ht34, hs34⟩) hS
        · refine lv_astoreN (lv' := [(6, .null), (0, .ref a), (1, .ref p0), (2, .ref p1), (3, .ref p2), (4, .int p3), (5, .int l5_16)]) hx hb dX10_gather_37 hl (by decide) rfl (fun ls hl => ?_)
          refine lv_aloadN hx hb dX10_gather_39 (lv_at hl 0 rfl) ?_
          refine lv_ifnullN (tgt := 66) hx hb dX10_gather_41 (by decide) ?_
          refine xi_iinc (n := 1) (lv' := fun z9 => [(5, .int z9), (6, .null), (0, .ref a), (1, .ref p0), (2, .ref p1), (3, .ref p2), (4, .int p3)]) (k := 6) hx hb (rfl : Int32.toInt l5_16 = l5_16.toInt) (by decide) dX10_gather_66 hl rfl (by decide) (fun _ => rfl) (fun x66 ls t66 hl => ?_)
          have e66 : x66.toInt = (l5_16.toInt + 1) := (z_X10_gather_3 l5_16.toInt x66.toInt ((G.1 (F a 2) 2).toInt) sb I16_0 t66)
          have hl : lv_has ls 7 [(5, .int x66), (6, .null), (0, .ref a), (1, .ref p0), (2, .ref p1), (3, .ref p2), (4, .int p3)] := hl
          refine lv_goto (tgt := 16) hx hb dX10_gather_69 (by decide) ?_
          exact ih16 x66 G_16 _ _ _ (XFr.call XFr.rf hF_16 (xm1 0 rfl (xm1 1 rfl xm0)) (xm1 0 rfl (xm1 1 rfl (xm1 2 rfl (xm1 3 rfl (xm1 4 rfl (xm1 5 rfl (xm1 6 rfl xm0))))))) xm0) (by rw [(e66 : Int32.toInt x66 = (l5_16.toInt + 1))] <;> exact (v_X10_gather_69_6 (K := K) (F := F) a p0 p1 p2 G G1 G10 G_16 p3 l5_16 N16 ha hp0 hp1 hp2 j1 j2 oq10 pg hn34 sb t1 I16_0 I16_1 I16_2 hm16 c25 ((hF_16.2.2 _ xn0).trans ((hF10.2.2 _ xn0).trans (hF1.2.2 _ xn0))) ((hF_16.1 _ _ (xnj (by decide) (xnj (by decide) xn0))).trans ((hF10.1 _ _ xn0).trans (hF1.1 _ _ (xnj (by decide) xn0)))))) (by rw [(e66 : Int32.toInt x66 = (l5_16.toInt + 1))] <;> exact (z_X10_gather_4 l5_16.toInt ((G.1 (F a 2) 2).toInt) I16_0 c25)) (by rw [(e66 : Int32.toInt x66 = (l5_16.toInt + 1))] <;> exact (z_X10_gather_5 l5_16.toInt ((G_16.1 p0 6).toInt) I16_1)) (by rw [(e66 : Int32.toInt x66 = (l5_16.toInt + 1))] <;> exact (z_X10_gather_6 l5_16.toInt ((G.1 (F a 2) 2).toInt) I16_0)) (by rw [(e66 : Int32.toInt x66 = (l5_16.toInt + 1))] <;> exact (z_X10_gather_7 l5_16.toInt N16 hm16)) hT hS (lv_sub hl [2, 3, 4, 5, 6, 0] rfl)
        · have ht34 : 0 ≤ l5_16.toInt ∧ l5_16.toInt < ((G.1 (F a 2) 2).toInt) ∧ l5_16.toInt < 12 := by rw [(show (G_16.1 (F a 2) 2).toInt = ((G.1 (F a 2) 2).toInt) from (congrArg Int32.toInt ((hF_16.1 _ _ (xnj (by decide) (xnj (by decide) xn0))).trans ((hF10.1 _ _ xn0).trans (hF1.1 _ _ (xnj (by decide) xn0))))).trans (rfl : Int32.toInt (G.1 (F a 2) 2) = ((G.1 (F a 2) 2).toInt)))] at ht34; exact ht34
          refine lv_astore (lv' := [(6, .ref q34), (0, .ref a), (1, .ref p0), (2, .ref p1), (3, .ref p2), (4, .int p3), (5, .int l5_16)]) hx hb dX10_gather_37 hl (by decide) rfl (fun ls hl => ?_)
          refine lv_aload hx hb dX10_gather_39 (lv_at hl 0 rfl) ?_
          refine lv_ifnull hx hb dX10_gather_41 ?_
          refine lv_aload hx hb dX10_gather_44 (lv_at hl 0 rfl) ?_
          refine lv_iload hx hb dX10_gather_46 (lv_at hl 5 rfl) ?_
          refine x_clp (x_runV (b := q34) (As := [.int p3]) (rest := []) S (c_X7_isAmong l E K F G_16 H q34 p3 hk34) mv_X7_isAmong km_X10_394 rfl rfl ⟨Nat.le_of_ble_eq_true rfl, Nat.le_of_ble_eq_true rfl⟩ (rc_9 hK hT hk34) hK (fun _ => XPh.blind) (fun U hU hW => XPh.at hK hz hS hT hU hW) rfl hl.1 (Nat.le_of_ble_eq_true rfl) dX10_gather_48 ⟨Nat.le_of_ble_eq_true rfl, Nat.le_of_ble_eq_true rfl⟩) hS ?_
          rintro _ _ locs ⟨x48, rfl, b48, t48⟩ hS
          have t48 : ((p3.toInt = 0 ∨ (((G.1 q34 9).toInt) = 1 ∧ p3.toInt = 1) ∨ (((G.1 q34 9).toInt) = 0 ∧ p3.toInt ≠ 1)) ∧ x48.toInt = 1) ∨ ((¬ (p3.toInt = 0 ∨ (((G.1 q34 9).toInt) = 1 ∧ p3.toInt = 1) ∨ (((G.1 q34 9).toInt) = 0 ∧ p3.toInt ≠ 1))) ∧ x48.toInt = 0) := by rw [(show (G_16.1 q34 9).toInt = ((G.1 q34 9).toInt) from (congrArg Int32.toInt ((hF_16.1 _ _ (xnj (by decide) (xnj (by decide) xn0))).trans ((hF10.1 _ _ xn0).trans (hF1.1 _ _ (xnj (by decide) xn0))))).trans (rfl : Int32.toInt (G.1 q34 9) = ((G.1 q34 9).toInt)))] at t48; exact t48
          refine xi_zeq (tgt := 66) hx hb (rfl : Int32.toInt x48 = x48.toInt) dX10_gather_51 (by decide) (fun c51 => ?_) (fun c51 => ?_)
          · refine xi_iinc (n := 1) (lv' := fun z9 => [(5, .int z9), (6, .ref q34), (0, .ref a), (1, .ref p0), (2, .ref p1), (3, .ref p2), (4, .int p3)]) (k := 6) hx hb (rfl : Int32.toInt l5_16 = l5_16.toInt) (by decide) dX10_gather_66 hl rfl (by decide) (fun _ => rfl) (fun x66 ls t66 hl => ?_)
            have e66 : x66.toInt = (l5_16.toInt + 1) := (z_X10_gather_8 l5_16.toInt x66.toInt ((G.1 (F a 2) 2).toInt) ht34 t66)
            have hl : lv_has ls 7 [(5, .int x66), (6, .ref q34), (0, .ref a), (1, .ref p0), (2, .ref p1), (3, .ref p2), (4, .int p3)] := hl
            refine lv_goto (tgt := 16) hx hb dX10_gather_69 (by decide) ?_
            exact ih16 x66 G_16 _ _ _ (XFr.call XFr.rf hF_16 (xm1 0 rfl (xm1 1 rfl xm0)) (xm1 0 rfl (xm1 1 rfl (xm1 2 rfl (xm1 3 rfl (xm1 4 rfl (xm1 5 rfl (xm1 6 rfl xm0))))))) xm0) (by rw [(e66 : Int32.toInt x66 = (l5_16.toInt + 1))] <;> exact (v_X10_gather_69_7 (K := K) (F := F) a p0 p1 p2 q34 G G1 G10 G_16 p3 l5_16 N16 x48 ha hp0 hp1 hp2 j1 j2 oq10 pg hs34 sb t1 I16_0 I16_1 I16_2 hm16 c25 ht34 t48 c51 ((hF_16.2.2 _ xn0).trans ((hF10.2.2 _ xn0).trans (hF1.2.2 _ xn0))))) (by rw [(e66 : Int32.toInt x66 = (l5_16.toInt + 1))] <;> exact (z_X10_gather_4 l5_16.toInt ((G.1 (F a 2) 2).toInt) I16_0 c25)) (by rw [(e66 : Int32.toInt x66 = (l5_16.toInt + 1))] <;> exact (z_X10_gather_5 l5_16.toInt ((G_16.1 p0 6).toInt) I16_1)) (by rw [(e66 : Int32.toInt x66 = (l5_16.toInt + 1))] <;> exact (z_X10_gather_6 l5_16.toInt ((G.1 (F a 2) 2).toInt) I16_0)) (by rw [(e66 : Int32.toInt x66 = (l5_16.toInt + 1))] <;> exact (z_X10_gather_7 l5_16.toInt N16 hm16)) hT hS (lv_sub hl [2, 3, 4, 5, 6, 0] rfl)
          · refine lv_aload_n hx hb dX10_gather_54 rfl (lv_at hl 1 rfl) ?_
            refine gX10_11 S hK hT ha kf_X10_70 dX10_gather_55 (fun _ _ => ?_)
            refine lv_aload hx hb dX10_gather_58 (lv_at hl 0 rfl) ?_
            refine lv_aload_n hx hb dX10_gather_60 rfl (lv_at hl 3 rfl) ?_
            refine lv_aload_n hx hb dX10_gather_61 rfl (lv_at hl 4 rfl) ?_
            refine lv_aload_n hx hb dX10_gather_62 rfl (lv_at hl 2 rfl) ?_
            refine x_cv0 (x_runV (b := (F a 11)) (As := [.ref q34, .ref p1, .ref p2, .ref p0]) (rest := []) S (c_X1_addQuestions l E K F G_16 (F a 11) q34 p1 p2 p0 hk9999 hk34 hp1 hp2 hp0 (z_X10_gather_13 l5_16.toInt ((G.1 (F a 2) 2).toInt) ((G_16.1 p0 6).toInt) I16_1 ht34) (v_X10_gather_63_8 (F := F) p1 p2 G G_16 ro1 ro2 ((hF_16.2.1 _ (xn1 (xne_k hk9999l hk9999c (by decide)) (xn1 (xne_k hk9999l hk9999d (by decide)) (xn1 (xne_k hk9999l hk9999e (by decide)) (xn1 (xne_k hk9999l hk9999f (by decide)) (xn1 (xne_k hk9999l hk9999g (by decide)) (xn1 (xne_k hk9999l hk9999h (by decide)) (xn1 (xne_k hk9999l hk9999i (by decide)) xn0)))))))).trans ((hF10.2.1 _ (xn1 (xne_k hk9999l hk9999a (by decide)) (xn1 (xne_k hk9999l hk9999b (by decide)) xn0))).trans (hF1.2.1 _ xn0))) ((hF_16.2.1 _ (xn1 (xne_k hk9999m hk9999c (by decide)) (xn1 (xne_k hk9999m hk9999d (by decide)) (xn1 (xne_k hk9999m hk9999e (by decide)) (xn1 (xne_k hk9999m hk9999f (by decide)) (xn1 (xne_k hk9999m hk9999g (by decide)) (xn1 (xne_k hk9999m hk9999h (by decide)) (xn1 (xne_k hk9999m hk9999i (by decide)) xn0)))))))).trans ((hF10.2.1 _ (xn1 (xne_j hj9999m hj9999a (by first | decide | omega)) (xn1 (xne_j hj9999m hj9999b (by first | decide | omega)) xn0))).trans (hF1.2.1 _ xn0)))) (v_X10_gather_63_9 (F := F) p1 p2 G G_16 ro1 ro2 ((hF_16.2.1 _ (xn1 (xne_k hk9999n hk9999c (by decide)) (xn1 (xne_k hk9999n hk9999d (by decide)) (xn1 (xne_k hk9999n hk9999e (by decide)) (xn1 (xne_k hk9999n hk9999f (by decide)) (xn1 (xne_k hk9999n hk9999g (by decide)) (xn1 (xne_k hk9999n hk9999h (by decide)) (xn1 (xne_k hk9999n hk9999i (by decide)) xn0)))))))).trans ((hF10.2.1 _ (xn1 (xne_k hk9999n hk9999a (by decide)) (xn1 (xne_k hk9999n hk9999b (by decide)) xn0))).trans (hF1.2.1 _ xn0))) ((hF_16.2.1 _ (xn1 (xne_k hk9999o hk9999c (by decide)) (xn1 (xne_k hk9999o hk9999d (by decide)) (xn1 (xne_k hk9999o hk9999e (by decide)) (xn1 (xne_k hk9999o hk9999f (by decide)) (xn1 (xne_k hk9999o hk9999g (by decide)) (xn1 (xne_k hk9999o hk9999h (by decide)) (xn1 (xne_k hk9999o hk9999i (by decide)) xn0)))))))).trans ((hF10.2.1 _ (xn1 (xne_j hj9999o hj9999a (by first | decide | omega)) (xn1 (xne_j hj9999o hj9999b (by first | decide | omega)) xn0))).trans (hF1.2.1 _ xn0)))) (v_X10_gather_63_10 (K := K) (F := F) a p0 p1 p2 q34 G G1 G10 G_16 p3 l5_16 N16 x48 ha hp0 hp1 hp2 hbk j1 j2 oq10 hs34 sb t1 I16_0 I16_1 I16_2 hm16 c25 ht34 t48 c51 ((hF_16.2.2 _ xn0).trans ((hF10.2.2 _ xn0).trans (hF1.2.2 _ xn0))) ((fr_A hF_16 (fun _ => (xna (xne_k hk34 hk9999 (by decide)) (xna (xne_k hk34 hp0 (by decide)) xn0)))).trans ((fr_A hF10 (fun _ => xn0)).trans (fr_A hF1 (fun _ => (xna (xne_k hk34 hp0 (by decide)) xn0)))))) (v_X10_gather_63_11 (K := K) (F := F) a p0 p1 p2 q34 G G1 G10 G_16 p3 l5_16 x22 N16 x48 ha hp0 hp1 hp2 hk9999 hj9999 hk9999a hj9999a hk9999b hj9999b hk9999c hj9999c hk9999d hj9999d hk9999e hj9999e hk9999f hj9999f hk9999g hj9999g hk9999h hj9999h hk9999i hj9999i hk9999j hj9999j hk9999k hj9999k hk9999l hj9999l hk9999m hj9999m hk9999n hj9999n hk9999o hj9999o hk34 hF1 hF10 hF_16 ro1 ro2 hbk j1 j2 oq10 pg t22 hs34 sb t1 I16_0 I16_1 I16_2 hm16 c25 ht34 t48 c51 (hF_16.2.1 _ (xn1 (xne_k hk9999a hk9999c (by decide)) (xn1 (xne_k hk9999a hk9999d (by decide)) (xn1 (xne_k hk9999a hk9999e (by decide)) (xn1 (xne_k hk9999a hk9999f (by decide)) (xn1 (xne_k hk9999a hk9999g (by decide)) (xn1 (xne_k hk9999a hk9999h (by decide)) (xn1 (xne_k hk9999a hk9999i (by decide)) xn0)))))))) (hF_16.2.1 _ (xn1 (xne_k hk9999b hk9999c (by decide)) (xn1 (xne_k hk9999b hk9999d (by decide)) (xn1 (xne_k hk9999b hk9999e (by decide)) (xn1 (xne_k hk9999b hk9999f (by decide)) (xn1 (xne_k hk9999b hk9999g (by decide)) (xn1 (xne_k hk9999b hk9999h (by decide)) (xn1 (xne_k hk9999b hk9999i (by decide)) xn0)))))))) ((hF_16.2.1 _ (xn1 (xne_k hk9999l hk9999c (by decide)) (xn1 (xne_k hk9999l hk9999d (by decide)) (xn1 (xne_k hk9999l hk9999e (by decide)) (xn1 (xne_k hk9999l hk9999f (by decide)) (xn1 (xne_k hk9999l hk9999g (by decide)) (xn1 (xne_k hk9999l hk9999h (by decide)) (xn1 (xne_k hk9999l hk9999i (by decide)) xn0)))))))).trans ((hF10.2.1 _ (xn1 (xne_k hk9999l hk9999a (by decide)) (xn1 (xne_k hk9999l hk9999b (by decide)) xn0))).trans (hF1.2.1 _ xn0))) ((hF_16.2.1 _ (xn1 (xne_k hk9999n hk9999c (by decide)) (xn1 (xne_k hk9999n hk9999d (by decide)) (xn1 (xne_k hk9999n hk9999e (by decide)) (xn1 (xne_k hk9999n hk9999f (by decide)) (xn1 (xne_k hk9999n hk9999g (by decide)) (xn1 (xne_k hk9999n hk9999h (by decide)) (xn1 (xne_k hk9999n hk9999i (by decide)) xn0)))))))).trans ((hF10.2.1 _ (xn1 (xne_k hk9999n hk9999a (by decide)) (xn1 (xne_k hk9999n hk9999b (by decide)) xn0))).trans (hF1.2.1 _ xn0))) ((hF_16.2.2 _ xn0).trans ((hF10.2.2 _ xn0).trans (hF1.2.2 _ xn0))))) mv_X1_addQuestions km_X10_397 rfl rfl ⟨Nat.le_of_ble_eq_true rfl, Nat.le_of_ble_eq_true rfl⟩ (rc_3 hK hT hk9999) hK (fun _ => XP.blind) (fun U hU hW => XP.at hK hz hS hT hU hW) rfl hl.1 (Nat.le_of_ble_eq_true rfl) dX10_gather_63 ⟨Nat.le_of_ble_eq_true rfl, Nat.le_of_ble_eq_true rfl⟩) hS ?_
            rintro G63 H locs ⟨hF63, t63, oq63⟩ hT hS
            have t63 : ((G_16.1 p0 6).toInt) ≤ ((G63.1 p0 6).toInt) ∧ ((G63.1 p0 6).toInt) ≤ ((G_16.1 p0 6).toInt) + 90 := t63
            have oq63 : qL G63 F p0 = qL G_16 F p0 ++ uqs (vw (G.2.1 (F p1 0))) (vw (G.2.1 (F p2 0))) (G_16.1 q34) := by simp only [(show G_16.2.1 (F p1 0) = G.2.1 (F p1 0) from ((hF_16.2.1 _ (xn1 (xne_k hk9999l hk9999c (by decide)) (xn1 (xne_k hk9999l hk9999d (by decide)) (xn1 (xne_k hk9999l hk9999e (by decide)) (xn1 (xne_k hk9999l hk9999f (by decide)) (xn1 (xne_k hk9999l hk9999g (by decide)) (xn1 (xne_k hk9999l hk9999h (by decide)) (xn1 (xne_k hk9999l hk9999i (by decide)) xn0)))))))).trans ((hF10.2.1 _ (xn1 (xne_k hk9999l hk9999a (by decide)) (xn1 (xne_k hk9999l hk9999b (by decide)) xn0))).trans (hF1.2.1 _ xn0)))), (show G_16.2.1 (F p2 0) = G.2.1 (F p2 0) from ((hF_16.2.1 _ (xn1 (xne_k hk9999n hk9999c (by decide)) (xn1 (xne_k hk9999n hk9999d (by decide)) (xn1 (xne_k hk9999n hk9999e (by decide)) (xn1 (xne_k hk9999n hk9999f (by decide)) (xn1 (xne_k hk9999n hk9999g (by decide)) (xn1 (xne_k hk9999n hk9999h (by decide)) (xn1 (xne_k hk9999n hk9999i (by decide)) xn0)))))))).trans ((hF10.2.1 _ (xn1 (xne_k hk9999n hk9999a (by decide)) (xn1 (xne_k hk9999n hk9999b (by decide)) xn0))).trans (hF1.2.1 _ xn0))))] at oq63; exact oq63
            refine xi_iinc (n := 1) (lv' := fun z9 => [(5, .int z9), (6, .ref q34), (0, .ref a), (1, .ref p0), (2, .ref p1), (3, .ref p2), (4, .int p3)]) (k := 6) hx hb (rfl : Int32.toInt l5_16 = l5_16.toInt) (by decide) dX10_gather_66 hl rfl (by decide) (fun _ => rfl) (fun x66 ls t66 hl => ?_)
            have e66 : x66.toInt = (l5_16.toInt + 1) := (z_X10_gather_8 l5_16.toInt x66.toInt ((G.1 (F a 2) 2).toInt) ht34 t66)
            have hl : lv_has ls 7 [(5, .int x66), (6, .ref q34), (0, .ref a), (1, .ref p0), (2, .ref p1), (3, .ref p2), (4, .int p3)] := hl
            refine lv_goto (tgt := 16) hx hb dX10_gather_69 (by decide) ?_
            exact ih16 x66 G63 _ _ _ (XFr.call (XFr.call XFr.rf hF_16 (xm1 0 rfl (xm1 1 rfl xm0)) (xm1 0 rfl (xm1 1 rfl (xm1 2 rfl (xm1 3 rfl (xm1 4 rfl (xm1 5 rfl (xm1 6 rfl xm0))))))) xm0) hF63 (xm1 0 rfl (xm1 1 rfl xm0)) (xm1 0 rfl (xm1 1 rfl (xm1 2 rfl (xm1 3 rfl (xm1 4 rfl (xm1 5 rfl (xm1 6 rfl xm0))))))) xm0) (by rw [(e66 : Int32.toInt x66 = (l5_16.toInt + 1))] <;> exact (v_X10_gather_69_12 (K := K) (F := F) a p0 p1 p2 q34 G G1 G10 G_16 G63 p3 l5_16 N16 x48 ha hp0 hp1 hp2 j1 j2 oq10 pg hs34 oq63 sb t1 I16_0 I16_1 I16_2 hm16 c25 ht34 t48 c51 t63 ((hF_16.2.2 _ xn0).trans ((hF10.2.2 _ xn0).trans (hF1.2.2 _ xn0))) ((fr_A hF_16 (fun _ => (xna (xne_k hk34 hk9999 (by decide)) (xna (xne_k hk34 hp0 (by decide)) xn0)))).trans ((fr_A hF10 (fun _ => xn0)).trans (fr_A hF1 (fun _ => (xna (xne_k hk34 hp0 (by decide)) xn0))))))) (by rw [(e66 : Int32.toInt x66 = (l5_16.toInt + 1))] <;> exact (z_X10_gather_4 l5_16.toInt ((G.1 (F a 2) 2).toInt) I16_0 c25)) (by rw [(e66 : Int32.toInt x66 = (l5_16.toInt + 1))] <;> exact (z_X10_gather_16 l5_16.toInt ((G63.1 p0 6).toInt) ((G_16.1 p0 6).toInt) I16_1 t63)) (by rw [(e66 : Int32.toInt x66 = (l5_16.toInt + 1))] <;> exact (z_X10_gather_6 l5_16.toInt ((G.1 (F a 2) 2).toInt) I16_0)) (by rw [(e66 : Int32.toInt x66 = (l5_16.toInt + 1))] <;> exact (z_X10_gather_7 l5_16.toInt N16 hm16)) hT hS (lv_sub hl [2, 3, 4, 5, 6, 0] rfl)
  exact L16 4294967297 0 G10 _ _ _ XFr.rf (v_X10_gather_14_13 (F := F) a p0 p1 p2 G G1 G10 p3 t1 (hF10.1 _ _ xn0)) (z_X10_gather_19 ((G.1 (F a 2) 2).toInt) sb) (by rw [(show (G10.1 p0 6).toInt = ((G1.1 p0 6).toInt) from (congrArg Int32.toInt (hF10.1 _ _ xn0)).trans (rfl : Int32.toInt (G1.1 p0 6) = ((G1.1 p0 6).toInt)))] <;> exact (z_X10_gather_20 ((G1.1 p0 6).toInt) t1)) (by decide) (by decide) hT hS (lv_sub hl [1, 2, 3, 4, 5, 0] rfl)

theorem z_X10_close_1 (a0 : Int) (h0 : a0 = 0) : (0 : Int) = 0 ∧ (0 : Int) = 0 ∧ a0 = 0 := by omega
abbrev rm_X10_close : Room := { frames := 1, cells := 0, slots := 0, locals := 20 }
set_option maxHeartbeats 4000000 in
set_option maxRecDepth 100000 in
theorem c_X10_close (l : Launch) (E : XE) (K : Nat → Nat) (F : Nat → Nat → Nat) (G : XG) (a : Nat) (ha : K a = 12) : Met l yX10_close (xw yX10_close cX10_close 1 none) rm_X10_close (va_Pc [.ref a] (XP E K F G)) (XQv E (fun (u : XG) => XFr [(a, 18), (a, 17), (F a 8, 6)] [] [] G u ∧ (((u.1 a 18).toInt) = 0 ∧ ((u.1 a 17).toInt) = 0 ∧ ((u.1 (F a 8) 6).toInt) = 0)) (fun u H => TW E K F u H)) 0 0 (xA E) := by
  refine x_enter (by decide) (Nat.le_of_ble_eq_true rfl) ?_
  intro p e s m args below meth c Q S hr hlk hnm hQ hP ls hl
  obtain ⟨hz, hK, hT⟩ := hP
  obtain ⟨hx, hb, -, -, -⟩ := id S
  obtain ⟨H, hT, hS, hgo⟩ : ∃ H : Heap, TW E K F G H ∧ va_S (xA E) s.heap H [] ∧ H = s.heap := ⟨_, hT, va_S.rf, rfl⟩
  rw [← hgo]
  have hl : lv_has ls 1 [(0, .ref a)] := hl
  obtain ⟨hk9999, hj9999⟩ := fkX10_8 hT ha
  refine lv_aload_n hx hb dX10_close_0 rfl (lv_at hl 0 rfl) ?_
  refine lv_iconst (v := 0) hx hb dX10_close_1 (by decide) ?_
  refine pX10_18 (v := 0) S hK hT hS ha kf_X10_123 (Or.inl rfl) dX10_close_2 (fun H locs hT hS => ?_)
  obtain ⟨G2, hG2⟩ : ∃ G9 : XG, G9 = dput G a 18 0 := ⟨_, rfl⟩
  rw [← hG2] at hT
  refine lv_aload_n hx hb dX10_close_5 rfl (lv_at hl 0 rfl) ?_
  refine lv_iconst (v := 0) hx hb dX10_close_6 (by decide) ?_
  refine pX10_17 (v := 0) S hK hT hS ha kf_X10_233 dX10_close_7 (fun H locs hT hS => ?_)
  obtain ⟨G7, hG7⟩ : ∃ G9 : XG, G9 = dput G2 a 17 0 := ⟨_, rfl⟩
  rw [← hG7] at hT
  refine lv_aload_n hx hb dX10_close_10 rfl (lv_at hl 0 rfl) ?_
  refine gX10_8 S hK hT ha kf_X10_57 dX10_close_11 (fun _ _ => ?_)
  refine x_cv0 (x_runV (b := (F a 8)) (As := []) (rest := []) S (c_X4_clear l E K F G7 (F a 8) hk9999) mv_X4_clear km_X10_386 rfl rfl ⟨Nat.le_of_ble_eq_true rfl, Nat.le_of_ble_eq_true rfl⟩ (rc_6 hK hT hk9999) hK (fun _ => XP.blind) (fun U hU hW => XP.at hK hz hS hT hU hW) rfl hl.1 (Nat.le_of_ble_eq_true rfl) dX10_close_14 ⟨Nat.le_of_ble_eq_true rfl, Nat.le_of_ble_eq_true rfl⟩) hS ?_
  rintro G14 H locs ⟨hF14, t14⟩ hT hS
  have t14 : ((G14.1 (F a 8) 6).toInt) = 0 := t14
  exact x_rv hx hb hr hlk hQ (Nat.le_of_ble_eq_true rfl) (Nat.le_of_ble_eq_true rfl) hS dX10_close_17 G14 ⟨(XFr.call (by rw [hG7]; exact XFr.dput (by rw [hG2]; exact XFr.dput XFr.rf (List.mem_of_getElem? (i := 0) rfl)) (List.mem_of_getElem? (i := 1) rfl)) hF14 (xm1 2 rfl xm0) xm0 xm0), (by rw [(show (G14.1 a 18).toInt = (0 : Int) from (congrArg Int32.toInt ((hF14.1 _ _ (xnj (by decide) xn0)).trans ((ld_j hG7 (by decide)).trans (ld_at hG2)))).trans ((by decide) : Int32.toInt 0 = (0 : Int))), (show (G14.1 a 17).toInt = (0 : Int) from (congrArg Int32.toInt ((hF14.1 _ _ (xnj (by decide) xn0)).trans (ld_at hG7))).trans ((by decide) : Int32.toInt 0 = (0 : Int)))] <;> exact (z_X10_close_1 ((G14.1 (F a 8) 6).toInt) t14))⟩ hT

theorem z_X10_firstFailingOf_1 (a0 : Int) (h0 : a0 = 0) : 0 ≤ a0 ∧ a0 ≤ 990 := by omega
theorem z_X10_firstFailingOf_2 (a0 : Int) (a1 : Int) (h0 : a1 = 0) (h1 : a1 ≤ a0 ∧ a0 ≤ a1 + 90) : 0 ≤ a0 ∧ a0 ≤ 1080 := by omega
theorem z_X10_firstFailingOf_3 (a0 : Int) (a1 : Int) (a2 : Int) (h0 : a0 = -1 ∨ (0 ≤ a0 ∧ a0 < a1 ∧ a2 = 1)) : -1 ≤ a0 := by omega
abbrev rm_X10_firstFailingOf : Room := { frames := 5, cells := 0, slots := 0, locals := 123 }
set_option maxHeartbeats 4000000 in
set_option maxRecDepth 100000 in
theorem c_X10_firstFailingOf (l : Launch) (E : XE) (K : Nat → Nat) (F : Nat → Nat → Nat) (G : XG) (a : Nat) (p0 : Nat) (ha : K a = 12) (hp0 : K p0 = 9) (ro1 : RO (vw (G.2.1 (F (F a 6) 0))) (aI (G.2.1 (F (F a 6) 1)))) (ro2 : RO (vw (G.2.1 (F (F a 3) 0))) (aI (G.2.1 (F (F a 3) 1)))) (hrw : RW (G.1 p0)) : Met l yX10_firstFailingOf (xw yX10_firstFailingOf cX10_firstFailingOf 2 (some .int)) rm_X10_firstFailingOf (va_Pc [.ref a, .ref p0] (XP E K F G)) (XQ E (fun v (u : XG) => ∃ r : Int32, v = .int r ∧ XFr [(F a 11, 3), (F a 9, 6)] [F (F a 11) 0, F (F a 11) 1, F (F a 11) 2, F (F a 9) 0, F (F a 9) 1, F (F a 9) 2, F (F a 9) 3, F (F a 9) 4, F (F a 9) 5] [] G u ∧ (-1 ≤ r.toInt) ∧ (r.toInt = ffL (qL u F (F a 9))) ∧ (qL u F (F a 9) = uqs (vw (G.2.1 (F (F a 6) 0))) (vw (G.2.1 (F (F a 3) 0))) (G.1 p0))) (fun u H => TW E K F u H)) 0 0 (xA E) := by
  refine x_enter (by decide) (Nat.le_of_ble_eq_true rfl) ?_
  intro p e s m args below meth c Q S hr hlk hnm hQ hP ls hl
  obtain ⟨hz, hK, hT⟩ := hP
  obtain ⟨hx, hb, -, -, -⟩ := id S
  obtain ⟨H, hT, hS, hgo⟩ : ∃ H : Heap, TW E K F G H ∧ va_S (xA E) s.heap H [] ∧ H = s.heap := ⟨_, hT, va_S.rf, rfl⟩
  rw [← hgo]
  have hl : lv_has ls 2 [(0, .ref a), (1, .ref p0)] := hl
  obtain ⟨hk9999, hj9999⟩ := fkX10_11 hT ha
  obtain ⟨hk9999a, hj9999a⟩ := fkX10_9 hT ha
  obtain ⟨hk9999b, hj9999b⟩ := fkX1_0 hT hk9999
  obtain ⟨hk9999c, hj9999c⟩ := fkX1_1 hT hk9999
  obtain ⟨hk9999d, hj9999d⟩ := fkX1_2 hT hk9999
  obtain ⟨hk9999e, hj9999e⟩ := fkX4_0 hT hk9999a
  have hj9999f : F (F (F a 9) 0) 99 = 10 * 1 + 0 := by rw [hj9999e, hj9999a]
  obtain ⟨hk9999f, hj9999g⟩ := fkX4_1 hT hk9999a
  have hj9999h : F (F (F a 9) 1) 99 = 10 * 1 + 1 := by rw [hj9999g, hj9999a]
  obtain ⟨hk9999g, hj9999i⟩ := fkX4_2 hT hk9999a
  have hj9999j : F (F (F a 9) 2) 99 = 10 * 1 + 2 := by rw [hj9999i, hj9999a]
  obtain ⟨hk9999h, hj9999k⟩ := fkX4_3 hT hk9999a
  have hj9999l : F (F (F a 9) 3) 99 = 10 * 1 + 3 := by rw [hj9999k, hj9999a]
  obtain ⟨hk9999i, hj9999m⟩ := fkX4_4 hT hk9999a
  have hj9999n : F (F (F a 9) 4) 99 = 10 * 1 + 4 := by rw [hj9999m, hj9999a]
  obtain ⟨hk9999j, hj9999o⟩ := fkX4_5 hT hk9999a
  have hj9999p : F (F (F a 9) 5) 99 = 10 * 1 + 5 := by rw [hj9999o, hj9999a]
  obtain ⟨hk9999k, hj9999q⟩ := fkX10_6 hT ha
  obtain ⟨hk9999l, hj9999r⟩ := fkX6_0 hT hk9999k
  have hj9999s : F (F (F a 6) 0) 99 = 3 := by rw [hj9999r, hj9999q]
  obtain ⟨hk9999m, hj9999t⟩ := fkX6_1 hT hk9999k
  have hj9999u : F (F (F a 6) 1) 99 = 3 := by rw [hj9999t, hj9999q]
  obtain ⟨hk9999n, hj9999v⟩ := fkX10_3 hT ha
  obtain ⟨hk9999o, hj9999w⟩ := fkX6_0 hT hk9999n
  have hj9999y : F (F (F a 3) 0) 99 = 0 := by rw [hj9999w, hj9999v]
  obtain ⟨hk9999p, hj9999z25⟩ := fkX6_1 hT hk9999n
  have hj9999z26 : F (F (F a 3) 1) 99 = 0 := by rw [hj9999z25, hj9999v]
  refine lv_aload_n hx hb dX10_firstFailingOf_0 rfl (lv_at hl 0 rfl) ?_
  refine gX10_9 S hK hT ha kf_X10_61 dX10_firstFailingOf_1 (fun _ _ => ?_)
  refine x_cv0 (x_runV (b := (F a 9)) (As := []) (rest := []) S (c_X4_clear l E K F G (F a 9) hk9999a) mv_X4_clear km_X10_386 rfl rfl ⟨Nat.le_of_ble_eq_true rfl, Nat.le_of_ble_eq_true rfl⟩ (rc_6 hK hT hk9999a) hK (fun _ => XP.blind) (fun U hU hW => XP.at hK hz hS hT hU hW) rfl hl.1 (Nat.le_of_ble_eq_true rfl) dX10_firstFailingOf_4 ⟨Nat.le_of_ble_eq_true rfl, Nat.le_of_ble_eq_true rfl⟩) hS ?_
  rintro G4 H locs ⟨hF4, t4⟩ hT hS
  have t4 : ((G4.1 (F a 9) 6).toInt) = 0 := t4
  refine lv_aload_n hx hb dX10_firstFailingOf_7 rfl (lv_at hl 0 rfl) ?_
  refine gX10_11 S hK hT ha kf_X10_70 dX10_firstFailingOf_8 (fun _ _ => ?_)
  refine lv_aload_n hx hb dX10_firstFailingOf_11 rfl (lv_at hl 0 rfl) ?_
  refine gX10_6 S hK hT ha kf_X10_47 dX10_firstFailingOf_12 (fun _ _ => ?_)
  refine lv_aload_n hx hb dX10_firstFailingOf_15 rfl (lv_at hl 0 rfl) ?_
  refine gX10_3 S hK hT ha kf_X10_37 dX10_firstFailingOf_16 (fun _ _ => ?_)
  refine x_cv0 (x_runV (b := (F a 11)) (As := [.ref (F a 6), .ref (F a 3)]) (rest := []) S (c_X1_ofAllRows l E K F G4 (F a 11) (F a 6) (F a 3) hk9999 hk9999k hk9999n (v_X10_firstFailingOf_19_1 (F := F) a G G4 ro1 ro2 (hF4.2.1 _ xn0) (hF4.2.1 _ xn0)) (v_X10_firstFailingOf_19_2 (F := F) a G G4 ro1 ro2 (hF4.2.1 _ xn0) (hF4.2.1 _ xn0)) (v_X10_firstFailingOf_19_3 (K := K) (F := F) a p0 G G4 ha hp0 hk9999 hj9999 hk9999a hj9999a hk9999b hj9999b hk9999c hj9999c hk9999d hj9999d hk9999e hj9999f hk9999f hj9999h hk9999g hj9999j hk9999h hj9999l hk9999i hj9999n hk9999j hj9999p hk9999k hj9999q hk9999l hj9999s hk9999m hj9999u hk9999n hj9999v hk9999o hj9999y hk9999p hj9999z26 hF4 ro1 ro2 hrw t4 (hF4.2.1 _ xn0) (hF4.2.1 _ xn0) (hF4.2.1 _ xn0) (hF4.2.1 _ xn0) (hF4.2.1 _ xn0) (hF4.2.1 _ xn0) (hF4.2.1 _ xn0) (hF4.2.1 _ xn0) (hF4.2.1 _ xn0) (hF4.1 _ _ (xnj (by decide) xn0))) (v_X10_firstFailingOf_19_4 (K := K) (F := F) a p0 G G4 ha hp0 hk9999 hj9999 hk9999a hj9999a hk9999b hj9999b hk9999c hj9999c hk9999d hj9999d hk9999e hj9999f hk9999f hj9999h hk9999g hj9999j hk9999h hj9999l hk9999i hj9999n hk9999j hj9999p hk9999k hj9999q hk9999l hj9999s hk9999m hj9999u hk9999n hj9999v hk9999o hj9999y hk9999p hj9999z26 hF4 ro1 ro2 hrw t4 (hF4.2.1 _ xn0) (hF4.2.1 _ xn0) (hF4.2.1 _ xn0) (hF4.2.1 _ xn0) (hF4.2.1 _ xn0) (hF4.2.1 _ xn0) (hF4.2.1 _ xn0) (hF4.2.1 _ xn0) (hF4.2.1 _ xn0) (hF4.1 _ _ (xnj (by decide) xn0)))) mv_X1_ofAllRows km_X10_387 rfl rfl ⟨Nat.le_of_ble_eq_true rfl, Nat.le_of_ble_eq_true rfl⟩ (rc_3 hK hT hk9999) hK (fun _ => XP.blind) (fun U hU hW => XP.at hK hz hS hT hU hW) rfl hl.1 (Nat.le_of_ble_eq_true rfl) dX10_firstFailingOf_19 ⟨Nat.le_of_ble_eq_true rfl, Nat.le_of_ble_eq_true rfl⟩) hS ?_
  rintro G19 H locs ⟨hF19, oq19⟩ hT hS
  have oq19 : CH (vw (G.2.1 (F (F a 6) 0))) (vw (G.2.1 (F (F a 3) 0))) (aI (G19.2.1 (F (F a 11) 1))) (aI (G19.2.1 (F (F a 11) 0))) := by simp only [(show G4.2.1 (F (F a 6) 0) = G.2.1 (F (F a 6) 0) from (hF4.2.1 _ xn0)), (show G4.2.1 (F (F a 3) 0) = G.2.1 (F (F a 3) 0) from (hF4.2.1 _ xn0))] at oq19; exact oq19
  refine lv_aload_n hx hb dX10_firstFailingOf_22 rfl (lv_at hl 0 rfl) ?_
  refine gX10_11 S hK hT ha kf_X10_70 dX10_firstFailingOf_23 (fun _ _ => ?_)
  refine lv_aload_n hx hb dX10_firstFailingOf_26 rfl (lv_at hl 1 rfl) ?_
  refine lv_aload_n hx hb dX10_firstFailingOf_27 rfl (lv_at hl 0 rfl) ?_
  refine gX10_6 S hK hT ha kf_X10_47 dX10_firstFailingOf_28 (fun _ _ => ?_)
  refine lv_aload_n hx hb dX10_firstFailingOf_31 rfl (lv_at hl 0 rfl) ?_
  refine gX10_3 S hK hT ha kf_X10_37 dX10_firstFailingOf_32 (fun _ _ => ?_)
  refine lv_aload_n hx hb dX10_firstFailingOf_35 rfl (lv_at hl 0 rfl) ?_
  refine gX10_9 S hK hT ha kf_X10_61 dX10_firstFailingOf_36 (fun _ _ => ?_)
  refine x_cv0 (x_runV (b := (F a 11)) (As := [.ref p0, .ref (F a 6), .ref (F a 3), .ref (F a 9)]) (rest := []) S (c_X1_addQuestions l E K F G19 (F a 11) p0 (F a 6) (F a 3) (F a 9) hk9999 hp0 hk9999k hk9999n hk9999a (by rw [(show (G19.1 (F a 9) 6).toInt = ((G4.1 (F a 9) 6).toInt) from (congrArg Int32.toInt (hF19.1 _ _ xn0)).trans (rfl : Int32.toInt (G4.1 (F a 9) 6) = ((G4.1 (F a 9) 6).toInt)))] <;> exact (z_X10_firstFailingOf_1 ((G4.1 (F a 9) 6).toInt) t4)) (v_X10_firstFailingOf_39_5 (F := F) a G G19 ro1 ro2 ((hF19.2.1 _ (xn1 (xne_k hk9999l hk9999b (by decide)) (xn1 (xne_k hk9999l hk9999c (by decide)) xn0))).trans (hF4.2.1 _ xn0)) ((hF19.2.1 _ (xn1 (xne_j hj9999u hj9999b (by first | decide | omega)) (xn1 (xne_j hj9999u hj9999c (by first | decide | omega)) xn0))).trans (hF4.2.1 _ xn0))) (v_X10_firstFailingOf_39_6 (F := F) a G G19 ro1 ro2 ((hF19.2.1 _ (xn1 (xne_k hk9999o hk9999b (by decide)) (xn1 (xne_k hk9999o hk9999c (by decide)) xn0))).trans (hF4.2.1 _ xn0)) ((hF19.2.1 _ (xn1 (xne_j hj9999z26 hj9999b (by first | decide | omega)) (xn1 (xne_j hj9999z26 hj9999c (by first | decide | omega)) xn0))).trans (hF4.2.1 _ xn0))) (v_X10_firstFailingOf_39_7 (K := K) (F := F) a p0 G G4 G19 ha hp0 hk9999 hj9999 hk9999a hj9999a hk9999b hj9999b hk9999c hj9999c hk9999d hj9999d hk9999e hj9999f hk9999f hj9999h hk9999g hj9999j hk9999h hj9999l hk9999i hj9999n hk9999j hj9999p hk9999k hj9999q hk9999l hj9999s hk9999m hj9999u hk9999n hj9999v hk9999o hj9999y hk9999p hj9999z26 hF4 hF19 ro1 ro2 hrw oq19 t4 ((hF19.2.1 _ (xn1 (xne_k hk9999d hk9999b (by decide)) (xn1 (xne_k hk9999d hk9999c (by decide)) xn0))).trans (hF4.2.1 _ xn0)) ((hF19.2.1 _ (xn1 (xne_k hk9999e hk9999b (by decide)) (xn1 (xne_k hk9999e hk9999c (by decide)) xn0))).trans (hF4.2.1 _ xn0)) ((hF19.2.1 _ (xn1 (xne_k hk9999f hk9999b (by decide)) (xn1 (xne_k hk9999f hk9999c (by decide)) xn0))).trans (hF4.2.1 _ xn0)) ((hF19.2.1 _ (xn1 (xne_k hk9999g hk9999b (by decide)) (xn1 (xne_k hk9999g hk9999c (by decide)) xn0))).trans (hF4.2.1 _ xn0)) ((hF19.2.1 _ (xn1 (xne_k hk9999h hk9999b (by decide)) (xn1 (xne_k hk9999h hk9999c (by decide)) xn0))).trans (hF4.2.1 _ xn0)) ((hF19.2.1 _ (xn1 (xne_k hk9999i hk9999b (by decide)) (xn1 (xne_k hk9999i hk9999c (by decide)) xn0))).trans (hF4.2.1 _ xn0)) ((hF19.2.1 _ (xn1 (xne_k hk9999j hk9999b (by decide)) (xn1 (xne_k hk9999j hk9999c (by decide)) xn0))).trans (hF4.2.1 _ xn0)) ((fr_A hF19 (fun _ => xn0)).trans (fr_A hF4 (fun _ => (xna (xne_k hp0 hk9999a (by decide)) xn0)))) ((hF19.1 _ _ xn0).trans (hF4.1 _ _ (xnj (by decide) xn0))) (hF19.1 _ _ xn0)) (v_X10_firstFailingOf_39_8 (K := K) (F := F) a p0 G G4 G19 ha hp0 hk9999 hj9999 hk9999a hj9999a hk9999b hj9999b hk9999c hj9999c hk9999d hj9999d hk9999e hj9999f hk9999f hj9999h hk9999g hj9999j hk9999h hj9999l hk9999i hj9999n hk9999j hj9999p hk9999k hj9999q hk9999l hj9999s hk9999m hj9999u hk9999n hj9999v hk9999o hj9999y hk9999p hj9999z26 hF4 hF19 ro1 ro2 hrw oq19 t4 ((hF19.2.1 _ (xn1 (xne_k hk9999d hk9999b (by decide)) (xn1 (xne_k hk9999d hk9999c (by decide)) xn0))).trans (hF4.2.1 _ xn0)) ((hF19.2.1 _ (xn1 (xne_k hk9999o hk9999b (by decide)) (xn1 (xne_k hk9999o hk9999c (by decide)) xn0))).trans (hF4.2.1 _ xn0)) ((hF19.2.1 _ (xn1 (xne_k hk9999l hk9999b (by decide)) (xn1 (xne_k hk9999l hk9999c (by decide)) xn0))).trans (hF4.2.1 _ xn0)) ((hF19.2.1 _ (xn1 (xne_k hk9999e hk9999b (by decide)) (xn1 (xne_k hk9999e hk9999c (by decide)) xn0))).trans (hF4.2.1 _ xn0)) ((hF19.2.1 _ (xn1 (xne_k hk9999f hk9999b (by decide)) (xn1 (xne_k hk9999f hk9999c (by decide)) xn0))).trans (hF4.2.1 _ xn0)) ((hF19.2.1 _ (xn1 (xne_k hk9999g hk9999b (by decide)) (xn1 (xne_k hk9999g hk9999c (by decide)) xn0))).trans (hF4.2.1 _ xn0)) ((hF19.2.1 _ (xn1 (xne_k hk9999h hk9999b (by decide)) (xn1 (xne_k hk9999h hk9999c (by decide)) xn0))).trans (hF4.2.1 _ xn0)) ((hF19.2.1 _ (xn1 (xne_k hk9999i hk9999b (by decide)) (xn1 (xne_k hk9999i hk9999c (by decide)) xn0))).trans (hF4.2.1 _ xn0)) ((hF19.2.1 _ (xn1 (xne_k hk9999j hk9999b (by decide)) (xn1 (xne_k hk9999j hk9999c (by decide)) xn0))).trans (hF4.2.1 _ xn0)) ((hF19.1 _ _ xn0).trans (hF4.1 _ _ (xnj (by decide) xn0))) (hF19.1 _ _ xn0))) mv_X1_addQuestions km_X10_397 rfl rfl ⟨Nat.le_of_ble_eq_true rfl, Nat.le_of_ble_eq_true rfl⟩ (rc_3 hK hT hk9999) hK (fun _ => XP.blind) (fun U hU hW => XP.at hK hz hS hT hU hW) rfl hl.1 (Nat.le_of_ble_eq_true rfl) dX10_firstFailingOf_39 ⟨Nat.le_of_ble_eq_true rfl, Nat.le_of_ble_eq_true rfl⟩) hS ?_
  rintro G39 H locs ⟨hF39, t39, oq39⟩ hT hS
  have t39 : ((G4.1 (F a 9) 6).toInt) ≤ ((G39.1 (F a 9) 6).toInt) ∧ ((G39.1 (F a 9) 6).toInt) ≤ ((G4.1 (F a 9) 6).toInt) + 90 := by rw [(show (G19.1 (F a 9) 6).toInt = ((G4.1 (F a 9) 6).toInt) from (congrArg Int32.toInt (hF19.1 _ _ xn0)).trans (rfl : Int32.toInt (G4.1 (F a 9) 6) = ((G4.1 (F a 9) 6).toInt)))] at t39; exact t39
  have oq39 : qL G39 F (F a 9) = qL G19 F (F a 9) ++ uqs (vw (G.2.1 (F (F a 6) 0))) (vw (G.2.1 (F (F a 3) 0))) (G19.1 p0) := by simp only [(show G19.2.1 (F (F a 6) 0) = G.2.1 (F (F a 6) 0) from ((hF19.2.1 _ (xn1 (xne_k hk9999l hk9999b (by decide)) (xn1 (xne_k hk9999l hk9999c (by decide)) xn0))).trans (hF4.2.1 _ xn0))), (show G19.2.1 (F (F a 3) 0) = G.2.1 (F (F a 3) 0) from ((hF19.2.1 _ (xn1 (xne_k hk9999o hk9999b (by decide)) (xn1 (xne_k hk9999o hk9999c (by decide)) xn0))).trans (hF4.2.1 _ xn0)))] at oq39; exact oq39
  refine lv_aload_n hx hb dX10_firstFailingOf_42 rfl (lv_at hl 0 rfl) ?_
  refine gX10_9 S hK hT ha kf_X10_61 dX10_firstFailingOf_43 (fun _ _ => ?_)
  refine x_clp (x_runV (b := (F a 9)) (As := []) (rest := []) S (c_X4_firstFailing l E K F G39 H (F a 9) hk9999a (z_X10_firstFailingOf_2 ((G39.1 (F a 9) 6).toInt) ((G4.1 (F a 9) 6).toInt) t4 t39)) mv_X4_firstFailing km_X10_244 rfl rfl ⟨Nat.le_of_ble_eq_true rfl, Nat.le_of_ble_eq_true rfl⟩ (rc_6 hK hT hk9999a) hK (fun _ => XPh.blind) (fun U hU hW => XPh.at hK hz hS hT hU hW) rfl hl.1 (Nat.le_of_ble_eq_true rfl) dX10_firstFailingOf_46 ⟨Nat.le_of_ble_eq_true rfl, Nat.le_of_ble_eq_true rfl⟩) hS ?_
  rintro _ _ locs ⟨x46, rfl, t46, oq46⟩ hS
  have t46 : x46.toInt = -1 ∨ (0 ≤ x46.toInt ∧ x46.toInt < ((G39.1 (F a 9) 6).toInt) ∧ (aI (G39.2.1 (F (F a 9) 5)) (x46.toInt)) = 1) := t46
  exact x_ri hx hb hr hlk hQ (Nat.le_of_ble_eq_true rfl) (Nat.le_of_ble_eq_true rfl) hS dX10_firstFailingOf_49 G39 ⟨_, rfl, (XFr.call (XFr.call (XFr.call XFr.rf hF4 (xm1 1 rfl xm0) xm0 xm0) hF19 xm0 (xm1 0 rfl (xm1 1 rfl xm0)) xm0) hF39 (xm1 0 rfl (xm1 1 rfl xm0)) (xm1 2 rfl (xm1 3 rfl (xm1 4 rfl (xm1 5 rfl (xm1 6 rfl (xm1 7 rfl (xm1 8 rfl xm0))))))) xm0), (z_X10_firstFailingOf_3 x46.toInt ((G39.1 (F a 9) 6).toInt) (aI (G39.2.1 (F (F a 9) 5)) (x46.toInt)) t46), (v_X10_firstFailingOf_49_9 (F := F) a G39 x46 oq46 t46), (v_X10_firstFailingOf_49_10 (F := F) a p0 G G4 G19 G39 hF19 oq39 t4 ((fr_A hF19 (fun _ => xn0)).trans (fr_A hF4 (fun _ => (xna (xne_k hp0 hk9999a (by decide)) xn0)))))⟩ hT

theorem z_X10_refuseAct_1 (a0 : Int) : a0 = a0 := by omega
abbrev rm_X10_refuseAct : Room := { frames := 0, cells := 0, slots := 0, locals := 0 }
set_option maxHeartbeats 4000000 in
set_option maxRecDepth 100000 in
theorem c_X10_refuseAct (l : Launch) (E : XE) (K : Nat → Nat) (F : Nat → Nat → Nat) (G : XG) (a : Nat) (p0 : Int32) (ha : K a = 12) : Met l yX10_refuseAct (xw yX10_refuseAct cX10_refuseAct 2 (some .int)) rm_X10_refuseAct (va_Pc [.ref a, .int p0] (XP E K F G)) (XQ E (fun v (u : XG) => ∃ r : Int32, v = .int r ∧ XFr [] [F a 15] [] G u ∧ (r.toInt = p0.toInt)) (fun u H => TW E K F u H)) 0 0 (xA E) := by
  refine x_enter (by decide) (Nat.le_of_ble_eq_true rfl) ?_
  intro p e s m args below meth c Q S hr hlk hnm hQ hP ls hl
  obtain ⟨hz, hK, hT⟩ := hP
  obtain ⟨hx, hb, -, -, -⟩ := id S
  obtain ⟨H, hT, hS, hgo⟩ : ∃ H : Heap, TW E K F G H ∧ va_S (xA E) s.heap H [] ∧ H = s.heap := ⟨_, hT, va_S.rf, rfl⟩
  rw [← hgo]
  have hl : lv_has ls 2 [(0, .ref a), (1, .int p0)] := hl
  obtain ⟨hk9999, hj9999⟩ := fkX10_15 hT ha
  refine lv_aload_n hx hb dX10_refuseAct_0 rfl (lv_at hl 0 rfl) ?_
  refine gX10_18 S hK hT ha kf_X10_123 dX10_refuseAct_1 (v := (G.1 a 18)) rfl (fun hz1 => ?_)
  refine xi_zeq (tgt := 17) hx hb (rfl : Int32.toInt (G.1 a 18) = ((G.1 a 18).toInt)) dX10_refuseAct_4 (by decide) (fun c4 => ?_) (fun c4 => ?_)
  · refine lv_iload_n hx hb dX10_refuseAct_17 rfl (lv_at hl 1 rfl) ?_
    exact x_ri hx hb hr hlk hQ (Nat.le_of_ble_eq_true rfl) (Nat.le_of_ble_eq_true rfl) hS dX10_refuseAct_18 G ⟨_, rfl, XFr.rf, (z_X10_refuseAct_1 p0.toInt)⟩ hT
  · refine lv_aload_n hx hb dX10_refuseAct_7 rfl (lv_at hl 0 rfl) ?_
    refine gX10_15 S hK hT ha kf_X10_95 dX10_refuseAct_8 (fun _ _ => ?_)
    refine lv_iconst (v := 5) hx hb dX10_refuseAct_11 (by decide) ?_
    refine lv_dup2_11 hx hb dX10_refuseAct_12 rfl rfl ?_
    refine al_0 S hK hT hk9999 ar_26 (by decide) (by decide) dX10_refuseAct_13 (fun x13 hv13 o13 => ?_)
    have hv13 : x13.toInt = (aI (G.2.1 (F a 15)) 5) := hv13.trans (by rw [((by decide) : Int32.toInt 5 = (5 : Int))])
    refine lv_iconst (v := 1) hx hb dX10_refuseAct_14 (by decide) ?_
    refine xi_iadd hx hb (hv13 : Int32.toInt x13 = (aI (G.2.1 (F a 15)) 5)) ((by decide) : Int32.toInt 1 = (1 : Int)) dX10_refuseAct_15 (fun x15 t15 => ?_)
    refine as_0 (x := x15) S hK hT hS hk9999 ar_26 aw_26 (by decide) (by decide) dX10_refuseAct_16 (fun H locs hT hS => ?_)
    obtain ⟨G16, hG16⟩ : ∃ G9 : XG, G9 = cput G (F a 15) (5 : Int32).toNatClampNeg x15 := ⟨_, rfl⟩
    rw [← hG16] at hT
    refine lv_iload_n hx hb dX10_refuseAct_17 rfl (lv_at hl 1 rfl) ?_
    exact x_ri hx hb hr hlk hQ (Nat.le_of_ble_eq_true rfl) (Nat.le_of_ble_eq_true rfl) hS dX10_refuseAct_18 G16 ⟨_, rfl, (by rw [hG16]; exact XFr.cput XFr.rf (List.mem_of_getElem? (i := 0) rfl)), (z_X10_refuseAct_1 p0.toInt)⟩ hT

theorem z_X10_setOnPaper_1 (a0 : Int) (a1 : Int) (h0 : (a1 = 1 ∧ 0 ≤ a0 ∧ a0 < 3) ∨ (a1 = 0 ∧ (a0 < 0 ∨ 3 ≤ a0))) (h1 : ¬ (a1 = 0)) : 0 ≤ a0 ∧ a0 < 3 := by omega
theorem z_X10_setOnPaper_2 (a0 : Int) (a1 : Int) (h0 : (a1 = 1 ∧ (a0 = -1000 ∨ (-99 ≤ a0 ∧ a0 < 100))) ∨ (a1 = 0 ∧ a0 ≠ -1000 ∧ (a0 < -99 ∨ 100 ≤ a0))) (h1 : a1 ≠ 0) : a0 = -1000 ∨ (-99 ≤ a0 ∧ a0 ≤ 99) := by omega
abbrev rm_X10_setOnPaper : Room := { frames := 3, cells := 0, slots := 0, locals := 81 }
set_option maxHeartbeats 4000000 in
set_option maxRecDepth 100000 in
theorem c_X10_setOnPaper (l : Launch) (E : XE) (K : Nat → Nat) (F : Nat → Nat → Nat) (G : XG) (a : Nat) (p0 : Int32) (p1 : Int32) (p2 : Int32) (p3 : Int32) (ha : K a = 12) (ro1 : RO (vw (G.2.1 (F (F a 3) 0))) (aI (G.2.1 (F (F a 3) 1)))) : Met l yX10_setOnPaper (xw yX10_setOnPaper cX10_setOnPaper 5 (some .int)) rm_X10_setOnPaper (va_Pc [.ref a, .int p0, .int p1, .int p2, .int p3] (XP E K F G)) (XQ E (fun v (u : XG) => ∃ r : Int32, v = .int r ∧ XFr [] [F (F a 5) 0, F (F a 5) 1] [] G u ∧ (-4 ≤ r.toInt ∧ r.toInt ≤ 0) ∧ ((r.toInt = -1 ∧ ¬ ((0 ≤ p0.toInt ∧ p0.toInt < 3) ∧ (0 ≤ p1.toInt ∧ p1.toInt < 30) ∧ (0 ≤ p2.toInt ∧ p2.toInt < 3) ∧ (p3.toInt = -1000 ∨ (-99 ≤ p3.toInt ∧ p3.toInt ≤ 99)))) ∨ ((0 ≤ p0.toInt ∧ p0.toInt < 3) ∧ (0 ≤ p1.toInt ∧ p1.toInt < 30) ∧ (0 ≤ p2.toInt ∧ p2.toInt < 3) ∧ (p3.toInt = -1000 ∨ (-99 ≤ p3.toInt ∧ p3.toInt ≤ 99)) ∧ ((r.toInt = -2 ∧ cel (vw (G.2.1 (F (F a 3) 0))) p0.toInt p1.toInt 0 = -2000) ∨ (cel (vw (G.2.1 (F (F a 3) 0))) p0.toInt p1.toInt 0 ≠ -2000 ∧ ((r.toInt = -4 ∧ cel (vw (G.2.1 (F (F a 3) 0))) p0.toInt p1.toInt p2.toInt = p3.toInt) ∨ (r.toInt = 0 ∧ cel (vw (G.2.1 (F (F a 3) 0))) p0.toInt p1.toInt p2.toInt ≠ p3.toInt ∧ (vw (u.2.1 (F (F a 5) 0))) = rset (vw (G.2.1 (F (F a 3) 0))) (90 * p0.toInt + 30 * p2.toInt + p1.toInt) p3.toInt ∧ RO (vw (u.2.1 (F (F a 5) 0))) (aI (u.2.1 (F (F a 5) 1)))))))))) (fun u H => TW E K F u H)) 0 0 (xA E) := by
  refine x_enter (by decide) (Nat.le_of_ble_eq_true rfl) ?_
  intro p e s m args below meth c Q S hr hlk hnm hQ hP ls hl
  obtain ⟨hz, hK, hT⟩ := hP
  obtain ⟨hx, hb, -, -, -⟩ := id S
  obtain ⟨H, hT, hS, hgo⟩ : ∃ H : Heap, TW E K F G H ∧ va_S (xA E) s.heap H [] ∧ H = s.heap := ⟨_, hT, va_S.rf, rfl⟩
  rw [← hgo]
  have hl : lv_has ls 5 [(0, .ref a), (1, .int p0), (2, .int p1), (3, .int p2), (4, .int p3)] := hl
  obtain ⟨hk9999, hj9999⟩ := fkX10_5 hT ha
  obtain ⟨hk9999a, hj9999a⟩ := fkX6_0 hT hk9999
  have hj9999b : F (F (F a 5) 0) 99 = 2 := by rw [hj9999a, hj9999]
  obtain ⟨hk9999b, hj9999c⟩ := fkX6_1 hT hk9999
  have hj9999d : F (F (F a 5) 1) 99 = 2 := by rw [hj9999c, hj9999]
  obtain ⟨hk9999c, hj9999e⟩ := fkX10_3 hT ha
  obtain ⟨hk9999d, hj9999f⟩ := fkX6_0 hT hk9999c
  have hj9999g : F (F (F a 3) 0) 99 = 0 := by rw [hj9999f, hj9999e]
  obtain ⟨hk9999e, hj9999h⟩ := fkX6_1 hT hk9999c
  have hj9999i : F (F (F a 3) 1) 99 = 0 := by rw [hj9999h, hj9999e]
  refine lv_iload_n hx hb dX10_setOnPaper_0 rfl (lv_at hl 1 rfl) ?_
  refine x_clp (x_runS (As := [.int p0]) (rest := []) S (c_X10_isTable l E K F G H p0) ms_X10_isTable km_X10_179 rfl rfl ⟨Nat.le_of_ble_eq_true rfl, Nat.le_of_ble_eq_true rfl⟩ hK (fun _ => XPh.blind) (fun U hU hW => XPh.at hK hz hS hT hU hW) rfl hl.1 (Nat.le_of_ble_eq_true rfl) dX10_setOnPaper_1 ⟨Nat.le_of_ble_eq_true rfl, Nat.le_of_ble_eq_true rfl⟩) hS ?_
  rintro _ _ locs ⟨x1, rfl, b1, t1⟩ hS
  have t1 : (x1.toInt = 1 ∧ 0 ≤ p0.toInt ∧ p0.toInt < 3) ∨ (x1.toInt = 0 ∧ (p0.toInt < 0 ∨ 3 ≤ p0.toInt)) := t1
  refine xi_zeq (tgt := 29) hx hb (rfl : Int32.toInt x1 = x1.toInt) dX10_setOnPaper_4 (by decide) (fun c4 => ?_) (fun c4 => ?_)
  · refine lv_iconst (v := (-1)) hx hb dX10_setOnPaper_29 (by decide) ?_
    exact x_ri hx hb hr hlk hQ (Nat.le_of_ble_eq_true rfl) (Nat.le_of_ble_eq_true rfl) hS dX10_setOnPaper_30 G ⟨_, rfl, XFr.rf, (by rw [((by decide) : Int32.toInt (-1) = (-1 : Int))] <;> exact (by decide)), (by rw [((by decide) : Int32.toInt (-1) = (-1 : Int))] <;> exact (v_X10_setOnPaper_30_1 (K := K) (F := F) a G x1 p0 p1 p2 p3 ha hk9999 hj9999 hk9999a hj9999b hk9999b hj9999d hk9999c hj9999e hk9999d hj9999g hk9999e hj9999i t1 c4))⟩ hT
  · refine lv_iload_n hx hb dX10_setOnPaper_7 rfl (lv_at hl 2 rfl) ?_
    refine x_clp (x_runS (As := [.int p1]) (rest := []) S (c_X10_isKey l E K F G H p1) ms_X10_isKey km_X10_182 rfl rfl ⟨Nat.le_of_ble_eq_true rfl, Nat.le_of_ble_eq_true rfl⟩ hK (fun _ => XPh.blind) (fun U hU hW => XPh.at hK hz hS hT hU hW) rfl hl.1 (Nat.le_of_ble_eq_true rfl) dX10_setOnPaper_8 ⟨Nat.le_of_ble_eq_true rfl, Nat.le_of_ble_eq_true rfl⟩) hS ?_
    rintro _ _ locs ⟨x8, rfl, b8, t8⟩ hS
    have t8 : (x8.toInt = 1 ∧ 0 ≤ p1.toInt ∧ p1.toInt < 30) ∨ (x8.toInt = 0 ∧ (p1.toInt < 0 ∨ 30 ≤ p1.toInt)) := t8
    refine xi_zeq (tgt := 29) hx hb (rfl : Int32.toInt x8 = x8.toInt) dX10_setOnPaper_11 (by decide) (fun c11 => ?_) (fun c11 => ?_)
    · refine lv_iconst (v := (-1)) hx hb dX10_setOnPaper_29 (by decide) ?_
      exact x_ri hx hb hr hlk hQ (Nat.le_of_ble_eq_true rfl) (Nat.le_of_ble_eq_true rfl) hS dX10_setOnPaper_30 G ⟨_, rfl, XFr.rf, (by rw [((by decide) : Int32.toInt (-1) = (-1 : Int))] <;> exact (by decide)), (by rw [((by decide) : Int32.toInt (-1) = (-1 : Int))] <;> exact (v_X10_setOnPaper_30_2 (K := K) (F := F) a G x1 p0 x8 p1 p2 p3 ha hk9999 hj9999 hk9999a hj9999b hk9999b hj9999d hk9999c hj9999e hk9999d hj9999g hk9999e hj9999i t1 c4 t8 c11))⟩ hT
    · refine lv_iload_n hx hb dX10_setOnPaper_14 rfl (lv_at hl 3 rfl) ?_
      refine x_clp (x_runS (As := [.int p2]) (rest := []) S (c_X10_isColumn l E K F G H p2) ms_X10_isColumn km_X10_255 rfl rfl ⟨Nat.le_of_ble_eq_true rfl, Nat.le_of_ble_eq_true rfl⟩ hK (fun _ => XPh.blind) (fun U hU hW => XPh.at hK hz hS hT hU hW) rfl hl.1 (Nat.le_of_ble_eq_true rfl) dX10_setOnPaper_15 ⟨Nat.le_of_ble_eq_true rfl, Nat.le_of_ble_eq_true rfl⟩) hS ?_
      rintro _ _ locs ⟨x15, rfl, b15, t15⟩ hS
      have t15 : (x15.toInt = 1 ∧ 0 ≤ p2.toInt ∧ p2.toInt < 3) ∨ (x15.toInt = 0 ∧ (p2.toInt < 0 ∨ 3 ≤ p2.toInt)) := t15
      refine xi_zeq (tgt := 29) hx hb (rfl : Int32.toInt x15 = x15.toInt) dX10_setOnPaper_18 (by decide) (fun c18 => ?_) (fun c18 => ?_)
      · refine lv_iconst (v := (-1)) hx hb dX10_setOnPaper_29 (by decide) ?_
        exact x_ri hx hb hr hlk hQ (Nat.le_of_ble_eq_true rfl) (Nat.le_of_ble_eq_true rfl) hS dX10_setOnPaper_30 G ⟨_, rfl, XFr.rf, (by rw [((by decide) : Int32.toInt (-1) = (-1 : Int))] <;> exact (by decide)), (by rw [((by decide) : Int32.toInt (-1) = (-1 : Int))] <;> exact (v_X10_setOnPaper_30_3 (K := K) (F := F) a G x1 p0 x8 p1 x15 p2 p3 ha hk9999 hj9999 hk9999a hj9999b hk9999b hj9999d hk9999c hj9999e hk9999d hj9999g hk9999e hj9999i t1 c4 t8 c11 t15 c18))⟩ hT
      · refine lv_iload hx hb dX10_setOnPaper_21 (lv_at hl 4 rfl) ?_
        refine x_clp (x_runS (As := [.int p3]) (rest := []) S (c_X10_isValue l E K F G H p3) ms_X10_isValue km_X10_185 rfl rfl ⟨Nat.le_of_ble_eq_true rfl, Nat.le_of_ble_eq_true rfl⟩ hK (fun _ => XPh.blind) (fun U hU hW => XPh.at hK hz hS hT hU hW) rfl hl.1 (Nat.le_of_ble_eq_true rfl) dX10_setOnPaper_23 ⟨Nat.le_of_ble_eq_true rfl, Nat.le_of_ble_eq_true rfl⟩) hS ?_
        rintro _ _ locs ⟨x23, rfl, b23, t23⟩ hS
        have t23 : (x23.toInt = 1 ∧ (p3.toInt = -1000 ∨ (-99 ≤ p3.toInt ∧ p3.toInt < 100))) ∨ (x23.toInt = 0 ∧ p3.toInt ≠ -1000 ∧ (p3.toInt < -99 ∨ 100 ≤ p3.toInt)) := t23
        refine xi_zne (tgt := 31) hx hb (rfl : Int32.toInt x23 = x23.toInt) dX10_setOnPaper_26 (by decide) (fun c26 => ?_) (fun c26 => ?_)
        · refine lv_aload_n hx hb dX10_setOnPaper_31 rfl (lv_at hl 0 rfl) ?_
          refine gX10_3 S hK hT ha kf_X10_37 dX10_setOnPaper_32 (fun _ _ => ?_)
          refine lv_iload_n hx hb dX10_setOnPaper_35 rfl (lv_at hl 1 rfl) ?_
          refine lv_iload_n hx hb dX10_setOnPaper_36 rfl (lv_at hl 2 rfl) ?_
          refine x_clp (x_runV (b := (F a 3)) (As := [.int p0, .int p1]) (rest := []) S (c_X6_has l E K F G H (F a 3) p0 p1 hk9999c (v_X10_setOnPaper_37_4 (F := F) a G ro1)) mv_X6_has km_X10_191 rfl rfl ⟨Nat.le_of_ble_eq_true rfl, Nat.le_of_ble_eq_true rfl⟩ (rc_8 hK hT hk9999c) hK (fun _ => XPh.blind) (fun U hU hW => XPh.at hK hz hS hT hU hW) rfl hl.1 (Nat.le_of_ble_eq_true rfl) dX10_setOnPaper_37 ⟨Nat.le_of_ble_eq_true rfl, Nat.le_of_ble_eq_true rfl⟩) hS ?_
          rintro _ _ locs ⟨x37, rfl, b37, t37⟩ hS
          have t37 : (x37.toInt = 1 ∧ (cel (vw (G.2.1 (F (F a 3) 0))) (p0.toInt) (p1.toInt) 0) ≠ -2000) ∨ (x37.toInt = 0 ∧ (cel (vw (G.2.1 (F (F a 3) 0))) (p0.toInt) (p1.toInt) 0) = -2000) := t37
          refine xi_zne (tgt := 46) hx hb (rfl : Int32.toInt x37 = x37.toInt) dX10_setOnPaper_40 (by decide) (fun c40 => ?_) (fun c40 => ?_)
          · refine lv_aload_n hx hb dX10_setOnPaper_46 rfl (lv_at hl 0 rfl) ?_
            refine gX10_3 S hK hT ha kf_X10_37 dX10_setOnPaper_47 (fun _ _ => ?_)
            refine lv_iload_n hx hb dX10_setOnPaper_50 rfl (lv_at hl 1 rfl) ?_
            refine lv_iload_n hx hb dX10_setOnPaper_51 rfl (lv_at hl 2 rfl) ?_
            refine lv_iload_n hx hb dX10_setOnPaper_52 rfl (lv_at hl 3 rfl) ?_
            refine x_clp (x_runV (b := (F a 3)) (As := [.int p0, .int p1, .int p2]) (rest := []) S (c_X6_cell l E K F G H (F a 3) p0 p1 p2 hk9999c) mv_X6_cell km_X10_265 rfl rfl ⟨Nat.le_of_ble_eq_true rfl, Nat.le_of_ble_eq_true rfl⟩ (rc_8 hK hT hk9999c) hK (fun _ => XPh.blind) (fun U hU hW => XPh.at hK hz hS hT hU hW) rfl hl.1 (Nat.le_of_ble_eq_true rfl) dX10_setOnPaper_53 ⟨Nat.le_of_ble_eq_true rfl, Nat.le_of_ble_eq_true rfl⟩) hS ?_
            rintro _ _ locs ⟨x53, rfl, t53⟩ hS
            have t53 : x53.toInt = (cel (vw (G.2.1 (F (F a 3) 0))) (p0.toInt) (p1.toInt) (p2.toInt)) := t53
            refine lv_iload hx hb dX10_setOnPaper_56 (lv_at hl 4 rfl) ?_
            refine xi_cne (tgt := 64) hx hb (t53 : Int32.toInt x53 = (cel (vw (G.2.1 (F (F a 3) 0))) (p0.toInt) (p1.toInt) (p2.toInt))) (rfl : Int32.toInt p3 = p3.toInt) dX10_setOnPaper_58 (by decide) (fun c58 => ?_) (fun c58 => ?_)
            · refine lv_aload_n hx hb dX10_setOnPaper_64 rfl (lv_at hl 0 rfl) ?_
              refine gX10_5 S hK hT ha kf_X10_44 dX10_setOnPaper_65 (fun _ _ => ?_)
              refine lv_aload_n hx hb dX10_setOnPaper_68 rfl (lv_at hl 0 rfl) ?_
              refine gX10_3 S hK hT ha kf_X10_37 dX10_setOnPaper_69 (fun _ _ => ?_)
              refine x_cv0 (x_runV (b := (F a 5)) (As := [.ref (F a 3)]) (rest := []) S (c_X6_copy l E K F G (F a 5) (F a 3) hk9999 hk9999c (v_X10_setOnPaper_72_5 (F := F) a G ro1)) mv_X6_copy km_X10_195 rfl rfl ⟨Nat.le_of_ble_eq_true rfl, Nat.le_of_ble_eq_true rfl⟩ (rc_8 hK hT hk9999) hK (fun _ => XP.blind) (fun U hU hW => XP.at hK hz hS hT hU hW) rfl hl.1 (Nat.le_of_ble_eq_true rfl) dX10_setOnPaper_72 ⟨Nat.le_of_ble_eq_true rfl, Nat.le_of_ble_eq_true rfl⟩) hS ?_
              rintro G72 H locs ⟨hF72, oq72, oq72a⟩ hT hS
              refine lv_aload_n hx hb dX10_setOnPaper_75 rfl (lv_at hl 0 rfl) ?_
              refine gX10_5 S hK hT ha kf_X10_44 dX10_setOnPaper_76 (fun _ _ => ?_)
              refine lv_iload_n hx hb dX10_setOnPaper_79 rfl (lv_at hl 1 rfl) ?_
              refine lv_iload_n hx hb dX10_setOnPaper_80 rfl (lv_at hl 2 rfl) ?_
              refine lv_iload_n hx hb dX10_setOnPaper_81 rfl (lv_at hl 3 rfl) ?_
              refine lv_iload hx hb dX10_setOnPaper_82 (lv_at hl 4 rfl) ?_
              refine x_cv0 (x_runV (b := (F a 5)) (As := [.int p0, .int p1, .int p2, .int p3]) (rest := []) S (c_X6_change l E K F G72 (F a 5) p0 p1 p2 p3 hk9999 (z_X10_setOnPaper_1 p2.toInt x15.toInt t15 c18) (z_X10_setOnPaper_2 p3.toInt x23.toInt t23 c26) (v_X10_setOnPaper_84_6 (F := F) a G72 oq72a)) mv_X6_change km_X10_203 rfl rfl ⟨Nat.le_of_ble_eq_true rfl, Nat.le_of_ble_eq_true rfl⟩ (rc_8 hK hT hk9999) hK (fun _ => XP.blind) (fun U hU hW => XP.at hK hz hS hT hU hW) rfl hl.1 (Nat.le_of_ble_eq_true rfl) dX10_setOnPaper_84 ⟨Nat.le_of_ble_eq_true rfl, Nat.le_of_ble_eq_true rfl⟩) hS ?_
              rintro G84 H locs ⟨hF84, oq84, oq84a⟩ hT hS
              refine lv_iconst (v := 0) hx hb dX10_setOnPaper_87 (by decide) ?_
              exact x_ri hx hb hr hlk hQ (Nat.le_of_ble_eq_true rfl) (Nat.le_of_ble_eq_true rfl) hS dX10_setOnPaper_88 G84 ⟨_, rfl, (XFr.call (XFr.call XFr.rf hF72 xm0 (xm1 0 rfl (xm1 1 rfl xm0)) xm0) hF84 xm0 (xm1 0 rfl xm0) xm0), (by decide), (v_X10_setOnPaper_88_7 (K := K) (F := F) a G G72 G84 p0 p1 p2 p3 x1 x8 x15 x23 x37 ha hk9999 hj9999 hk9999a hj9999b hk9999b hj9999d hk9999c hj9999e hk9999d hj9999g hk9999e hj9999i oq72 oq84 oq84a t1 c4 t8 c11 t15 c18 t23 c26 t37 c40 c58)⟩ hT
            · refine lv_bipush (v := (-4)) hx hb dX10_setOnPaper_61 (by decide) ?_
              exact x_ri hx hb hr hlk hQ (Nat.le_of_ble_eq_true rfl) (Nat.le_of_ble_eq_true rfl) hS dX10_setOnPaper_63 G ⟨_, rfl, XFr.rf, (by rw [((by decide) : Int32.toInt (-4) = (-4 : Int))] <;> exact (by decide)), (by rw [((by decide) : Int32.toInt (-4) = (-4 : Int))] <;> exact (v_X10_setOnPaper_63_8 (K := K) (F := F) a G p0 p1 p2 x1 x8 x15 x23 p3 x37 ha hk9999 hj9999 hk9999a hj9999b hk9999b hj9999d hk9999c hj9999e hk9999d hj9999g hk9999e hj9999i t1 c4 t8 c11 t15 c18 t23 c26 t37 c40 c58))⟩ hT
          · refine lv_bipush (v := (-2)) hx hb dX10_setOnPaper_43 (by decide) ?_
            exact x_ri hx hb hr hlk hQ (Nat.le_of_ble_eq_true rfl) (Nat.le_of_ble_eq_true rfl) hS dX10_setOnPaper_45 G ⟨_, rfl, XFr.rf, (by rw [((by decide) : Int32.toInt (-2) = (-2 : Int))] <;> exact (by decide)), (by rw [((by decide) : Int32.toInt (-2) = (-2 : Int))] <;> exact (v_X10_setOnPaper_45_9 (K := K) (F := F) a G x1 p0 x8 p1 x15 p2 x23 p3 x37 ha hk9999 hj9999 hk9999a hj9999b hk9999b hj9999d hk9999c hj9999e hk9999d hj9999g hk9999e hj9999i t1 c4 t8 c11 t15 c18 t23 c26 t37 c40))⟩ hT
        · refine lv_iconst (v := (-1)) hx hb dX10_setOnPaper_29 (by decide) ?_
          exact x_ri hx hb hr hlk hQ (Nat.le_of_ble_eq_true rfl) (Nat.le_of_ble_eq_true rfl) hS dX10_setOnPaper_30 G ⟨_, rfl, XFr.rf, (by rw [((by decide) : Int32.toInt (-1) = (-1 : Int))] <;> exact (by decide)), (by rw [((by decide) : Int32.toInt (-1) = (-1 : Int))] <;> exact (v_X10_setOnPaper_30_10 (K := K) (F := F) a G x1 p0 x8 p1 x15 p2 x23 p3 ha hk9999 hj9999 hk9999a hj9999b hk9999b hj9999d hk9999c hj9999e hk9999d hj9999g hk9999e hj9999i t1 c4 t8 c11 t15 c18 t23 c26))⟩ hT

