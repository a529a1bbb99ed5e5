theorem z_X10_becomePrompt_1 (a0 : Int) (h0 : -2147483648 ≤ a0 ∧ a0 < 2147483648) : ¬ (2147483648 - a0 < ((0 : Nat) : Int)) := by omega
theorem z_X10_becomePrompt_6 (a0 : Int) (a1 : Int) (a2 : Int) (h0 : 0 ≤ a2 ∧ a2 ≤ 1080) (h1 : 0 ≤ a0 ∧ a0 ≤ a2) (h2 : a1 = (a0 + 1) ∨ (a0 + 1) < -2147483648 ∨ 2147483648 ≤ (a0 + 1)) : a1 = (a0 + 1) := by omega
theorem z_X10_becomePrompt_7 (a0 : Int) (a1 : Int) (h0 : 0 ≤ a0 ∧ a0 ≤ a1) (h1 : ¬ (a1 ≤ a0)) : 0 ≤ (a0 + 1) ∧ (a0 + 1) ≤ a1 := by omega
theorem z_X10_becomePrompt_8 (a0 : Int) (a1 : Int) (h0 : 0 ≤ a0 ∧ a0 ≤ a1) : (0 : Int) ≤ (a0 + 1) := by omega
theorem z_X10_becomePrompt_9 (a0 : Int) (a1 : Nat) (h0 : 2147483648 - a0 < ((a1 + 1 : Nat) : Int)) : 2147483648 - (a0 + 1) < ((a1 : Nat) : Int) := by omega
theorem z_X10_becomePrompt_15 (a0 : Int) (h0 : 0 ≤ a0 ∧ a0 ≤ 1080) : 0 ≤ (0 : Int) ∧ (0 : Int) ≤ a0 := by omega
abbrev rm_X10_becomePrompt : Room := { frames := 8, cells := 7, slots := 700, locals := 194 }
set_option maxHeartbeats 4000000 in
set_option maxRecDepth 100000 in
theorem c_X10_becomePrompt (l : Launch) (E : XE) (K : Nat → Nat) (F : Nat → Nat → Nat) (G : XG) (a : Nat) (p0 : Nat) (ha : K a = 12) (hp0 : K p0 = 9) (sb : 0 ≤ ((G.1 (F a 2) 2).toInt) ∧ ((G.1 (F a 2) 2).toInt) ≤ 12) (sw : 0 ≤ ((G.1 (F a 8) 6).toInt) ∧ ((G.1 (F a 8) 6).toInt) ≤ 1080) (ron : RO (vw (G.2.1 (F (F a 3) 0))) (aI (G.2.1 (F (F a 3) 1)))) (rob : RO (vw (G.2.1 (F (F a 4) 0))) (aI (G.2.1 (F (F a 4) 1)))) (bko : BKr K G (G.2.2.1 (F (F a 2) 1))) : Met l yX10_becomePrompt (xw yX10_becomePrompt cX10_becomePrompt 3 (some .int)) rm_X10_becomePrompt (va_Pc [.ref a, .ref p0] (XP E K F G)) (XQ E (fun v (u : XG) => ∃ r : Int32, v = .int r ∧ XFr [(F a 14, 1), (F a 14, 2), (F a 14, 3), (p0, 9), (F a 11, 3), (F a 8, 6)] [F a 16, F (F a 11) 0, F (F a 11) 1, F (F a 11) 2, F (F a 8) 0, F (F a 8) 1, F (F a 8) 2, F (F a 8) 3, F (F a 8) 4, F (F a 8) 5] [] G u ∧ (0 ≤ ((u.1 (F a 8) 6).toInt) ∧ ((u.1 (F a 8) 6).toInt) ≤ 1080) ∧ (((∃ x, x ∈ qL G F (F a 8) ∧ x.1 = ((G.1 p0 1).toInt) ∧ x.2.2.2.2.2 ≠ 0) ∧ r.toInt = -5 ∧ ((u.1 p0 9).toInt) = ((G.1 p0 9).toInt) ∧ qL u F (F a 8) = qL G F (F a 8)) ∨ ((∀ x, x ∈ qL G F (F a 8) → x.1 = ((G.1 p0 1).toInt) → x.2.2.2.2.2 = 0) ∧ ((u.1 p0 9).toInt) = 0 ∧ ((((G.1 a 18).toInt) = 0 ∧ qL u F (F a 8) = qL G F (F a 8) ∧ r.toInt = 0) ∨ (((G.1 a 18).toInt) ≠ 0 ∧ qL u F (F a 8) = (gaL (dput G p0 9 0) (G.2.2.1 (F (F a 2) 1)) (vw (G.2.1 (F (F a 4) 0))) (vw (G.2.1 (F (F a 3) 0))) 1 (((G.1 (F a 2) 2).toInt)).toNat) ∧ r.toInt = cnQ (qL G F (F a 8)) ((G.1 p0 1).toInt)))))) (fun u H => TW E K F u H)) 7 700 (xA E) := by
  refine x_enter (by decide) (Nat.le_of_ble_eq_true rfl) ?_
  intro p e s m args below meth c Q S hr hlk hnm hQ hP ls hl
  obtain ⟨hz, hK, hT⟩ := hP
  obtain ⟨hx, hb, -, -, -⟩ := id S
  obtain ⟨H, hT, hS, hgo⟩ : ∃ H : Heap, TW E K F G H ∧ va_S (xA E) s.heap H [] ∧ H = s.heap := ⟨_, hT, va_S.rf, rfl⟩
  rw [← hgo]
  have hl : lv_has ls 3 [(0, .ref a), (1, .ref p0)] := hl
  obtain ⟨hk9999, hj9999⟩ := fkX10_14 hT ha
  obtain ⟨hk9999a, hj9999a⟩ := fkX10_11 hT ha
  obtain ⟨hk9999b, hj9999b⟩ := fkX10_8 hT ha
  obtain ⟨hk9999c, hj9999c⟩ := fkX10_16 hT ha
  obtain ⟨hk9999d, hj9999d⟩ := fkX1_0 hT hk9999a
  obtain ⟨hk9999e, hj9999e⟩ := fkX1_1 hT hk9999a
  obtain ⟨hk9999f, hj9999f⟩ := fkX1_2 hT hk9999a
  obtain ⟨hk9999g, hj9999g⟩ := fkX4_0 hT hk9999b
  have hj9999h : F (F (F a 8) 0) 99 = 10 * 0 + 0 := by rw [hj9999g, hj9999b]
  obtain ⟨hk9999h, hj9999i⟩ := fkX4_1 hT hk9999b
  have hj9999j : F (F (F a 8) 1) 99 = 10 * 0 + 1 := by rw [hj9999i, hj9999b]
  obtain ⟨hk9999i, hj9999k⟩ := fkX4_2 hT hk9999b
  have hj9999l : F (F (F a 8) 2) 99 = 10 * 0 + 2 := by rw [hj9999k, hj9999b]
  obtain ⟨hk9999j, hj9999m⟩ := fkX4_3 hT hk9999b
  have hj9999n : F (F (F a 8) 3) 99 = 10 * 0 + 3 := by rw [hj9999m, hj9999b]
  obtain ⟨hk9999k, hj9999o⟩ := fkX4_4 hT hk9999b
  have hj9999p : F (F (F a 8) 4) 99 = 10 * 0 + 4 := by rw [hj9999o, hj9999b]
  obtain ⟨hk9999l, hj9999q⟩ := fkX4_5 hT hk9999b
  have hj9999r : F (F (F a 8) 5) 99 = 10 * 0 + 5 := by rw [hj9999q, hj9999b]
  obtain ⟨hk9999m, hj9999s⟩ := fkX10_2 hT ha
  obtain ⟨hk9999n, hj9999t⟩ := fkX0_1 hT hk9999m
  obtain ⟨hk9999o, hj9999u⟩ := fkX10_3 hT ha
  obtain ⟨hk9999p, hj9999v⟩ := fkX6_0 hT hk9999o
  have hj9999w : F (F (F a 3) 0) 99 = 0 := by rw [hj9999v, hj9999u]
  obtain ⟨hk9999q, hj9999y⟩ := fkX6_1 hT hk9999o
  have hj9999z25 : F (F (F a 3) 1) 99 = 0 := by rw [hj9999y, hj9999u]
  obtain ⟨hk9999r, hj9999z26⟩ := fkX10_4 hT ha
  obtain ⟨hk9999s, hj9999z27⟩ := fkX6_0 hT hk9999r
  have hj9999z28 : F (F (F a 4) 0) 99 = 1 := by rw [hj9999z27, hj9999z26]
  obtain ⟨hk9999t, hj9999z29⟩ := fkX6_1 hT hk9999r
  have hj9999z30 : F (F (F a 4) 1) 99 = 1 := by rw [hj9999z29, hj9999z26]
  refine lv_iconst (v := 0) hx hb dX10_becomePrompt_0 (by decide) ?_
  refine lv_istore_n (lv' := [(2, .int 0), (0, .ref a), (1, .ref p0)]) hx hb dX10_becomePrompt_1 rfl hl (by decide) rfl (fun ls hl => ?_)
  have L2 : ∀ (N2 : Nat) (l2_2 : Int32) (G_2 : XG) (H : Heap) (locs : List Loc) (ls : Array Slot), XFr [] [F a 16] [] G G_2 → (∀ j : Int, 0 ≤ j → j < l2_2.toInt → aI (G.2.1 (F (F a 8) 0)) j = ((G.1 p0 1).toInt) → aI (G.2.1 (F (F a 8) 5)) j = 0) → 0 ≤ l2_2.toInt ∧ l2_2.toInt ≤ ((G.1 (F a 8) 6).toInt) → (0 : Int) ≤ l2_2.toInt → 2147483648 - l2_2.toInt < ((N2 : Nat) : Int) → TW E K F G_2 H → va_S (xA E) s.heap H locs → lv_has ls 3 [(0, .ref a), (1, .ref p0), (2, .int l2_2)] → W p l e rm_X10_becomePrompt s m args below meth c H locs 0 0 Q (F0 m 2 ls []) := by
    intro N2
    induction N2 with
    | zero =>
      intro l2_2 G_2 H locs ls hF_2 pa I2_0 I2_1 hm2
      exact absurd hm2 (z_X10_becomePrompt_1 l2_2.toInt (xr l2_2))
    | succ N2 ih2 =>
      intro l2_2 G_2 H locs ls hF_2 pa I2_0 I2_1 hm2 hT hS hl
      refine lv_iload_n hx hb dX10_becomePrompt_2 rfl (lv_at hl 2 rfl) ?_
      refine lv_aload_n hx hb dX10_becomePrompt_3 rfl (lv_at hl 0 rfl) ?_
      refine gX10_8 S hK hT ha kf_X10_57 dX10_becomePrompt_4 (fun _ _ => ?_)
      refine x_clp (x_runV (b := (F a 8)) (As := []) (rest := [.int l2_2]) S (c_X4_size l E K F G_2 H (F a 8) hk9999b) mv_X4_size km_X10_232 rfl rfl ⟨Nat.le_of_ble_eq_true rfl, Nat.le_of_ble_eq_true rfl⟩ (rc_6 hK hT hk9999b) hK (fun _ => XPh.blind) (fun U hU hW => XPh.at hK hz hS hT hU hW) rfl hl.1 (Nat.le_of_ble_eq_true rfl) dX10_becomePrompt_7 ⟨Nat.le_of_ble_eq_true rfl, Nat.le_of_ble_eq_true rfl⟩) hS ?_
      rintro _ _ locs ⟨x7, rfl, t7⟩ hS
      have t7 : x7.toInt = ((G.1 (F a 8) 6).toInt) := by rw [(show (G_2.1 (F a 8) 6).toInt = ((G.1 (F a 8) 6).toInt) from (congrArg Int32.toInt (hF_2.1 _ _ xn0)).trans (rfl : Int32.toInt (G.1 (F a 8) 6) = ((G.1 (F a 8) 6).toInt)))] at t7; exact t7
      refine xi_cge (tgt := 70) hx hb (rfl : Int32.toInt l2_2 = l2_2.toInt) (t7 : Int32.toInt x7 = ((G.1 (F a 8) 6).toInt)) dX10_becomePrompt_10 (by decide) (fun c10 => ?_) (fun c10 => ?_)
      · refine lv_aload_n hx hb dX10_becomePrompt_70 rfl (lv_at hl 1 rfl) ?_
        refine lv_iconst (v := 0) hx hb dX10_becomePrompt_71 (by decide) ?_
        refine pX7_9 (v := 0) S hK hT hS hp0 kf_X10_170 (Or.inl rfl) dX10_becomePrompt_72 (fun H locs hT hS => ?_)
        obtain ⟨G72, hG72⟩ : ∃ GG : XG, GG = dput G_2 p0 9 0 := ⟨_, rfl⟩
        rw [← hG72] at hT
        refine lv_aload_n hx hb dX10_becomePrompt_75 rfl (lv_at hl 0 rfl) ?_
        refine gX10_18 S hK hT ha kf_X10_123 dX10_becomePrompt_76 (v := (G.1 a 18)) ((ld_j hG72 (by decide)).trans (hF_2.1 _ _ xn0)) (fun hz76 => ?_)
        refine xi_zne (tgt := 84) hx hb (rfl : Int32.toInt (G.1 a 18) = ((G.1 a 18).toInt)) dX10_becomePrompt_79 (by decide) (fun c79 => ?_) (fun c79 => ?_)
        · refine lv_aload_n hx hb dX10_becomePrompt_84 rfl (lv_at hl 0 rfl) ?_
          refine gX10_8 S hK hT ha kf_X10_57 dX10_becomePrompt_85 (fun _ _ => ?_)
          refine lv_aload_n hx hb dX10_becomePrompt_88 rfl (lv_at hl 1 rfl) ?_
          refine gX7_1 S hK hT hp0 kf_X10_130 dX10_becomePrompt_89 (v := (G.1 p0 1)) ((ld_j hG72 (by decide)).trans (hF_2.1 _ _ xn0)) (?_)
          refine x_clp (x_runV (b := (F a 8)) (As := [.int (G.1 p0 1)]) (rest := []) S (c_X4_ofRule l E K F G72 H (F a 8) (G.1 p0 1) hk9999b (by rw [(show (G72.1 (F a 8) 6).toInt = ((G.1 (F a 8) 6).toInt) from (congrArg Int32.toInt ((ld_j hG72 (by decide)).trans (hF_2.1 _ _ xn0))).trans (rfl : Int32.toInt (G.1 (F a 8) 6) = ((G.1 (F a 8) 6).toInt)))] <;> exact (sw))) mv_X4_ofRule km_X10_296 rfl rfl ⟨Nat.le_of_ble_eq_true rfl, Nat.le_of_ble_eq_true rfl⟩ (rc_6 hK hT hk9999b) hK (fun _ => XPh.blind) (fun U hU hW => XPh.at hK hz hS hT hU hW) rfl hl.1 (Nat.le_of_ble_eq_true rfl) dX10_becomePrompt_92 ⟨Nat.le_of_ble_eq_true rfl, Nat.le_of_ble_eq_true rfl⟩) hS ?_
          rintro _ _ locs ⟨x92, rfl, t92⟩ hS
          have t92 : x92.toInt = (hv (aI (G.2.1 (F (F a 8) 0))) 0 ((G.1 p0 1).toInt) ((G.1 (F a 8) 6).toInt)) := by rw [(show G72.2.1 (F (F a 8) 0) = G.2.1 (F (F a 8) 0) from ((ld_c hG72).trans (hF_2.2.1 _ (xn1 (xne_k hk9999g hk9999c (by decide)) xn0))))] at t92; rw [(show (G72.1 (F a 8) 6).toInt = ((G.1 (F a 8) 6).toInt) from (congrArg Int32.toInt ((ld_j hG72 (by decide)).trans (hF_2.1 _ _ xn0))).trans (rfl : Int32.toInt (G.1 (F a 8) 6) = ((G.1 (F a 8) 6).toInt)))] at t92; exact t92
          refine lv_istore_n (lv' := [(2, .int x92), (0, .ref a), (1, .ref p0)]) hx hb dX10_becomePrompt_95 rfl hl (by decide) rfl (fun ls hl => ?_)
          refine lv_aload_n hx hb dX10_becomePrompt_96 rfl (lv_at hl 1 rfl) ?_
          refine lv_aload_n hx hb dX10_becomePrompt_97 rfl (lv_at hl 1 rfl) ?_
          refine gX10_8 S hK hT ha kf_X10_57 dX10_becomePrompt_98 (fun _ _ => ?_)
          refine lv_aload_n hx hb dX10_becomePrompt_101 rfl (lv_at hl 1 rfl) ?_
          refine gX10_4 S hK hT ha kf_X10_41 dX10_becomePrompt_102 (fun _ _ => ?_)
          refine lv_aload_n hx hb dX10_becomePrompt_105 rfl (lv_at hl 1 rfl) ?_
          refine gX10_3 S hK hT ha kf_X10_37 dX10_becomePrompt_106 (fun _ _ => ?_)
          refine lv_iconst (v := 1) hx hb dX10_becomePrompt_109 (by decide) ?_
          refine x_cv0 (x_runV (b := a) (As := [.ref (F a 8), .ref (F a 4), .ref (F a 3), .int 1]) (rest := []) S (c_X10_gather l E K F G72 a (F a 8) (F a 4) (F a 3) 1 ha hk9999b hk9999r hk9999o (by rw [(show (G72.1 (F a 2) 2).toInt = ((G.1 (F a 2) 2).toInt) from (congrArg Int32.toInt ((ld_j hG72 (by decide)).trans (hF_2.1 _ _ xn0))).trans (rfl : Int32.toInt (G.1 (F a 2) 2) = ((G.1 (F a 2) 2).toInt)))] <;> exact (sb)) (v_X10_becomePrompt_110_1 (F := F) a G G72 ron rob ((ld_c hG72).trans (hF_2.2.1 _ (xn1 (xne_k hk9999s hk9999c (by decide)) xn0))) ((ld_c hG72).trans (hF_2.2.1 _ (xn1 (xne_k hk9999t hk9999c (by decide)) xn0)))) (v_X10_becomePrompt_110_2 (F := F) a G G72 ron rob ((ld_c hG72).trans (hF_2.2.1 _ (xn1 (xne_k hk9999p hk9999c (by decide)) xn0))) ((ld_c hG72).trans (hF_2.2.1 _ (xn1 (xne_k hk9999q hk9999c (by decide)) xn0)))) (v_X10_becomePrompt_110_3 (K := K) (F := F) a p0 G G_2 G72 hF_2 hG72 bko ((ld_r hG72).trans (hF_2.2.2 _ xn0))) (v_X10_becomePrompt_110_4 (K := K) (F := F) a p0 G G_2 G72 l2_2 x7 x92 N2 ha hp0 hk9999 hj9999 hk9999a hj9999a hk9999b hj9999b hk9999c hj9999c hk9999d hj9999d hk9999e hj9999e hk9999f hj9999f hk9999g hj9999h hk9999h hj9999j hk9999i hj9999l hk9999j hj9999n hk9999k hj9999p hk9999l hj9999r hk9999m hj9999s hk9999n hj9999t hk9999o hj9999u hk9999p hj9999w hk9999q hj9999z25 hk9999r hj9999z26 hk9999s hj9999z28 hk9999t hj9999z30 hF_2 hG72 ron rob bko pa t7 t92 sb sw I2_0 I2_1 hm2 c10 (xzi hz76) c79 ((ld_c hG72).trans (hF_2.2.1 _ (xn1 (xne_k hk9999d hk9999c (by decide)) xn0))) ((ld_c hG72).trans (hF_2.2.1 _ (xn1 (xne_k hk9999e hk9999c (by decide)) xn0))) ((ld_c hG72).trans (hF_2.2.1 _ (xn1 (xne_k hk9999f hk9999c (by decide)) xn0))) ((ld_c hG72).trans (hF_2.2.1 _ (xn1 (xne_k hk9999g hk9999c (by decide)) xn0))) ((ld_c hG72).trans (hF_2.2.1 _ (xn1 (xne_k hk9999h hk9999c (by decide)) xn0))) ((ld_c hG72).trans (hF_2.2.1 _ (xn1 (xne_k hk9999i hk9999c (by decide)) xn0))) ((ld_c hG72).trans (hF_2.2.1 _ (xn1 (xne_k hk9999j hk9999c (by decide)) xn0))) ((ld_c hG72).trans (hF_2.2.1 _ (xn1 (xne_k hk9999k hk9999c (by decide)) xn0))) ((ld_c hG72).trans (hF_2.2.1 _ (xn1 (xne_k hk9999l hk9999c (by decide)) xn0))) (ld_c hG72) ((ld_r hG72).trans (hF_2.2.2 _ xn0)) ((ld_j hG72 (by decide)).trans (hF_2.1 _ _ xn0)) ((ld_j hG72 (by decide)).trans (hF_2.1 _ _ xn0)) ((ld_j hG72 (by decide)).trans (hF_2.1 _ _ xn0)) ((ld_j hG72 (by decide)).trans (hF_2.1 _ _ xn0)) ((ld_j hG72 (by decide)).trans (hF_2.1 _ _ xn0)) (ld_at hG72)) (v_X10_becomePrompt_110_5 (K := K) (F := F) a p0 G G_2 G72 l2_2 x7 x92 N2 ha hp0 hk9999 hj9999 hk9999a hj9999a hk9999b hj9999b hk9999c hj9999c hk9999d hj9999d hk9999e hj9999e hk9999f hj9999f hk9999g hj9999h hk9999h hj9999j hk9999i hj9999l hk9999j hj9999n hk9999k hj9999p hk9999l hj9999r hk9999m hj9999s hk9999n hj9999t hk9999o hj9999u hk9999p hj9999w hk9999q hj9999z25 hk9999r hj9999z26 hk9999s hj9999z28 hk9999t hj9999z30 hF_2 hG72 ron rob bko pa t7 t92 sb sw I2_0 I2_1 hm2 c10 (xzi hz76) c79 ((ld_c hG72).trans (hF_2.2.1 _ (xn1 (xne_k hk9999d hk9999c (by decide)) xn0))) ((ld_c hG72).trans (hF_2.2.1 _ (xn1 (xne_k hk9999e hk9999c (by decide)) xn0))) ((ld_c hG72).trans (hF_2.2.1 _ (xn1 (xne_k hk9999f hk9999c (by decide)) xn0))) ((ld_c hG72).trans (hF_2.2.1 _ (xn1 (xne_k hk9999g hk9999c (by decide)) xn0))) ((ld_c hG72).trans (hF_2.2.1 _ (xn1 (xne_k hk9999h hk9999c (by decide)) xn0))) ((ld_c hG72).trans (hF_2.2.1 _ (xn1 (xne_k hk9999i hk9999c (by decide)) xn0))) ((ld_c hG72).trans (hF_2.2.1 _ (xn1 (xne_k hk9999j hk9999c (by decide)) xn0))) ((ld_c hG72).trans (hF_2.2.1 _ (xn1 (xne_k hk9999k hk9999c (by decide)) xn0))) ((ld_c hG72).trans (hF_2.2.1 _ (xn1 (xne_k hk9999l hk9999c (by decide)) xn0))) (ld_c hG72) ((ld_r hG72).trans (hF_2.2.2 _ xn0)) ((ld_j hG72 (by decide)).trans (hF_2.1 _ _ xn0)) ((ld_j hG72 (by decide)).trans (hF_2.1 _ _ xn0)) ((ld_j hG72 (by decide)).trans (hF_2.1 _ _ xn0)) ((ld_j hG72 (by decide)).trans (hF_2.1 _ _ xn0)) ((ld_j hG72 (by decide)).trans (hF_2.1 _ _ xn0)) (ld_at hG72))) mv_X10_gather km_X10_240 rfl rfl ⟨Nat.le_of_ble_eq_true rfl, Nat.le_of_ble_eq_true rfl⟩ (rc_12 hK hT ha) hK (fun _ => XP.blind) (fun U hU hW => XP.at hK hz hS hT hU hW) rfl hl.1 (Nat.le_of_ble_eq_true rfl) dX10_becomePrompt_110 ⟨Nat.le_of_ble_eq_true rfl, Nat.le_of_ble_eq_true rfl⟩) hS ?_
          rintro G110 H locs ⟨hF110, t110, oq110⟩ hT hS
          have t110 : 0 ≤ ((G110.1 (F a 8) 6).toInt) ∧ ((G110.1 (F a 8) 6).toInt) ≤ 1080 := t110
          have oq110 : qL G110 F (F a 8) = gaL G72 (G72.2.2.1 (F (F a 2) 1)) (vw (G.2.1 (F (F a 4) 0))) (vw (G.2.1 (F (F a 3) 0))) (1 : Int) (((G.1 (F a 2) 2).toInt)).toNat := by simp only [(show G72.2.1 (F (F a 4) 0) = G.2.1 (F (F a 4) 0) from ((ld_c hG72).trans (hF_2.2.1 _ (xn1 (xne_k hk9999s hk9999c (by decide)) xn0)))), (show G72.2.1 (F (F a 3) 0) = G.2.1 (F (F a 3) 0) from ((ld_c hG72).trans (hF_2.2.1 _ (xn1 (xne_k hk9999p hk9999c (by decide)) xn0)))), (show G72.1 (F a 2) 2 = G.1 (F a 2) 2 from ((ld_j hG72 (by decide)).trans (hF_2.1 _ _ xn0)))] at oq110; exact oq110
          refine lv_iload_n hx hb dX10_becomePrompt_113 rfl (lv_at hl 0 rfl) ?_
          exact x_ri hx hb hr hlk hQ (Nat.le_of_ble_eq_true rfl) (Nat.le_of_ble_eq_true rfl) hS dX10_becomePrompt_114 G110 ⟨_, rfl, (XFr.call (by rw [hG72]; exact XFr.dput (XFr.call XFr.rf hF_2 xm0 (xm1 0 rfl xm0) xm0) (List.mem_of_getElem? (i := 3) rfl)) hF110 (xm1 4 rfl (xm1 5 rfl xm0)) (xm1 1 rfl (xm1 2 rfl (xm1 3 rfl (xm1 4 rfl (xm1 5 rfl (xm1 6 rfl (xm1 7 rfl (xm1 8 rfl (xm1 9 rfl xm0))))))))) xm0), (t110), (by rw [(t92 : Int32.toInt x92 = (hv (aI (G.2.1 (F (F a 8) 0))) 0 ((G.1 p0 1).toInt) ((G.1 (F a 8) 6).toInt)))] <;> exact (v_X10_becomePrompt_114_6 (K := K) (F := F) a p0 G G_2 G72 G110 l2_2 N2 ha hp0 hk9999 hj9999 hk9999a hj9999a hk9999b hj9999b hk9999c hj9999c hk9999d hj9999d hk9999e hj9999e hk9999f hj9999f hk9999g hj9999h hk9999h hj9999j hk9999i hj9999l hk9999j hj9999n hk9999k hj9999p hk9999l hj9999r hk9999m hj9999s hk9999n hj9999t hk9999o hj9999u hk9999p hj9999w hk9999q hj9999z25 hk9999r hj9999z26 hk9999s hj9999z28 hk9999t hj9999z30 hF_2 hG72 pa oq110 sb sw I2_0 I2_1 hm2 c10 (xzi hz76) c79 t110 ((ld_r hG72).trans (hF_2.2.2 _ xn0)) ((hF110.1 _ _ (xnj (by decide) (xnj (by decide) xn0))).trans (ld_at hG72))))⟩ hT
        · refine lv_iconst (v := 0) hx hb dX10_becomePrompt_82 (by decide) ?_
          exact x_ri hx hb hr hlk hQ (Nat.le_of_ble_eq_true rfl) (Nat.le_of_ble_eq_true rfl) hS dX10_becomePrompt_83 G72 ⟨_, rfl, (by rw [hG72]; exact XFr.dput (XFr.call XFr.rf hF_2 xm0 (xm1 0 rfl xm0) xm0) (List.mem_of_getElem? (i := 3) rfl)), (by rw [(show (G72.1 (F a 8) 6).toInt = ((G.1 (F a 8) 6).toInt) from (congrArg Int32.toInt ((ld_j hG72 (by decide)).trans (hF_2.1 _ _ xn0))).trans (rfl : Int32.toInt (G.1 (F a 8) 6) = ((G.1 (F a 8) 6).toInt)))] <;> exact (sw)), (v_X10_becomePrompt_83_7 (K := K) (F := F) a p0 G G72 l2_2 N2 ha hp0 pa sb sw I2_0 I2_1 hm2 c10 (xzi hz76) c79 ((ld_c hG72).trans (hF_2.2.1 _ (xn1 (xne_k hk9999g hk9999c (by decide)) xn0))) ((ld_c hG72).trans (hF_2.2.1 _ (xn1 (xne_k hk9999h hk9999c (by decide)) xn0))) ((ld_c hG72).trans (hF_2.2.1 _ (xn1 (xne_k hk9999i hk9999c (by decide)) xn0))) ((ld_c hG72).trans (hF_2.2.1 _ (xn1 (xne_k hk9999j hk9999c (by decide)) xn0))) ((ld_c hG72).trans (hF_2.2.1 _ (xn1 (xne_k hk9999k hk9999c (by decide)) xn0))) ((ld_c hG72).trans (hF_2.2.1 _ (xn1 (xne_k hk9999l hk9999c (by decide)) xn0))) ((ld_j hG72 (by decide)).trans (hF_2.1 _ _ xn0)) (ld_at hG72))⟩ hT
      · refine lv_aload_n hx hb dX10_becomePrompt_13 rfl (lv_at hl 0 rfl) ?_
        refine gX10_8 S hK hT ha kf_X10_57 dX10_becomePrompt_14 (fun _ _ => ?_)
        refine lv_iload_n hx hb dX10_becomePrompt_17 rfl (lv_at hl 2 rfl) ?_
        refine x_clp (x_runV (b := (F a 8)) (As := [.int l2_2]) (rest := []) S (c_X4_number l E K F G_2 H (F a 8) l2_2 hk9999b) mv_X4_number km_X10_301 rfl rfl ⟨Nat.le_of_ble_eq_true rfl, Nat.le_of_ble_eq_true rfl⟩ (rc_6 hK hT hk9999b) hK (fun _ => XPh.blind) (fun U hU hW => XPh.at hK hz hS hT hU hW) rfl hl.1 (Nat.le_of_ble_eq_true rfl) dX10_becomePrompt_18 ⟨Nat.le_of_ble_eq_true rfl, Nat.le_of_ble_eq_true rfl⟩) hS ?_
        rintro _ _ locs ⟨x18, rfl, t18⟩ hS
        have t18 : ((0 ≤ l2_2.toInt ∧ l2_2.toInt < ((G.1 (F a 8) 6).toInt) ∧ l2_2.toInt < 1080) ∧ x18.toInt = (aI (G.2.1 (F (F a 8) 0)) (l2_2.toInt))) ∨ (¬ (0 ≤ l2_2.toInt ∧ l2_2.toInt < ((G.1 (F a 8) 6).toInt) ∧ l2_2.toInt < 1080) ∧ x18.toInt = -1) := by rw [(show (G_2.1 (F a 8) 6).toInt = ((G.1 (F a 8) 6).toInt) from (congrArg Int32.toInt (hF_2.1 _ _ xn0)).trans (rfl : Int32.toInt (G.1 (F a 8) 6) = ((G.1 (F a 8) 6).toInt)))] at t18; rw [(show G_2.2.1 (F (F a 8) 0) = G.2.1 (F (F a 8) 0) from (hF_2.2.1 _ (xn1 (xne_k hk9999g hk9999c (by decide)) xn0)))] at t18; exact t18
        refine lv_aload_n hx hb dX10_becomePrompt_21 rfl (lv_at hl 1 rfl) ?_
        refine gX7_1 S hK hT hp0 kf_X10_130 dX10_becomePrompt_22 (v := (G.1 p0 1)) (hF_2.1 _ _ xn0) (?_)
        refine xi_ceq (tgt := 31) hx hb (rfl : Int32.toInt x18 = x18.toInt) (rfl : Int32.toInt (G.1 p0 1) = ((G.1 p0 1).toInt)) dX10_becomePrompt_25 (by decide) (fun c25 => ?_) (fun c25 => ?_)
        · refine lv_aload_n hx hb dX10_becomePrompt_31 rfl (lv_at hl 0 rfl) ?_
          refine gX10_16 S hK hT ha kf_X10_99 dX10_becomePrompt_32 (fun _ _ => ?_)
          refine lv_iconst (v := 0) hx hb dX10_becomePrompt_35 (by decide) ?_
          refine lv_dup2_11 hx hb dX10_becomePrompt_36 rfl rfl ?_
          refine al_0 S hK hT hk9999c ar_27 (by decide) (by decide) dX10_becomePrompt_37 (fun x37 hv37 o37 => ?_)
          have hv37 : x37.toInt = (aI (G_2.2.1 (F a 16)) 0) := hv37.trans (by rw [((by decide) : Int32.toInt 0 = (0 : Int))])
          refine lv_iconst (v := 1) hx hb dX10_becomePrompt_38 (by decide) ?_
          refine xi_iadd hx hb (hv37 : Int32.toInt x37 = (aI (G_2.2.1 (F a 16)) 0)) ((by decide) : Int32.toInt 1 = (1 : Int)) dX10_becomePrompt_39 (fun x39 t39 => ?_)
          refine as_0 (x := x39) S hK hT hS hk9999c ar_27 aw_27 (by decide) (by decide) dX10_becomePrompt_40 (fun H locs hT hS => ?_)
          obtain ⟨G40, hG40⟩ : ∃ GG : XG, GG = cput G_2 (F a 16) (0 : Int32).toNatClampNeg x39 := ⟨_, rfl⟩
          rw [← hG40] at hT
          refine lv_aload_n hx hb dX10_becomePrompt_41 rfl (lv_at hl 0 rfl) ?_
          refine gX10_8 S hK hT ha kf_X10_57 dX10_becomePrompt_42 (fun _ _ => ?_)
          refine lv_iload_n hx hb dX10_becomePrompt_45 rfl (lv_at hl 2 rfl) ?_
          refine x_clp (x_runV (b := (F a 8)) (As := [.int l2_2]) (rest := []) S (c_X4_fails l E K F G40 H (F a 8) l2_2 hk9999b) mv_X4_fails km_X10_309 rfl rfl ⟨Nat.le_of_ble_eq_true rfl, Nat.le_of_ble_eq_true rfl⟩ (rc_6 hK hT hk9999b) hK (fun _ => XPh.blind) (fun U hU hW => XPh.at hK hz hS hT hU hW) rfl hl.1 (Nat.le_of_ble_eq_true rfl) dX10_becomePrompt_46 ⟨Nat.le_of_ble_eq_true rfl, Nat.le_of_ble_eq_true rfl⟩) hS ?_
          rintro _ _ locs ⟨x46, rfl, b46, t46⟩ hS
          have t46 : ((0 ≤ l2_2.toInt ∧ l2_2.toInt < ((G.1 (F a 8) 6).toInt) ∧ l2_2.toInt < 1080) ∧ x46.toInt = (aI (G.2.1 (F (F a 8) 5)) (l2_2.toInt))) ∨ (¬ (0 ≤ l2_2.toInt ∧ l2_2.toInt < ((G.1 (F a 8) 6).toInt) ∧ l2_2.toInt < 1080) ∧ x46.toInt = 0) := by rw [(show (G40.1 (F a 8) 6).toInt = ((G.1 (F a 8) 6).toInt) from (congrArg Int32.toInt ((lc_d hG40).trans (hF_2.1 _ _ xn0))).trans (rfl : Int32.toInt (G.1 (F a 8) 6) = ((G.1 (F a 8) 6).toInt)))] at t46; rw [(show G40.2.1 (F (F a 8) 5) = G.2.1 (F (F a 8) 5) from ((lc_c hG40 (xne_k hk9999l hk9999c (by decide))).trans (hF_2.2.1 _ (xn1 (xne_k hk9999l hk9999c (by decide)) xn0))))] at t46; exact t46
          refine xi_zeq (tgt := 64) hx hb (rfl : Int32.toInt x46 = x46.toInt) dX10_becomePrompt_49 (by decide) (fun c49 => ?_) (fun c49 => ?_)
          · refine xi_iinc (n := 1) (lv' := fun z9 => [(2, .int z9), (0, .ref a), (1, .ref p0)]) (k := 2) hx hb (rfl : Int32.toInt l2_2 = l2_2.toInt) (by decide) dX10_becomePrompt_64 hl rfl (by decide) (fun _ => rfl) (fun x64 ls t64 hl => ?_)
            have e64 : x64.toInt = (l2_2.toInt + 1) := (z_X10_becomePrompt_6 l2_2.toInt x64.toInt ((G.1 (F a 8) 6).toInt) sw I2_0 t64)
            have hl : lv_has ls 3 [(2, .int x64), (0, .ref a), (1, .ref p0)] := hl
            refine lv_goto (tgt := 2) hx hb dX10_becomePrompt_67 (by decide) ?_
            exact ih2 x64 G40 _ _ _ (by rw [hG40]; exact XFr.cput (XFr.call XFr.rf hF_2 xm0 (xm1 0 rfl xm0) xm0) (List.mem_of_getElem? (i := 0) rfl)) (by rw [(e64 : Int32.toInt x64 = (l2_2.toInt + 1))] <;> exact (v_X10_becomePrompt_67_8 (K := K) (F := F) a p0 G l2_2 N2 x18 x46 ha hp0 pa sb sw I2_0 I2_1 hm2 c10 t18 c25 t46 (xzi b46) c49)) (by rw [(e64 : Int32.toInt x64 = (l2_2.toInt + 1))] <;> exact (z_X10_becomePrompt_7 l2_2.toInt ((G.1 (F a 8) 6).toInt) I2_0 c10)) (by rw [(e64 : Int32.toInt x64 = (l2_2.toInt + 1))] <;> exact (z_X10_becomePrompt_8 l2_2.toInt ((G.1 (F a 8) 6).toInt) I2_0)) (by rw [(e64 : Int32.toInt x64 = (l2_2.toInt + 1))] <;> exact (z_X10_becomePrompt_9 l2_2.toInt N2 hm2)) hT hS (lv_sub hl [1, 2, 0] rfl)
          · refine lv_aload_n hx hb dX10_becomePrompt_52 rfl (lv_at hl 0 rfl) ?_
            refine lv_aload_n hx hb dX10_becomePrompt_53 rfl (lv_at hl 0 rfl) ?_
            refine gX10_8 S hK hT ha kf_X10_57 dX10_becomePrompt_54 (fun _ _ => ?_)
            refine lv_iload_n hx hb dX10_becomePrompt_57 rfl (lv_at hl 2 rfl) ?_
            refine x_cv (x_runV (b := a) (As := [.ref (F a 8), .int l2_2]) (rest := []) S (c_X10_tellVerdict l E K F G40 a (F a 8) l2_2 ha hk9999b) mv_X10_tellVerdict km_X10_247 rfl rfl ⟨Nat.le_of_ble_eq_true rfl, Nat.le_of_ble_eq_true rfl⟩ (rc_12 hK hT ha) hK (fun _ => XP.blind) (fun U hU hW => XP.at hK hz hS hT hU hW) rfl hl.1 (Nat.le_of_ble_eq_true rfl) dX10_becomePrompt_58 ⟨Nat.le_of_ble_eq_true rfl, Nat.le_of_ble_eq_true rfl⟩) hS ?_
            rintro G58 H locs hF58 hT hS
            refine lv_bipush (v := (-5)) hx hb dX10_becomePrompt_61 (by decide) ?_
            exact x_ri hx hb hr hlk hQ (Nat.le_of_ble_eq_true rfl) (Nat.le_of_ble_eq_true rfl) hS dX10_becomePrompt_63 G58 ⟨_, rfl, (XFr.call (by rw [hG40]; exact XFr.cput (XFr.call XFr.rf hF_2 xm0 (xm1 0 rfl xm0) xm0) (List.mem_of_getElem? (i := 0) rfl)) hF58 (xm1 0 rfl (xm1 1 rfl (xm1 2 rfl xm0))) xm0 xm0), (by rw [(show (G58.1 (F a 8) 6).toInt = ((G.1 (F a 8) 6).toInt) from (congrArg Int32.toInt ((hF58.1 _ _ (xnj (by decide) (xnj (by decide) (xnj (by decide) xn0)))).trans ((lc_d hG40).trans (hF_2.1 _ _ xn0)))).trans (rfl : Int32.toInt (G.1 (F a 8) 6) = ((G.1 (F a 8) 6).toInt)))] <;> exact (sw)), (by rw [((by decide) : Int32.toInt (-5) = (-5 : Int))] <;> exact (v_X10_becomePrompt_63_9 (K := K) (F := F) a p0 G G58 l2_2 N2 x18 x46 ha hp0 sb sw I2_0 I2_1 hm2 c10 t18 c25 t46 (xzi b46) c49 ((hF58.2.1 _ xn0).trans ((lc_c hG40 (xne_k hk9999g hk9999c (by decide))).trans (hF_2.2.1 _ (xn1 (xne_k hk9999g hk9999c (by decide)) xn0)))) ((hF58.2.1 _ xn0).trans ((lc_c hG40 (xne_k hk9999h hk9999c (by decide))).trans (hF_2.2.1 _ (xn1 (xne_k hk9999h hk9999c (by decide)) xn0)))) ((hF58.2.1 _ xn0).trans ((lc_c hG40 (xne_k hk9999i hk9999c (by decide))).trans (hF_2.2.1 _ (xn1 (xne_k hk9999i hk9999c (by decide)) xn0)))) ((hF58.2.1 _ xn0).trans ((lc_c hG40 (xne_k hk9999j hk9999c (by decide))).trans (hF_2.2.1 _ (xn1 (xne_k hk9999j hk9999c (by decide)) xn0)))) ((hF58.2.1 _ xn0).trans ((lc_c hG40 (xne_k hk9999k hk9999c (by decide))).trans (hF_2.2.1 _ (xn1 (xne_k hk9999k hk9999c (by decide)) xn0)))) ((hF58.2.1 _ xn0).trans ((lc_c hG40 (xne_k hk9999l hk9999c (by decide))).trans (hF_2.2.1 _ (xn1 (xne_k hk9999l hk9999c (by decide)) xn0)))) ((hF58.1 _ _ (xnj (by decide) (xnj (by decide) (xnj (by decide) xn0)))).trans ((lc_d hG40).trans (hF_2.1 _ _ xn0))) ((hF58.1 _ _ (xnj (by decide) (xnj (by decide) (xnj (by decide) xn0)))).trans ((lc_d hG40).trans (hF_2.1 _ _ xn0)))))⟩ hT
        · refine lv_goto (tgt := 64) hx hb dX10_becomePrompt_28 (by decide) ?_
          refine xi_iinc (n := 1) (lv' := fun z9 => [(2, .int z9), (0, .ref a), (1, .ref p0)]) (k := 2) hx hb (rfl : Int32.toInt l2_2 = l2_2.toInt) (by decide) dX10_becomePrompt_64 hl rfl (by decide) (fun _ => rfl) (fun x64 ls t64 hl => ?_)
          have e64 : x64.toInt = (l2_2.toInt + 1) := (z_X10_becomePrompt_6 l2_2.toInt x64.toInt ((G.1 (F a 8) 6).toInt) sw I2_0 t64)
          have hl : lv_has ls 3 [(2, .int x64), (0, .ref a), (1, .ref p0)] := hl
          refine lv_goto (tgt := 2) hx hb dX10_becomePrompt_67 (by decide) ?_
          exact ih2 x64 G_2 _ _ _ (XFr.call XFr.rf hF_2 xm0 (xm1 0 rfl xm0) xm0) (by rw [(e64 : Int32.toInt x64 = (l2_2.toInt + 1))] <;> exact (v_X10_becomePrompt_67_10 (K := K) (F := F) a p0 G l2_2 N2 x18 ha hp0 pa sb sw I2_0 I2_1 hm2 c10 t18 c25)) (by rw [(e64 : Int32.toInt x64 = (l2_2.toInt + 1))] <;> exact (z_X10_becomePrompt_7 l2_2.toInt ((G.1 (F a 8) 6).toInt) I2_0 c10)) (by rw [(e64 : Int32.toInt x64 = (l2_2.toInt + 1))] <;> exact (z_X10_becomePrompt_8 l2_2.toInt ((G.1 (F a 8) 6).toInt) I2_0)) (by rw [(e64 : Int32.toInt x64 = (l2_2.toInt + 1))] <;> exact (z_X10_becomePrompt_9 l2_2.toInt N2 hm2)) hT hS (lv_sub hl [1, 2, 0] rfl)
  exact L2 4294967297 0 G _ _ _ XFr.rf (v_X10_becomePrompt_1_11 (K := K) (F := F) a p0 G ha hp0 sb sw) (z_X10_becomePrompt_15 ((G.1 (F a 8) 6).toInt) sw) (by decide) (by decide) hT hS (lv_sub hl [1, 2, 0] rfl)

