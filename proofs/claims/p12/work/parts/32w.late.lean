theorem z_X10_becomeLate_3 (a0 : Int) (h0 : 0 ≤ a0 ∧ a0 ≤ 1080) : (1 : Int) = 1 ∧ 0 ≤ a0 ∧ a0 ≤ 1080 := by omega
abbrev rm_X10_becomeLate : Room := { frames := 6, cells := 0, slots := 0, locals := 149 }
set_option maxHeartbeats 4000000 in
set_option maxRecDepth 100000 in
theorem c_X10_becomeLate (l : Launch) (E : XE) (K : Nat → Nat) (F : Nat → Nat → Nat) (G : XG) (a : Nat) (p0 : Nat) (ha : K a = 12) (hp0 : K p0 = 9) (sb : 0 ≤ ((G.1 (F a 2) 2).toInt) ∧ ((G.1 (F a 2) 2).toInt) ≤ 12) (sw : 0 ≤ ((G.1 (F a 8) 6).toInt) ∧ ((G.1 (F a 8) 6).toInt) ≤ 1080) (ron : RO (vw (G.2.1 (F (F a 3) 0))) (aI (G.2.1 (F (F a 3) 1)))) (rob : RO (vw (G.2.1 (F (F a 4) 0))) (aI (G.2.1 (F (F a 4) 1)))) (bko : BKr K G (G.2.2.1 (F (F a 2) 1))) : Met l yX10_becomeLate (xw yX10_becomeLate cX10_becomeLate 3 (some .int)) rm_X10_becomeLate (va_Pc [.ref a, .ref p0] (XP E K F G)) (XQ E (fun v (u : XG) => ∃ r : Int32, v = .int r ∧ XFr [(p0, 9), (F a 11, 3), (F a 8, 6)] [F a 15, F (F a 11) 0, F (F a 11) 1, F (F a 11) 2, F (F a 8) 0, F (F a 8) 1, F (F a 8) 2, F (F a 8) 3, F (F a 8) 4, F (F a 8) 5] [] G u ∧ (((u.1 p0 9).toInt) = 1 ∧ 0 ≤ ((u.1 (F a 8) 6).toInt) ∧ ((u.1 (F a 8) 6).toInt) ≤ 1080) ∧ ((((G.1 a 18).toInt) = 0 ∧ qL u F (F a 8) = qL G F (F a 8) ∧ r.toInt = 0) ∨ (((G.1 a 18).toInt) ≠ 0 ∧ qL u F (F a 8) = (gaL (dput G p0 9 1) (G.2.2.1 (F (F a 2) 1)) (vw (G.2.1 (F (F a 4) 0))) (vw (G.2.1 (F (F a 3) 0))) 1 (((G.1 (F a 2) 2).toInt)).toNat) ∧ r.toInt = cnQ (qL u F (F a 8)) ((G.1 p0 1).toInt)))) (fun u H => TW E K F u H)) 0 0 (xA E) := by
  refine x_enter (by decide) (Nat.le_of_ble_eq_true rfl) ?_
  intro p e s m args below meth c Q S hr hlk hnm hQ hP ls hl
  obtain ⟨hz, hK, hT⟩ := hP
  obtain ⟨hx, hb, -, -, -⟩ := id S
  obtain ⟨H, hT, hS, hgo⟩ : ∃ H : Heap, TW E K F G H ∧ va_S (xA E) s.heap H [] ∧ H = s.heap := ⟨_, hT, va_S.rf, rfl⟩
  rw [← hgo]
  have hl : lv_has ls 3 [(0, .ref a), (1, .ref p0)] := hl
  obtain ⟨hk9999, hj9999⟩ := fkX10_11 hT ha
  obtain ⟨hk9999a, hj9999a⟩ := fkX10_8 hT ha
  obtain ⟨hk9999b, hj9999b⟩ := fkX10_15 hT ha
  obtain ⟨hk9999c, hj9999c⟩ := fkX1_0 hT hk9999
  obtain ⟨hk9999d, hj9999d⟩ := fkX1_1 hT hk9999
  obtain ⟨hk9999e, hj9999e⟩ := fkX1_2 hT hk9999
  obtain ⟨hk9999f, hj9999f⟩ := fkX4_0 hT hk9999a
  have hj9999g : F (F (F a 8) 0) 99 = 10 * 0 + 0 := by rw [hj9999f, hj9999a]
  obtain ⟨hk9999g, hj9999h⟩ := fkX4_1 hT hk9999a
  have hj9999i : F (F (F a 8) 1) 99 = 10 * 0 + 1 := by rw [hj9999h, hj9999a]
  obtain ⟨hk9999h, hj9999j⟩ := fkX4_2 hT hk9999a
  have hj9999k : F (F (F a 8) 2) 99 = 10 * 0 + 2 := by rw [hj9999j, hj9999a]
  obtain ⟨hk9999i, hj9999l⟩ := fkX4_3 hT hk9999a
  have hj9999m : F (F (F a 8) 3) 99 = 10 * 0 + 3 := by rw [hj9999l, hj9999a]
  obtain ⟨hk9999j, hj9999n⟩ := fkX4_4 hT hk9999a
  have hj9999o : F (F (F a 8) 4) 99 = 10 * 0 + 4 := by rw [hj9999n, hj9999a]
  obtain ⟨hk9999k, hj9999p⟩ := fkX4_5 hT hk9999a
  have hj9999q : F (F (F a 8) 5) 99 = 10 * 0 + 5 := by rw [hj9999p, hj9999a]
  obtain ⟨hk9999l, hj9999r⟩ := fkX10_2 hT ha
  obtain ⟨hk9999m, hj9999s⟩ := fkX0_1 hT hk9999l
  obtain ⟨hk9999n, hj9999t⟩ := fkX10_3 hT ha
  obtain ⟨hk9999o, hj9999u⟩ := fkX6_0 hT hk9999n
  have hj9999v : F (F (F a 3) 0) 99 = 0 := by rw [hj9999u, hj9999t]
  obtain ⟨hk9999p, hj9999w⟩ := fkX6_1 hT hk9999n
  have hj9999y : F (F (F a 3) 1) 99 = 0 := by rw [hj9999w, hj9999t]
  obtain ⟨hk9999q, hj9999z25⟩ := fkX10_4 hT ha
  obtain ⟨hk9999r, hj9999z26⟩ := fkX6_0 hT hk9999q
  have hj9999z27 : F (F (F a 4) 0) 99 = 1 := by rw [hj9999z26, hj9999z25]
  obtain ⟨hk9999s, hj9999z28⟩ := fkX6_1 hT hk9999q
  have hj9999z29 : F (F (F a 4) 1) 99 = 1 := by rw [hj9999z28, hj9999z25]
  refine lv_aload_n hx hb dX10_becomeLate_0 rfl (lv_at hl 1 rfl) ?_
  refine lv_iconst (v := 1) hx hb dX10_becomeLate_1 (by decide) ?_
  refine pX7_9 (v := 1) S hK hT hS hp0 kf_X10_170 (Or.inr rfl) dX10_becomeLate_2 (fun H locs hT hS => ?_)
  obtain ⟨G2, hG2⟩ : ∃ GG : XG, GG = dput G p0 9 1 := ⟨_, rfl⟩
  rw [← hG2] at hT
  refine lv_aload_n hx hb dX10_becomeLate_5 rfl (lv_at hl 0 rfl) ?_
  refine gX10_18 S hK hT ha kf_X10_123 dX10_becomeLate_6 (v := (G.1 a 18)) (ld_j hG2 (by decide)) (fun hz6 => ?_)
  refine xi_zne (tgt := 14) hx hb (rfl : Int32.toInt (G.1 a 18) = ((G.1 a 18).toInt)) dX10_becomeLate_9 (by decide) (fun c9 => ?_) (fun c9 => ?_)
  · refine lv_aload_n hx hb dX10_becomeLate_14 rfl (lv_at hl 0 rfl) ?_
    refine lv_aload_n hx hb dX10_becomeLate_15 rfl (lv_at hl 0 rfl) ?_
    refine gX10_8 S hK hT ha kf_X10_57 dX10_becomeLate_16 (fun _ _ => ?_)
    refine lv_aload_n hx hb dX10_becomeLate_19 rfl (lv_at hl 0 rfl) ?_
    refine gX10_4 S hK hT ha kf_X10_41 dX10_becomeLate_20 (fun _ _ => ?_)
    refine lv_aload_n hx hb dX10_becomeLate_23 rfl (lv_at hl 0 rfl) ?_
    refine gX10_3 S hK hT ha kf_X10_37 dX10_becomeLate_24 (fun _ _ => ?_)
    refine lv_iconst (v := 1) hx hb dX10_becomeLate_27 (by decide) ?_
    refine x_cv0 (x_runV (b := a) (As := [.ref (F a 8), .ref (F a 4), .ref (F a 3), .int 1]) (rest := []) S (c_X10_gather l E K F G2 a (F a 8) (F a 4) (F a 3) 1 ha hk9999a hk9999q hk9999n (by rw [(show (G2.1 (F a 2) 2).toInt = ((G.1 (F a 2) 2).toInt) from (congrArg Int32.toInt (ld_j hG2 (by decide))).trans (rfl : Int32.toInt (G.1 (F a 2) 2) = ((G.1 (F a 2) 2).toInt)))] <;> exact (sb)) (v_X10_becomeLate_28_1 (F := F) a G2 G ron rob (ld_c hG2) (ld_c hG2)) (v_X10_becomeLate_28_2 (F := F) a G2 G ron rob (ld_c hG2) (ld_c hG2)) (v_X10_becomeLate_28_3 (K := K) (F := F) a p0 G2 G ha hp0 hk9999 hj9999 hk9999a hj9999a hk9999b hj9999b hk9999c hj9999c hk9999d hj9999d hk9999e hj9999e hk9999f hj9999g hk9999g hj9999i hk9999h hj9999k hk9999i hj9999m hk9999j hj9999o hk9999k hj9999q hk9999l hj9999r hk9999m hj9999s hk9999n hj9999t hk9999o hj9999v hk9999p hj9999y hk9999q hj9999z25 hk9999r hj9999z27 hk9999s hj9999z29 hG2 ron rob bko sb sw (xzi hz6) c9 (ld_c hG2) (ld_c hG2) (ld_c hG2) (ld_c hG2) (ld_c hG2) (ld_c hG2) (ld_c hG2) (ld_c hG2) (ld_c hG2) (ld_c hG2) (ld_r hG2) (ld_j hG2 (by decide)) (ld_j hG2 (by decide)) (ld_at hG2)) (v_X10_becomeLate_28_4 (K := K) (F := F) a p0 G2 G ha hp0 hk9999 hj9999 hk9999a hj9999a hk9999b hj9999b hk9999c hj9999c hk9999d hj9999d hk9999e hj9999e hk9999f hj9999g hk9999g hj9999i hk9999h hj9999k hk9999i hj9999m hk9999j hj9999o hk9999k hj9999q hk9999l hj9999r hk9999m hj9999s hk9999n hj9999t hk9999o hj9999v hk9999p hj9999y hk9999q hj9999z25 hk9999r hj9999z27 hk9999s hj9999z29 hG2 ron rob bko sb sw (xzi hz6) c9 (ld_c hG2) (ld_c hG2) (ld_c hG2) (ld_c hG2) (ld_c hG2) (ld_c hG2) (ld_c hG2) (ld_c hG2) (ld_c hG2) (ld_c hG2) (ld_j hG2 (by decide)) (ld_j hG2 (by decide)) (ld_at hG2)) (v_X10_becomeLate_28_5 (K := K) (F := F) a p0 G2 G ha hp0 hk9999 hj9999 hk9999a hj9999a hk9999b hj9999b hk9999c hj9999c hk9999d hj9999d hk9999e hj9999e hk9999f hj9999g hk9999g hj9999i hk9999h hj9999k hk9999i hj9999m hk9999j hj9999o hk9999k hj9999q hk9999l hj9999r hk9999m hj9999s hk9999n hj9999t hk9999o hj9999v hk9999p hj9999y hk9999q hj9999z25 hk9999r hj9999z27 hk9999s hj9999z29 hG2 ron rob bko sb sw (xzi hz6) c9 (ld_c hG2) (ld_c hG2) (ld_c hG2) (ld_c hG2) (ld_c hG2) (ld_c hG2) (ld_c hG2) (ld_c hG2) (ld_c hG2) (ld_c hG2) (ld_j hG2 (by decide)) (ld_j hG2 (by decide)) (ld_at hG2))) mv_X10_gather km_X10_240 rfl rfl ⟨Nat.le_of_ble_eq_true rfl, Nat.le_of_ble_eq_true rfl⟩ (rc_12 hK hT ha) hK (fun _ => XP.blind) (fun U hU hW => XP.at hK hz hS hT hU hW) rfl hl.1 (Nat.le_of_ble_eq_true rfl) dX10_becomeLate_28 ⟨Nat.le_of_ble_eq_true rfl, Nat.le_of_ble_eq_true rfl⟩) hS ?_
    rintro G28 H locs ⟨hF28, t28, oq28⟩ hT hS
    have t28 : 0 ≤ ((G28.1 (F a 8) 6).toInt) ∧ ((G28.1 (F a 8) 6).toInt) ≤ 1080 := t28
    have oq28 : qL G28 F (F a 8) = gaL G2 (G2.2.2.1 (F (F a 2) 1)) (vw (G.2.1 (F (F a 4) 0))) (vw (G.2.1 (F (F a 3) 0))) (1 : Int) (((G.1 (F a 2) 2).toInt)).toNat := by simp only [(show G2.2.1 (F (F a 4) 0) = G.2.1 (F (F a 4) 0) from (ld_c hG2)), (show G2.2.1 (F (F a 3) 0) = G.2.1 (F (F a 3) 0) from (ld_c hG2)), (show G2.1 (F a 2) 2 = G.1 (F a 2) 2 from (ld_j hG2 (by decide)))] at oq28; exact oq28
    refine lv_aload_n hx hb dX10_becomeLate_31 rfl (lv_at hl 0 rfl) ?_
    refine gX10_8 S hK hT ha kf_X10_57 dX10_becomeLate_32 (fun _ _ => ?_)
    refine lv_aload_n hx hb dX10_becomeLate_35 rfl (lv_at hl 1 rfl) ?_
    refine gX7_1 S hK hT hp0 kf_X10_130 dX10_becomeLate_36 (v := (G.1 p0 1)) ((hF28.1 _ _ (xnj (by decide) (xnj (by decide) xn0))).trans (ld_j hG2 (by decide))) (?_)
    refine x_clp (x_runV (b := (F a 8)) (As := [.int (G.1 p0 1)]) (rest := []) S (c_X4_ofRule l E K F G28 H (F a 8) (G.1 p0 1) hk9999a (t28)) mv_X4_ofRule km_X10_296 rfl rfl ⟨Nat.le_of_ble_eq_true rfl, Nat.le_of_ble_eq_true rfl⟩ (rc_6 hK hT hk9999a) hK (fun _ => XPh.blind) (fun U hU hW => XPh.at hK hz hS hT hU hW) rfl hl.1 (Nat.le_of_ble_eq_true rfl) dX10_becomeLate_39 ⟨Nat.le_of_ble_eq_true rfl, Nat.le_of_ble_eq_true rfl⟩) hS ?_
    rintro _ _ locs ⟨x39, rfl, t39⟩ hS
    have t39 : x39.toInt = (hv (aI (G28.2.1 (F (F a 8) 0))) 0 ((G.1 p0 1).toInt) ((G28.1 (F a 8) 6).toInt)) := t39
    refine lv_istore_n (lv' := [(2, .int x39), (0, .ref a), (1, .ref p0)]) hx hb dX10_becomeLate_42 rfl hl (by decide) rfl (fun ls hl => ?_)
    refine lv_aload_n hx hb dX10_becomeLate_43 rfl (lv_at hl 1 rfl) ?_
    refine gX10_15 S hK hT ha kf_X10_95 dX10_becomeLate_44 (fun _ _ => ?_)
    refine lv_iconst (v := 0) hx hb dX10_becomeLate_47 (by decide) ?_
    refine lv_dup2_11 hx hb dX10_becomeLate_48 rfl rfl ?_
    refine al_0 S hK hT hk9999b ar_26 (by decide) (by decide) dX10_becomeLate_49 (fun x49 hv49 o49 => ?_)
    have hv49 : x49.toInt = (aI (G.2.1 (F a 15)) 0) := hv49.trans (by rw [((by decide) : Int32.toInt 0 = (0 : Int)), (((hF28.2.1 _ (xn1 (xne_k hk9999b hk9999c (by decide)) (xn1 (xne_k hk9999b hk9999d (by decide)) (xn1 (xne_k hk9999b hk9999e (by decide)) (xn1 (xne_k hk9999b hk9999f (by decide)) (xn1 (xne_k hk9999b hk9999g (by decide)) (xn1 (xne_k hk9999b hk9999h (by decide)) (xn1 (xne_k hk9999b hk9999i (by decide)) (xn1 (xne_k hk9999b hk9999j (by decide)) (xn1 (xne_k hk9999b hk9999k (by decide)) xn0)))))))))).trans (ld_c hG2)) : G28.2.1 (F a 15) = G.2.1 (F a 15))])
    refine lv_iload_n hx hb dX10_becomeLate_50 rfl (lv_at hl 0 rfl) ?_
    refine xi_iadd hx hb (hv49 : Int32.toInt x49 = (aI (G.2.1 (F a 15)) 0)) (t39 : Int32.toInt x39 = (hv (aI (G28.2.1 (F (F a 8) 0))) 0 ((G.1 p0 1).toInt) ((G28.1 (F a 8) 6).toInt))) dX10_becomeLate_51 (fun x51 t51 => ?_)
    refine as_0 (x := x51) S hK hT hS hk9999b ar_26 aw_26 (by decide) (by decide) dX10_becomeLate_52 (fun H locs hT hS => ?_)
    obtain ⟨G52, hG52⟩ : ∃ GG : XG, GG = cput G28 (F a 15) (0 : Int32).toNatClampNeg x51 := ⟨_, rfl⟩
    rw [← hG52] at hT
    refine lv_iload_n hx hb dX10_becomeLate_53 rfl (lv_at hl 0 rfl) ?_
    exact x_ri hx hb hr hlk hQ (Nat.le_of_ble_eq_true rfl) (Nat.le_of_ble_eq_true rfl) hS dX10_becomeLate_54 G52 ⟨_, rfl, (by rw [hG52]; exact XFr.cput (XFr.call (by rw [hG2]; exact XFr.dput XFr.rf (List.mem_of_getElem? (i := 0) rfl)) hF28 (xm1 1 rfl (xm1 2 rfl xm0)) (xm1 1 rfl (xm1 2 rfl (xm1 3 rfl (xm1 4 rfl (xm1 5 rfl (xm1 6 rfl (xm1 7 rfl (xm1 8 rfl (xm1 9 rfl xm0))))))))) xm0) (List.mem_of_getElem? (i := 0) rfl)), (by rw [(show (G52.1 p0 9).toInt = (1 : Int) from (congrArg Int32.toInt ((lc_d hG52).trans ((hF28.1 _ _ (xnj (by decide) (xnj (by decide) xn0))).trans (ld_at hG2)))).trans ((by decide) : Int32.toInt 1 = (1 : Int))), (show (G52.1 (F a 8) 6).toInt = ((G28.1 (F a 8) 6).toInt) from (congrArg Int32.toInt (lc_d hG52)).trans (rfl : Int32.toInt (G28.1 (F a 8) 6) = ((G28.1 (F a 8) 6).toInt)))] <;> exact (z_X10_becomeLate_3 ((G28.1 (F a 8) 6).toInt) t28)), (by rw [(t39 : Int32.toInt x39 = (hv (aI (G28.2.1 (F (F a 8) 0))) 0 ((G.1 p0 1).toInt) ((G28.1 (F a 8) 6).toInt)))] <;> exact (v_X10_becomeLate_54_6 (K := K) (F := F) a p0 G2 G G28 G52 ha hp0 hG2 oq28 sb sw (xzi hz6) c9 t28 (lc_c hG52 (xne_k hk9999f hk9999b (by decide))) (lc_c hG52 (xne_k hk9999g hk9999b (by decide))) (lc_c hG52 (xne_k hk9999h hk9999b (by decide))) (lc_c hG52 (xne_k hk9999i hk9999b (by decide))) (lc_c hG52 (xne_k hk9999j hk9999b (by decide))) (lc_c hG52 (xne_k hk9999k hk9999b (by decide))) (ld_r hG2) (lc_d hG52)))⟩ hT
  · refine lv_iconst (v := 0) hx hb dX10_becomeLate_12 (by decide) ?_
    exact x_ri hx hb hr hlk hQ (Nat.le_of_ble_eq_true rfl) (Nat.le_of_ble_eq_true rfl) hS dX10_becomeLate_13 G2 ⟨_, rfl, (by rw [hG2]; exact XFr.dput XFr.rf (List.mem_of_getElem? (i := 0) rfl)), (by rw [(show (G2.1 p0 9).toInt = (1 : Int) from (congrArg Int32.toInt (ld_at hG2)).trans ((by decide) : Int32.toInt 1 = (1 : Int))), (show (G2.1 (F a 8) 6).toInt = ((G.1 (F a 8) 6).toInt) from (congrArg Int32.toInt (ld_j hG2 (by decide))).trans (rfl : Int32.toInt (G.1 (F a 8) 6) = ((G.1 (F a 8) 6).toInt)))] <;> exact (z_X10_becomeLate_3 ((G.1 (F a 8) 6).toInt) sw)), (v_X10_becomeLate_13_7 (K := K) (F := F) a p0 G2 G ha hp0 sb sw (xzi hz6) c9 (ld_c hG2) (ld_c hG2) (ld_c hG2) (ld_c hG2) (ld_c hG2) (ld_c hG2) (ld_j hG2 (by decide)))⟩ hT

