theorem z_X10_rule_2 (a0 : Int) (h0 : -1 ≤ a0 ∧ a0 ≤ 11) (h1 : a0 ≠ (-1 : Int)) : 0 ≤ a0 ∧ a0 ≤ 11 := by omega
abbrev rm_X10_rule : Room := { frames := 7, cells := 9, slots := 810, locals := 171 }
set_option maxHeartbeats 4000000 in
set_option maxRecDepth 100000 in
theorem c_X10_rule (l : Launch) (E : XE) (K : Nat → Nat) (F : Nat → Nat → Nat) (G : XG) (a : Nat) (ha : K a = 12) (n0 : 0 ≤ ((G.1 (F (F a 1) 0) 1).toInt) ∧ ((G.1 (F (F a 1) 0) 1).toInt) ≤ 80) (n1 : 0 ≤ ((G.1 (F a 0) 1).toInt)) (ro0 : RO (vw (G.2.1 (F (F a 6) 0))) (aI (G.2.1 (F (F a 6) 1)))) (ron : RO (vw (G.2.1 (F (F a 3) 0))) (aI (G.2.1 (F (F a 3) 1)))) : Met l yX10_rule (xw yX10_rule cX10_rule 4 (some .int)) rm_X10_rule (va_Pc [.ref a] (XP E K F G)) (XQ E (fun v (u : (Nat → Nat) × XG) => ∃ r : Int32, v = .int r ∧ ∃ q : Nat, K q = 0 ∧ u.1 q = 9 ∧ KM K u.1 ∧ XFr [(F a 14, 1), (F a 14, 2), (F a 14, 3), (F a 1, 1), (F a 1, 2), (F a 1, 3), (F a 1, 4), (F a 1, 5), (q, 0), (q, 1), (q, 2), (q, 3), (q, 4), (q, 5), (q, 6), (q, 7), (q, 8), (q, 9), (F a 0, 1), (F a 11, 3), (F a 9, 6), (F a 2, 2)] [F (F a 11) 0, F (F a 11) 1, F (F a 11) 2, F (F a 9) 0, F (F a 9) 1, F (F a 9) 2, F (F a 9) 3, F (F a 9) 4, F (F a 9) 5] [F (F a 2) 0, F (F a 2) 1] G u.2 ∧ (u.2.1 (F a 0) 1).toInt = 0 ∧ ((¬ rOk (tC (G.2.1 (F (F (F a 1) 0) 0)) ((G.1 (F (F a 1) 0) 1).toInt)) ((G.1 (F (F a 1) 0) 1).toInt) ∧ r.toInt = -1000 - (rS9 (tC (G.2.1 (F (F (F a 1) 0) 0)) ((G.1 (F (F a 1) 0) 1).toInt))).2.2 ∧ (u.2.2.2.1 (F (F a 2) 0) = G.2.2.1 (F (F a 2) 0) ∧ u.2.2.2.1 (F (F a 2) 1) = G.2.2.1 (F (F a 2) 1) ∧ u.2.1 (F a 2) 2 = G.1 (F a 2) 2)) ∨ (rOk (tC (G.2.1 (F (F (F a 1) 0) 0)) ((G.1 (F (F a 1) 0) 1).toInt)) ((G.1 (F (F a 1) 0) 1).toInt) ∧ (G.1 a 18).toInt ≠ 0 ∧ r.toInt = -3 ∧ (u.2.2.2.1 (F (F a 2) 0) = G.2.2.1 (F (F a 2) 0) ∧ u.2.2.2.1 (F (F a 2) 1) = G.2.2.1 (F (F a 2) 1) ∧ u.2.1 (F a 2) 2 = G.1 (F a 2) 2)) ∨ (rOk (tC (G.2.1 (F (F (F a 1) 0) 0)) ((G.1 (F (F a 1) 0) 1).toInt)) ((G.1 (F (F a 1) 0) 1).toInt) ∧ (G.1 a 18).toInt = 0 ∧ (∀ i : Nat, i < 12 → G.2.2.1 (F (F a 2) 0) i ≠ none) ∧ r.toInt = -4 ∧ (u.2.2.2.1 (F (F a 2) 0) = G.2.2.1 (F (F a 2) 0) ∧ u.2.2.2.1 (F (F a 2) 1) = G.2.2.1 (F (F a 2) 1) ∧ u.2.1 (F a 2) 2 = G.1 (F a 2) 2)) ∨ (rOk (tC (G.2.1 (F (F (F a 1) 0) 0)) ((G.1 (F (F a 1) 0) 1).toInt)) ((G.1 (F (F a 1) 0) 1).toInt) ∧ (G.1 a 18).toInt = 0 ∧ (0 ≤ (u.2.1 q 1).toInt ∧ (u.2.1 q 1).toInt ≤ 11) ∧ G.2.2.1 (F (F a 2) 0) ((u.2.1 q 1).toInt).toNat = none ∧ (∀ i : Nat, (i : Int) < (u.2.1 q 1).toInt → G.2.2.1 (F (F a 2) 0) i ≠ none) ∧ ((u.2.1 q 0).toInt = (rS1 (tC (G.2.1 (F (F (F a 1) 0) 0)) ((G.1 (F (F a 1) 0) 1).toInt))).1 ∧ (u.2.1 q 2).toInt = (rS2 (tC (G.2.1 (F (F (F a 1) 0) 0)) ((G.1 (F (F a 1) 0) 1).toInt))).1 ∧ (u.2.1 q 3).toInt = (rS3 (tC (G.2.1 (F (F (F a 1) 0) 0)) ((G.1 (F (F a 1) 0) 1).toInt))).1 ∧ (u.2.1 q 4).toInt = (rS4 (tC (G.2.1 (F (F (F a 1) 0) 0)) ((G.1 (F (F a 1) 0) 1).toInt))).1 ∧ (u.2.1 q 5).toInt = (rS5 (tC (G.2.1 (F (F (F a 1) 0) 0)) ((G.1 (F (F a 1) 0) 1).toInt))).1 ∧ (u.2.1 q 6).toInt = (rS6 (tC (G.2.1 (F (F (F a 1) 0) 0)) ((G.1 (F (F a 1) 0) 1).toInt))).1 ∧ (u.2.1 q 7).toInt = (rS7 (tC (G.2.1 (F (F (F a 1) 0) 0)) ((G.1 (F (F a 1) 0) 1).toInt))).1 ∧ (u.2.1 q 8).toInt = (rS9 (tC (G.2.1 (F (F (F a 1) 0) 0)) ((G.1 (F (F a 1) 0) 1).toInt))).1 ∧ (u.2.1 q 9).toInt = (rS8 (tC (G.2.1 (F (F (F a 1) 0) 0)) ((G.1 (F (F a 1) 0) 1).toInt))).1) ∧ ((ffL (uqs (vw (G.2.1 (F (F a 6) 0))) (vw (G.2.1 (F (F a 3) 0))) (u.2.1 q)) ≠ -1 ∧ r.toInt = -5 ∧ (u.2.2.2.1 (F (F a 2) 0) = G.2.2.1 (F (F a 2) 0) ∧ u.2.2.2.1 (F (F a 2) 1) = G.2.2.1 (F (F a 2) 1) ∧ u.2.1 (F a 2) 2 = G.1 (F a 2) 2)) ∨ (ffL (uqs (vw (G.2.1 (F (F a 6) 0))) (vw (G.2.1 (F (F a 3) 0))) (u.2.1 q)) = -1 ∧ r.toInt = (u.2.1 q 1).toInt ∧ (∀ i : Nat, u.2.2.2.1 (F (F a 2) 0) i = if i = ((u.2.1 q 1).toInt).toNat then some q else G.2.2.1 (F (F a 2) 0) i) ∧ BO u.2 F (F a 2))))) ∧ (∀ (i p : Nat), u.2.2.2.1 (F (F a 2) 1) i = some p → (∃ j : Nat, G.2.2.1 (F (F a 2) 1) j = some p) ∨ ∃ j : Nat, u.2.2.2.1 (F (F a 2) 0) j = some p)) (fun u H => TW E u.1 F u.2 H)) 9 810 (xA E) := by
  refine x_enter (by decide) (Nat.le_of_ble_eq_true rfl) ?_
  intro p e s m args below meth c Q S hr hlk hnm hQ hP ls hl
  obtain ⟨hz, hK, hT⟩ := hP
  obtain ⟨hx, hb, -, -, -⟩ := id S
  obtain ⟨H, hT, hS, hgo⟩ : ∃ H : Heap, TW E K F G H ∧ va_S (xA E) s.heap H [] ∧ H = s.heap := ⟨_, hT, va_S.rf, rfl⟩
  rw [← hgo]
  have hl : lv_has ls 4 [(0, .ref a)] := hl
  obtain ⟨hk9999, hj9999⟩ := fkX10_14 hT ha
  obtain ⟨hk9999a, hj9999a⟩ := fkX10_1 hT ha
  obtain ⟨hk9999b, hj9999b⟩ := fkX10_0 hT ha
  obtain ⟨hk9999c, hj9999c⟩ := fkX10_11 hT ha
  obtain ⟨hk9999d, hj9999d⟩ := fkX10_9 hT ha
  obtain ⟨hk9999e, hj9999e⟩ := fkX10_2 hT ha
  obtain ⟨hk9999f, hj9999f⟩ := fkX1_0 hT hk9999c
  obtain ⟨hk9999g, hj9999g⟩ := fkX1_1 hT hk9999c
  obtain ⟨hk9999h, hj9999h⟩ := fkX1_2 hT hk9999c
  obtain ⟨hk9999i, hj9999i⟩ := fkX4_0 hT hk9999d
  have hj9999j : F (F (F a 9) 0) 99 = 10 * 1 + 0 := by rw [hj9999i, hj9999d]
  obtain ⟨hk9999j, hj9999k⟩ := fkX4_1 hT hk9999d
  have hj9999l : F (F (F a 9) 1) 99 = 10 * 1 + 1 := by rw [hj9999k, hj9999d]
  obtain ⟨hk9999k, hj9999m⟩ := fkX4_2 hT hk9999d
  have hj9999n : F (F (F a 9) 2) 99 = 10 * 1 + 2 := by rw [hj9999m, hj9999d]
  obtain ⟨hk9999l, hj9999o⟩ := fkX4_3 hT hk9999d
  have hj9999p : F (F (F a 9) 3) 99 = 10 * 1 + 3 := by rw [hj9999o, hj9999d]
  obtain ⟨hk9999m, hj9999q⟩ := fkX4_4 hT hk9999d
  have hj9999r : F (F (F a 9) 4) 99 = 10 * 1 + 4 := by rw [hj9999q, hj9999d]
  obtain ⟨hk9999n, hj9999s⟩ := fkX4_5 hT hk9999d
  have hj9999t : F (F (F a 9) 5) 99 = 10 * 1 + 5 := by rw [hj9999s, hj9999d]
  obtain ⟨hk9999o, hj9999u⟩ := fkX0_0 hT hk9999e
  obtain ⟨hk9999p, hj9999v⟩ := fkX0_1 hT hk9999e
  obtain ⟨hk9999q, hj9999w⟩ := fkX5_0 hT hk9999a
  obtain ⟨hk9999r, hj9999y⟩ := fkX8_0 hT hk9999q
  obtain ⟨hk9999s, hj9999z25⟩ := fkX10_6 hT ha
  obtain ⟨hk9999t, hj9999z26⟩ := fkX6_0 hT hk9999s
  have hj9999z27 : F (F (F a 6) 0) 99 = 3 := by rw [hj9999z26, hj9999z25]
  obtain ⟨hk9999u, hj9999z28⟩ := fkX6_1 hT hk9999s
  have hj9999z29 : F (F (F a 6) 1) 99 = 3 := by rw [hj9999z28, hj9999z25]
  obtain ⟨hk9999v, hj9999z30⟩ := fkX10_3 hT ha
  obtain ⟨hk9999w, hj9999z31⟩ := fkX6_0 hT hk9999v
  have hj9999z32 : F (F (F a 3) 0) 99 = 0 := by rw [hj9999z31, hj9999z30]
  obtain ⟨hk9999y, hj9999z33⟩ := fkX6_1 hT hk9999v
  have hj9999z34 : F (F (F a 3) 1) 99 = 0 := by rw [hj9999z33, hj9999z30]
  refine lv_aload_n hx hb dX10_rule_0 rfl (lv_at hl 0 rfl) ?_
  refine gX10_14 S hK hT ha kf_X10_91 dX10_rule_1 (fun _ _ => ?_)
  refine x_cv (x_runV (b := (F a 14)) (As := []) (rest := []) S (c_X9_clear l E K F G (F a 14) hk9999) mv_X9_clear km_X10_113 rfl rfl ⟨Nat.le_of_ble_eq_true rfl, Nat.le_of_ble_eq_true rfl⟩ (rc_11 hK hT hk9999) hK (fun _ => XP.blind) (fun U hU hW => XP.at hK hz hS hT hU hW) rfl hl.1 (Nat.le_of_ble_eq_true rfl) dX10_rule_4 ⟨Nat.le_of_ble_eq_true rfl, Nat.le_of_ble_eq_true rfl⟩) hS ?_
  rintro G4 H locs ⟨hF4, t4⟩ hT hS
  have t4 : ((G4.1 (F a 14) 1).toInt) = 0 := t4
  refine lv_aload_n hx hb dX10_rule_7 rfl (lv_at hl 0 rfl) ?_
  refine gX10_1 S hK hT ha kf_X10_23 dX10_rule_8 (fun _ _ => ?_)
  refine x_cl (x_runV (b := (F a 1)) (As := []) (rest := []) S (c_X5_read l E K F G4 (F a 1) hk9999a (by rw [(show (G4.1 (F (F a 1) 0) 1).toInt = ((G.1 (F (F a 1) 0) 1).toInt) from (congrArg Int32.toInt (hF4.1 _ _ (xna (xne_k hk9999q hk9999 (by decide)) xn0))).trans (rfl : Int32.toInt (G.1 (F (F a 1) 0) 1) = ((G.1 (F (F a 1) 0) 1).toInt)))] <;> exact (n0))) mv_X5_read km_X10_116 rfl rfl ⟨Nat.le_of_ble_eq_true rfl, Nat.le_of_ble_eq_true rfl⟩ (rc_7 hK hT hk9999a) hK (fun _ => XP.blind) (fun U hU hW => XP.at hK hz hS hT hU hW) rfl hl.1 (Nat.le_of_ble_eq_true rfl) dX10_rule_11 ⟨Nat.le_of_ble_eq_true rfl, Nat.le_of_ble_eq_true rfl⟩) hS ?_
  rintro v ⟨K, G11⟩ H locs ⟨q11, hq0, hk11, hM, hF11, oq11, hc11⟩ hT hS
  have hT : TW E K F G11 H := hT
  have hM : KM _ K := hM
  have hk11 : K q11 = 9 := hk11
  have hF11 : XFr [(F a 1, 1), (F a 1, 2), (F a 1, 3), (F a 1, 4), (F a 1, 5), (q11, 0), (q11, 1), (q11, 2), (q11, 3), (q11, 4), (q11, 5), (q11, 6), (q11, 7), (q11, 8), (q11, 9)] [] [] G4 G11 := hF11
  have oq11 : (G11.1 (F a 1) 2).toInt = (rS9 (tC (G.2.1 (F (F (F a 1) 0) 0)) ((G.1 (F (F a 1) 0) 1).toInt))).2.2 := by have h9 := oq11; simp only [(show G4.2.1 (F (F (F a 1) 0) 0) = G.2.1 (F (F (F a 1) 0) 0) from (hF4.2.1 _ xn0)), (show G4.1 (F (F a 1) 0) 1 = G.1 (F (F a 1) 0) 1 from (hF4.1 _ _ (xna (xne_k hk9999q hk9999 (by decide)) xn0)))] at h9; exact h9
  have hc11 : ((v = .null ∧ ¬ rOk (tC (G.2.1 (F (F (F a 1) 0) 0)) ((G.1 (F (F a 1) 0) 1).toInt)) ((G.1 (F (F a 1) 0) 1).toInt)) ∨ (v = .ref q11 ∧ rOk (tC (G.2.1 (F (F (F a 1) 0) 0)) ((G.1 (F (F a 1) 0) 1).toInt)) ((G.1 (F (F a 1) 0) 1).toInt) ∧ ((G11.1 q11 1).toInt = -1 ∧ (G11.1 q11 0).toInt = (rS1 (tC (G.2.1 (F (F (F a 1) 0) 0)) ((G.1 (F (F a 1) 0) 1).toInt))).1 ∧ (G11.1 q11 2).toInt = (rS2 (tC (G.2.1 (F (F (F a 1) 0) 0)) ((G.1 (F (F a 1) 0) 1).toInt))).1 ∧ (G11.1 q11 3).toInt = (rS3 (tC (G.2.1 (F (F (F a 1) 0) 0)) ((G.1 (F (F a 1) 0) 1).toInt))).1 ∧ (G11.1 q11 4).toInt = (rS4 (tC (G.2.1 (F (F (F a 1) 0) 0)) ((G.1 (F (F a 1) 0) 1).toInt))).1 ∧ (G11.1 q11 5).toInt = (rS5 (tC (G.2.1 (F (F (F a 1) 0) 0)) ((G.1 (F (F a 1) 0) 1).toInt))).1 ∧ (G11.1 q11 6).toInt = (rS6 (tC (G.2.1 (F (F (F a 1) 0) 0)) ((G.1 (F (F a 1) 0) 1).toInt))).1 ∧ (G11.1 q11 7).toInt = (rS7 (tC (G.2.1 (F (F (F a 1) 0) 0)) ((G.1 (F (F a 1) 0) 1).toInt))).1 ∧ (G11.1 q11 9).toInt = (rS8 (tC (G.2.1 (F (F (F a 1) 0) 0)) ((G.1 (F (F a 1) 0) 1).toInt))).1 ∧ (G11.1 q11 8).toInt = (rS9 (tC (G.2.1 (F (F (F a 1) 0) 0)) ((G.1 (F (F a 1) 0) 1).toInt))).1))) := by have h9 := hc11; simp only [(show G4.2.1 (F (F (F a 1) 0) 0) = G.2.1 (F (F (F a 1) 0) 0) from (hF4.2.1 _ xn0)), (show G4.1 (F (F a 1) 0) 1 = G.1 (F (F a 1) 0) 1 from (hF4.1 _ _ (xna (xne_k hk9999q hk9999 (by decide)) xn0)))] at h9; exact h9
  have ha : K a = 12 := hM _ _ ha (by decide)
  have hk9999 : K (F a 14) = 11 := hM _ _ hk9999 (by decide)
  have hk9999a : K (F a 1) = 7 := hM _ _ hk9999a (by decide)
  have hk9999b : K (F a 0) = 10 := hM _ _ hk9999b (by decide)
  have hk9999c : K (F a 11) = 3 := hM _ _ hk9999c (by decide)
  have hk9999d : K (F a 9) = 6 := hM _ _ hk9999d (by decide)
  have hk9999e : K (F a 2) = 2 := hM _ _ hk9999e (by decide)
  have hk9999f : K (F (F a 11) 0) = 21 := hM _ _ hk9999f (by decide)
  have hk9999g : K (F (F a 11) 1) = 21 := hM _ _ hk9999g (by decide)
  have hk9999h : K (F (F a 11) 2) = 24 := hM _ _ hk9999h (by decide)
  have hk9999i : K (F (F a 9) 0) = 22 := hM _ _ hk9999i (by decide)
  have hk9999j : K (F (F a 9) 1) = 22 := hM _ _ hk9999j (by decide)
  have hk9999k : K (F (F a 9) 2) = 22 := hM _ _ hk9999k (by decide)
  have hk9999l : K (F (F a 9) 3) = 22 := hM _ _ hk9999l (by decide)
  have hk9999m : K (F (F a 9) 4) = 23 := hM _ _ hk9999m (by decide)
  have hk9999n : K (F (F a 9) 5) = 23 := hM _ _ hk9999n (by decide)
  have hk9999o : K (F (F a 2) 0) = 15 := hM _ _ hk9999o (by decide)
  have hk9999p : K (F (F a 2) 1) = 15 := hM _ _ hk9999p (by decide)
  have hk9999q : K (F (F a 1) 0) = 10 := hM _ _ hk9999q (by decide)
  have hk9999r : K (F (F (F a 1) 0) 0) = 25 := hM _ _ hk9999r (by decide)
  have hk9999s : K (F a 6) = 8 := hM _ _ hk9999s (by decide)
  have hk9999t : K (F (F a 6) 0) = 20 := hM _ _ hk9999t (by decide)
  have hk9999u : K (F (F a 6) 1) = 21 := hM _ _ hk9999u (by decide)
  have hk9999v : K (F a 3) = 8 := hM _ _ hk9999v (by decide)
  have hk9999w : K (F (F a 3) 0) = 20 := hM _ _ hk9999w (by decide)
  have hk9999y : K (F (F a 3) 1) = 21 := hM _ _ hk9999y (by decide)
  rcases hc11 with ⟨rfl, hn11⟩ | ⟨rfl, hs11, hf11⟩
  · skip
    refine lv_astore_nN (lv' := [(1, .null), (0, .ref a)]) hx hb dX10_rule_14 rfl hl (by decide) rfl (fun ls hl => ?_)
    refine lv_aload_n hx hb dX10_rule_15 rfl (lv_at hl 1 rfl) ?_
    refine gX10_0 S hK hT ha kf_X10_12 dX10_rule_16 (fun _ _ => ?_)
    refine lv_iconst (v := 0) hx hb dX10_rule_19 (by decide) ?_
    refine x_cl0 (x_runV (b := (F a 0)) (As := [.int 0]) (rest := []) S (c_X8_shorten l E K F G11 (F a 0) 0 hk9999b) mv_X8_shorten km_X10_110 rfl rfl ⟨Nat.le_of_ble_eq_true rfl, Nat.le_of_ble_eq_true rfl⟩ (rc_10 hK hT hk9999b) hK (fun _ => XP.blind) (fun U hU hW => XP.at hK hz hS hT hU hW) rfl hl.1 (Nat.le_of_ble_eq_true rfl) dX10_rule_20 ⟨Nat.le_of_ble_eq_true rfl, Nat.le_of_ble_eq_true rfl⟩) hS ?_
    rintro _ G20 H locs ⟨x20, rfl, b20, hF20, t20⟩ hT hS
    have t20 : (((0 : Int) < 0 ∨ ((G.1 (F a 0) 1).toInt) < (0 : Int)) ∧ x20.toInt = 0 ∧ ((G20.1 (F a 0) 1).toInt) = ((G.1 (F a 0) 1).toInt)) ∨ ((0 ≤ (0 : Int) ∧ (0 : Int) ≤ ((G.1 (F a 0) 1).toInt)) ∧ x20.toInt = 1 ∧ ((G20.1 (F a 0) 1).toInt) = (0 : Int)) := by rw [(show (G11.1 (F a 0) 1).toInt = ((G.1 (F a 0) 1).toInt) from (congrArg Int32.toInt ((hF11.1 _ _ (xna (xne_k hk9999b hk9999a (by decide)) (xnj (by decide) (xnj (by decide) (xnj (by decide) (xnj (by decide) (xnj (by decide) (xna (xne_k hk9999b hk11 (by decide)) (xnj (by decide) (xnj (by decide) (xnj (by decide) (xnj (by decide) (xnj (by decide) (xnj (by decide) (xnj (by decide) (xnj (by decide) xn0)))))))))))))))).trans (hF4.1 _ _ (xna (xne_k hk9999b hk9999 (by decide)) xn0)))).trans (rfl : Int32.toInt (G.1 (F a 0) 1) = ((G.1 (F a 0) 1).toInt)))] at t20; exact t20
    refine lv_pop hx hb dX10_rule_23 rfl ?_
    refine lv_aload_nN hx hb dX10_rule_24 rfl (lv_at hl 0 rfl) ?_
    refine lv_ifnonnullN hx hb dX10_rule_25 ?_
    refine lv_sipush (v := (-1000)) hx hb dX10_rule_28 (by decide) ?_
    refine lv_aload_n hx hb dX10_rule_31 rfl (lv_at hl 1 rfl) ?_
    refine gX10_1 S hK hT ha kf_X10_23 dX10_rule_32 (fun _ _ => ?_)
    refine x_clp (x_runV (b := (F a 1)) (As := []) (rest := [.int (-1000)]) S (c_X5_faultPlace l E K F G20 H (F a 1) hk9999a) mv_X5_faultPlace km_X10_120 rfl rfl ⟨Nat.le_of_ble_eq_true rfl, Nat.le_of_ble_eq_true rfl⟩ (rc_7 hK hT hk9999a) hK (fun _ => XPh.blind) (fun U hU hW => XPh.at hK hz hS hT hU hW) rfl hl.1 (Nat.le_of_ble_eq_true rfl) dX10_rule_35 ⟨Nat.le_of_ble_eq_true rfl, Nat.le_of_ble_eq_true rfl⟩) hS ?_
    rintro _ _ locs ⟨x35, rfl, t35⟩ hS
    have t35 : x35.toInt = ((G11.1 (F a 1) 2).toInt) := by rw [(show (G20.1 (F a 1) 2).toInt = ((G11.1 (F a 1) 2).toInt) from (congrArg Int32.toInt (hF20.1 _ _ (xnj (by decide) xn0))).trans (rfl : Int32.toInt (G11.1 (F a 1) 2) = ((G11.1 (F a 1) 2).toInt)))] at t35; exact t35
    refine xi_isub hx hb ((by decide) : Int32.toInt (-1000) = (-1000 : Int)) (t35 : Int32.toInt x35 = ((G11.1 (F a 1) 2).toInt)) dX10_rule_38 (fun x38 t38 => ?_)
    exact x_ri hx hb hr hlk hQ (Nat.le_of_ble_eq_true rfl) (Nat.le_of_ble_eq_true rfl) hS dX10_rule_39 (K, G20) ⟨_, rfl, q11, hq0, hk11, hM, (XFr.call (XFr.call (XFr.call XFr.rf hF4 (xm1 0 rfl xm0) xm0 xm0) hF11 (xm1 3 rfl (xm1 4 rfl (xm1 5 rfl (xm1 6 rfl (xm1 7 rfl (xm1 8 rfl (xm1 9 rfl (xm1 10 rfl (xm1 11 rfl (xm1 12 rfl (xm1 13 rfl (xm1 14 rfl (xm1 15 rfl (xm1 16 rfl (xm1 17 rfl xm0))))))))))))))) xm0 xm0) hF20 (xm1 18 rfl xm0) xm0 xm0), (v_X10_rule_39_1 (F := F) G a x20 G20 n1 t20), (v_X10_rule_39_2 (F := F) G11 a G x38 G20 q11 oq11 hn11 n0 n1 t38 ((hF20.2.2 _ xn0).trans ((hF11.2.2 _ xn0).trans (hF4.2.2 _ xn0))) ((hF20.2.2 _ xn0).trans ((hF11.2.2 _ xn0).trans (hF4.2.2 _ xn0))) ((hF20.1 _ _ (xnj (by decide) xn0)).trans ((hF11.1 _ _ (xnj (by decide) (xna (xne_k hk9999e hk9999a (by decide)) (xnj (by decide) (xnj (by decide) (xnj (by decide) (xnj (by decide) (xnj (by decide) (xna (xne_k hk9999e hk11 (by decide)) (xnj (by decide) (xnj (by decide) (xnj (by decide) (xnj (by decide) (xnj (by decide) (xnj (by decide) (xnj (by decide) xn0)))))))))))))))).trans (hF4.1 _ _ (xnj (by decide) xn0))))), (v_X10_rule_39_3 (F := F) G20 a G ((hF20.2.2 _ xn0).trans ((hF11.2.2 _ xn0).trans (hF4.2.2 _ xn0))))⟩ hT
  · skip
    refine lv_astore_n (lv' := [(1, .ref q11), (0, .ref a)]) hx hb dX10_rule_14 rfl hl (by decide) rfl (fun ls hl => ?_)
    refine lv_aload_n hx hb dX10_rule_15 rfl (lv_at hl 1 rfl) ?_
    refine gX10_0 S hK hT ha kf_X10_12 dX10_rule_16 (fun _ _ => ?_)
    refine lv_iconst (v := 0) hx hb dX10_rule_19 (by decide) ?_
    refine x_cl0 (x_runV (b := (F a 0)) (As := [.int 0]) (rest := []) S (c_X8_shorten l E K F G11 (F a 0) 0 hk9999b) mv_X8_shorten km_X10_110 rfl rfl ⟨Nat.le_of_ble_eq_true rfl, Nat.le_of_ble_eq_true rfl⟩ (rc_10 hK hT hk9999b) hK (fun _ => XP.blind) (fun U hU hW => XP.at hK hz hS hT hU hW) rfl hl.1 (Nat.le_of_ble_eq_true rfl) dX10_rule_20 ⟨Nat.le_of_ble_eq_true rfl, Nat.le_of_ble_eq_true rfl⟩) hS ?_
    rintro _ G20 H locs ⟨x20, rfl, b20, hF20, t20⟩ hT hS
    have t20 : (((0 : Int) < 0 ∨ ((G.1 (F a 0) 1).toInt) < (0 : Int)) ∧ x20.toInt = 0 ∧ ((G20.1 (F a 0) 1).toInt) = ((G.1 (F a 0) 1).toInt)) ∨ ((0 ≤ (0 : Int) ∧ (0 : Int) ≤ ((G.1 (F a 0) 1).toInt)) ∧ x20.toInt = 1 ∧ ((G20.1 (F a 0) 1).toInt) = (0 : Int)) := by rw [(show (G11.1 (F a 0) 1).toInt = ((G.1 (F a 0) 1).toInt) from (congrArg Int32.toInt ((hF11.1 _ _ (xna (xne_k hk9999b hk9999a (by decide)) (xnj (by decide) (xnj (by decide) (xnj (by decide) (xnj (by decide) (xnj (by decide) (xna (xne_k hk9999b hk11 (by decide)) (xnj (by decide) (xnj (by decide) (xnj (by decide) (xnj (by decide) (xnj (by decide) (xnj (by decide) (xnj (by decide) (xnj (by decide) xn0)))))))))))))))).trans (hF4.1 _ _ (xna (xne_k hk9999b hk9999 (by decide)) xn0)))).trans (rfl : Int32.toInt (G.1 (F a 0) 1) = ((G.1 (F a 0) 1).toInt)))] at t20; exact t20
    refine lv_pop hx hb dX10_rule_23 rfl ?_
    refine lv_aload_n hx hb dX10_rule_24 rfl (lv_at hl 0 rfl) ?_
    refine lv_ifnonnull (tgt := 40) hx hb dX10_rule_25 (by decide) ?_
    refine lv_aload_n hx hb dX10_rule_40 rfl (lv_at hl 1 rfl) ?_
    refine gX10_18 S hK hT ha kf_X10_123 dX10_rule_41 (v := (G.1 a 18)) ((hF20.1 _ _ (xnj (by decide) xn0)).trans ((hF11.1 _ _ (xnj (by decide) (xnj (by decide) (xnj (by decide) (xnj (by decide) (xnj (by decide) (xnj (by decide) (xnj (by decide) (xnj (by decide) (xnj (by decide) (xnj (by decide) (xnj (by decide) (xnj (by decide) (xnj (by decide) (xnj (by decide) (xnj (by decide) xn0)))))))))))))))).trans (hF4.1 _ _ (xnj (by decide) xn0)))) (fun hz41 => ?_)
    refine xi_zeq (tgt := 50) hx hb (rfl : Int32.toInt (G.1 a 18) = ((G.1 a 18).toInt)) dX10_rule_44 (by decide) (fun c44 => ?_) (fun c44 => ?_)
    · refine lv_aload_n hx hb dX10_rule_50 rfl (lv_at hl 1 rfl) ?_
      refine gX10_2 S hK hT ha kf_X10_30 dX10_rule_51 (fun _ _ => ?_)
      refine x_clp (x_runV (b := (F a 2)) (As := []) (rest := []) S (c_X0_leastFree l E K F G20 H (F a 2) hk9999e) mv_X0_leastFree km_X10_127 rfl rfl ⟨Nat.le_of_ble_eq_true rfl, Nat.le_of_ble_eq_true rfl⟩ (rc_2 hK hT hk9999e) hK (fun _ => XPh.blind) (fun U hU hW => XPh.at hK hz hS hT hU hW) rfl hl.1 (Nat.le_of_ble_eq_true rfl) dX10_rule_54 ⟨Nat.le_of_ble_eq_true rfl, Nat.le_of_ble_eq_true rfl⟩) hS ?_
      rintro _ _ locs ⟨x54, rfl, t54, oq54⟩ hS
      have t54 : -1 ≤ x54.toInt ∧ x54.toInt ≤ 11 := t54
      refine lv_istore_n (lv' := [(2, .int x54), (1, .ref q11), (0, .ref a)]) hx hb dX10_rule_57 rfl hl (by decide) rfl (fun ls hl => ?_)
      refine lv_iload_n hx hb dX10_rule_58 rfl (lv_at hl 0 rfl) ?_
      refine lv_iconst (v := (-1)) hx hb dX10_rule_59 (by decide) ?_
      refine xi_cne (tgt := 66) hx hb (rfl : Int32.toInt x54 = x54.toInt) ((by decide) : Int32.toInt (-1) = (-1 : Int)) dX10_rule_60 (by decide) (fun c60 => ?_) (fun c60 => ?_)
      · refine lv_aload_n hx hb dX10_rule_66 rfl (lv_at hl 1 rfl) ?_
        refine lv_iload_n hx hb dX10_rule_67 rfl (lv_at hl 0 rfl) ?_
        refine pX7_1 (v := x54) S hK hT hS hk11 kf_X10_130 dX10_rule_68 (fun H locs hT hS => ?_)
        obtain ⟨G68, hG68⟩ : ∃ GG : XG, GG = dput G20 q11 1 x54 := ⟨_, rfl⟩
        rw [← hG68] at hT
        refine lv_aload_n hx hb dX10_rule_71 rfl (lv_at hl 2 rfl) ?_
        refine lv_aload_n hx hb dX10_rule_72 rfl (lv_at hl 1 rfl) ?_
        refine x_cl0 (x_runV (b := a) (As := [.ref q11]) (rest := []) S (c_X10_firstFailingOf l E K F G68 a q11 ha hk11 (v_X10_rule_73_4 (F := F) a G G68 ro0 ron ((ld_c hG68).trans ((hF20.2.1 _ xn0).trans ((hF11.2.1 _ xn0).trans (hF4.2.1 _ xn0)))) ((ld_c hG68).trans ((hF20.2.1 _ xn0).trans ((hF11.2.1 _ xn0).trans (hF4.2.1 _ xn0))))) (v_X10_rule_73_5 (F := F) a G G68 ro0 ron ((ld_c hG68).trans ((hF20.2.1 _ xn0).trans ((hF11.2.1 _ xn0).trans (hF4.2.1 _ xn0)))) ((ld_c hG68).trans ((hF20.2.1 _ xn0).trans ((hF11.2.1 _ xn0).trans (hF4.2.1 _ xn0))))) (v_X10_rule_73_6 (F := F) G11 q11 G a G68 hf11 ((ld_j hG68 (by decide)).trans (hF20.1 _ _ (xnj (by decide) xn0))) ((ld_j hG68 (by decide)).trans (hF20.1 _ _ (xnj (by decide) xn0))) ((ld_j hG68 (by decide)).trans (hF20.1 _ _ (xnj (by decide) xn0))) ((ld_j hG68 (by decide)).trans (hF20.1 _ _ (xnj (by decide) xn0))))) mv_X10_firstFailingOf km_X10_136 rfl rfl ⟨Nat.le_of_ble_eq_true rfl, Nat.le_of_ble_eq_true rfl⟩ (rc_12 hK hT ha) hK (fun _ => XP.blind) (fun U hU hW => XP.at hK hz hS hT hU hW) rfl hl.1 (Nat.le_of_ble_eq_true rfl) dX10_rule_73 ⟨Nat.le_of_ble_eq_true rfl, Nat.le_of_ble_eq_true rfl⟩) hS ?_
        rintro _ G73 H locs ⟨x73, rfl, hF73, t73, oq73, oq73a⟩ hT hS
        have t73 : -1 ≤ x73.toInt := t73
        have oq73a : qL G73 F (F a 9) = uqs (vw (G.2.1 (F (F a 6) 0))) (vw (G.2.1 (F (F a 3) 0))) (G68.1 q11) := by simp only [(show G68.2.1 (F (F a 6) 0) = G.2.1 (F (F a 6) 0) from ((ld_c hG68).trans ((hF20.2.1 _ xn0).trans ((hF11.2.1 _ xn0).trans (hF4.2.1 _ xn0))))), (show G68.2.1 (F (F a 3) 0) = G.2.1 (F (F a 3) 0) from ((ld_c hG68).trans ((hF20.2.1 _ xn0).trans ((hF11.2.1 _ xn0).trans (hF4.2.1 _ xn0)))))] at oq73a; exact oq73a
        refine lv_istore_n (lv' := [(3, .int x73), (2, .int x54), (1, .ref q11), (0, .ref a)]) hx hb dX10_rule_76 rfl hl (by decide) rfl (fun ls hl => ?_)
        refine lv_iload_n hx hb dX10_rule_77 rfl (lv_at hl 0 rfl) ?_
        refine lv_iconst (v := (-1)) hx hb dX10_rule_78 (by decide) ?_
        refine xi_ceq (tgt := 108) hx hb (rfl : Int32.toInt x73 = x73.toInt) ((by decide) : Int32.toInt (-1) = (-1 : Int)) dX10_rule_79 (by decide) (fun c79 => ?_) (fun c79 => ?_)
        · refine lv_aload_n hx hb dX10_rule_108 rfl (lv_at hl 3 rfl) ?_
          refine gX10_2 S hK hT ha kf_X10_30 dX10_rule_109 (fun _ _ => ?_)
          refine lv_aload_n hx hb dX10_rule_112 rfl (lv_at hl 2 rfl) ?_
          refine x_cv0 (x_runV (b := (F a 2)) (As := [.ref q11]) (rest := []) S (c_X0_enter l E K F G73 (F a 2) q11 hk9999e hk11 (by rw [(show (G73.1 q11 1).toInt = x54.toInt from (congrArg Int32.toInt ((hF73.1 _ _ (xnj (by decide) (xnj (by decide) xn0))).trans (ld_at hG68))).trans (rfl : Int32.toInt x54 = x54.toInt))] <;> exact (z_X10_rule_2 x54.toInt t54 c60))) mv_X0_enter km_X10_155 rfl rfl ⟨Nat.le_of_ble_eq_true rfl, Nat.le_of_ble_eq_true rfl⟩ (rc_2 hK hT hk9999e) hK (fun _ => XP.blind) (fun U hU hW => XP.at hK hz hS hT hU hW) rfl hl.1 (Nat.le_of_ble_eq_true rfl) dX10_rule_113 ⟨Nat.le_of_ble_eq_true rfl, Nat.le_of_ble_eq_true rfl⟩) hS ?_
          rintro G113 H locs ⟨hF113, oq113, oq113a, oq113b⟩ hT hS
          refine lv_iload_n hx hb dX10_rule_116 rfl (lv_at hl 1 rfl) ?_
          exact x_ri hx hb hr hlk hQ (Nat.le_of_ble_eq_true rfl) (Nat.le_of_ble_eq_true rfl) hS dX10_rule_117 (K, G113) ⟨_, rfl, q11, hq0, hk11, hM, (XFr.call (XFr.call (by rw [hG68]; exact XFr.dput (XFr.call (XFr.call (XFr.call XFr.rf hF4 (xm1 0 rfl xm0) xm0 xm0) hF11 (xm1 3 rfl (xm1 4 rfl (xm1 5 rfl (xm1 6 rfl (xm1 7 rfl (xm1 8 rfl (xm1 9 rfl (xm1 10 rfl (xm1 11 rfl (xm1 12 rfl (xm1 13 rfl (xm1 14 rfl (xm1 15 rfl (xm1 16 rfl (xm1 17 rfl xm0))))))))))))))) xm0 xm0) hF20 (xm1 18 rfl xm0) xm0 xm0) (List.mem_of_getElem? (i := 9) rfl)) hF73 (xm1 19 rfl (xm1 20 rfl xm0)) (xm1 0 rfl (xm1 1 rfl (xm1 2 rfl (xm1 3 rfl (xm1 4 rfl (xm1 5 rfl (xm1 6 rfl (xm1 7 rfl (xm1 8 rfl xm0))))))))) xm0) hF113 (xm1 21 rfl xm0) xm0 (xm1 0 rfl (xm1 1 rfl xm0))), (v_X10_rule_117_7 (F := F) G a x20 G20 G113 n1 t20 ((hF113.1 _ _ (xnj (by decide) xn0)).trans ((hF73.1 _ _ (xnj (by decide) (xnj (by decide) xn0))).trans (ld_a hG68 (xne_k hk9999b hk11 (by decide)))))), (v_X10_rule_117_8 (F := F) G a G11 q11 x54 G20 x73 G73 G68 G113 hs11 hf11 oq54 oq73 oq73a oq113 oq113a c44 t54 c60 t73 c79 ((hF20.2.2 _ xn0).trans ((hF11.2.2 _ xn0).trans (hF4.2.2 _ xn0))) ((hF73.2.2 _ xn0).trans ((ld_r hG68).trans ((hF20.2.2 _ xn0).trans ((hF11.2.2 _ xn0).trans (hF4.2.2 _ xn0))))) ((fr_A hF113 (fun _ => (xna (xne_k hk11 hk9999e (by decide)) xn0))).trans (fr_A hF73 (fun _ => (xna (xne_k hk11 hk9999c (by decide)) (xna (xne_k hk11 hk9999d (by decide)) xn0))))) (fr_A hF73 (fun _ => (xna (xne_k hk11 hk9999c (by decide)) (xna (xne_k hk11 hk9999d (by decide)) xn0)))) ((ld_j hG68 (by decide)).trans (hF20.1 _ _ (xnj (by decide) xn0))) (ld_at hG68) ((ld_j hG68 (by decide)).trans (hF20.1 _ _ (xnj (by decide) xn0))) ((ld_j hG68 (by decide)).trans (hF20.1 _ _ (xnj (by decide) xn0))) ((ld_j hG68 (by decide)).trans (hF20.1 _ _ (xnj (by decide) xn0))) ((ld_j hG68 (by decide)).trans (hF20.1 _ _ (xnj (by decide) xn0))) ((ld_j hG68 (by decide)).trans (hF20.1 _ _ (xnj (by decide) xn0))) ((ld_j hG68 (by decide)).trans (hF20.1 _ _ (xnj (by decide) xn0))) ((ld_j hG68 (by decide)).trans (hF20.1 _ _ (xnj (by decide) xn0))) ((ld_j hG68 (by decide)).trans (hF20.1 _ _ (xnj (by decide) xn0)))), (v_X10_rule_117_9 (F := F) G113 a G73 G oq113b ((hF73.2.2 _ xn0).trans ((ld_r hG68).trans ((hF20.2.2 _ xn0).trans ((hF11.2.2 _ xn0).trans (hF4.2.2 _ xn0))))))⟩ hT
        · refine lv_aload_n hx hb dX10_rule_82 rfl (lv_at hl 3 rfl) ?_
          refine gX10_14 S hK hT ha kf_X10_91 dX10_rule_83 (fun _ _ => ?_)
          refine lv_iload_n hx hb dX10_rule_86 rfl (lv_at hl 1 rfl) ?_
          refine lv_aload_n hx hb dX10_rule_87 rfl (lv_at hl 2 rfl) ?_
          refine gX7_0 S hK hT hk11 kf_X10_140 dX10_rule_88 (v := (G11.1 q11 0)) ((hF73.1 _ _ (xnj (by decide) (xnj (by decide) xn0))).trans ((ld_j hG68 (by decide)).trans (hF20.1 _ _ (xnj (by decide) xn0)))) (?_)
          refine x_clp (x_runS (As := [.int (G11.1 q11 0)]) (rest := [.int x54, .ref (F a 14)]) S (c_X10_wordOf l E K F G73 H (G11.1 q11 0)) ms_X10_wordOf km_X10_143 rfl rfl ⟨Nat.le_of_ble_eq_true rfl, Nat.le_of_ble_eq_true rfl⟩ hK (fun _ => XPh.blind) (fun U hU hW => XPh.at hK hz hS hT hU hW) rfl hl.1 (Nat.le_of_ble_eq_true rfl) dX10_rule_91 ⟨Nat.le_of_ble_eq_true rfl, Nat.le_of_ble_eq_true rfl⟩) hS ?_
          rintro _ _ locs ⟨q91, hi91, rfl, hw91⟩ hS
          refine lv_aload_n hx hb dX10_rule_94 rfl (lv_at hl 3 rfl) ?_
          refine gX10_9 S hK hT ha kf_X10_61 dX10_rule_95 (fun _ _ => ?_)
          refine lv_iload_n hx hb dX10_rule_98 rfl (lv_at hl 0 rfl) ?_
          refine x_clp (x_runV (b := (F a 9)) (As := [.int x73]) (rest := [.ref (E.2.2.2.2.1 q91), .int x54, .ref (F a 14)]) S (c_X4_subject l E K F G73 H (F a 9) x73 hk9999d) mv_X4_subject km_X10_147 rfl rfl ⟨Nat.le_of_ble_eq_true rfl, Nat.le_of_ble_eq_true rfl⟩ (rc_6 hK hT hk9999d) hK (fun _ => XPh.blind) (fun U hU hW => XPh.at hK hz hS hT hU hW) rfl hl.1 (Nat.le_of_ble_eq_true rfl) dX10_rule_99 ⟨Nat.le_of_ble_eq_true rfl, Nat.le_of_ble_eq_true rfl⟩) hS ?_
          rintro _ _ locs ⟨x99, rfl, t99⟩ hS
          have t99 : ((0 ≤ x73.toInt ∧ x73.toInt < ((G73.1 (F a 9) 6).toInt) ∧ x73.toInt < 1080) ∧ x99.toInt = (aI (G73.2.1 (F (F a 9) 1)) (x73.toInt))) ∨ (¬ (0 ≤ x73.toInt ∧ x73.toInt < ((G73.1 (F a 9) 6).toInt) ∧ x73.toInt < 1080) ∧ x99.toInt = -1) := t99
          refine x_cv (x_runV (b := (F a 14)) (As := [.int x54, .ref (E.2.2.2.2.1 q91), .int x99]) (rest := []) S (c_X9_tell l E K F G73 (F a 14) x54 q91 x99 hk9999 (Nat.lt_of_lt_of_le hi91 (by decide)) (xlen6 hi91)) mv_X9_tell km_X10_151 rfl rfl ⟨Nat.le_of_ble_eq_true rfl, Nat.le_of_ble_eq_true rfl⟩ (rc_11 hK hT hk9999) hK (fun _ => XP.blind) (fun U hU hW => XP.at hK hz hS hT hU hW) rfl hl.1 (Nat.le_of_ble_eq_true rfl) dX10_rule_102 ⟨Nat.le_of_ble_eq_true rfl, Nat.le_of_ble_eq_true rfl⟩) hS ?_
          rintro G102 H locs ⟨hF102, t102⟩ hT hS
          have t102 : ((G102.1 (F a 14) 1).toInt) = 1 ∧ ((G102.1 (F a 14) 2).toInt) = x54.toInt ∧ ((G102.1 (F a 14) 3).toInt) = x99.toInt := t102
          refine lv_bipush (v := (-5)) hx hb dX10_rule_105 (by decide) ?_
          exact x_ri hx hb hr hlk hQ (Nat.le_of_ble_eq_true rfl) (Nat.le_of_ble_eq_true rfl) hS dX10_rule_107 (K, G102) ⟨_, rfl, q11, hq0, hk11, hM, (XFr.call (XFr.call (by rw [hG68]; exact XFr.dput (XFr.call (XFr.call (XFr.call XFr.rf hF4 (xm1 0 rfl xm0) xm0 xm0) hF11 (xm1 3 rfl (xm1 4 rfl (xm1 5 rfl (xm1 6 rfl (xm1 7 rfl (xm1 8 rfl (xm1 9 rfl (xm1 10 rfl (xm1 11 rfl (xm1 12 rfl (xm1 13 rfl (xm1 14 rfl (xm1 15 rfl (xm1 16 rfl (xm1 17 rfl xm0))))))))))))))) xm0 xm0) hF20 (xm1 18 rfl xm0) xm0 xm0) (List.mem_of_getElem? (i := 9) rfl)) hF73 (xm1 19 rfl (xm1 20 rfl xm0)) (xm1 0 rfl (xm1 1 rfl (xm1 2 rfl (xm1 3 rfl (xm1 4 rfl (xm1 5 rfl (xm1 6 rfl (xm1 7 rfl (xm1 8 rfl xm0))))))))) xm0) hF102 (xm1 0 rfl (xm1 1 rfl (xm1 2 rfl xm0))) xm0 xm0), (v_X10_rule_107_10 (F := F) G a x20 G20 G102 n1 t20 ((hF102.1 _ _ (xna (xne_k hk9999b hk9999 (by decide)) (xnj (by decide) (xnj (by decide) xn0)))).trans ((hF73.1 _ _ (xnj (by decide) (xnj (by decide) xn0))).trans (ld_a hG68 (xne_k hk9999b hk11 (by decide)))))), (by rw [((by decide) : Int32.toInt (-5) = (-5 : Int))] <;> exact (v_X10_rule_107_11 (F := F) G a G11 q11 x54 G20 x73 G73 G68 G102 hs11 hf11 oq54 oq73 oq73a c44 t54 c60 t73 c79 ((hF102.2.2 _ xn0).trans ((hF73.2.2 _ xn0).trans ((ld_r hG68).trans ((hF20.2.2 _ xn0).trans ((hF11.2.2 _ xn0).trans (hF4.2.2 _ xn0)))))) ((hF102.2.2 _ xn0).trans ((hF73.2.2 _ xn0).trans ((ld_r hG68).trans ((hF20.2.2 _ xn0).trans ((hF11.2.2 _ xn0).trans (hF4.2.2 _ xn0)))))) ((hF20.2.2 _ xn0).trans ((hF11.2.2 _ xn0).trans (hF4.2.2 _ xn0))) ((fr_A hF102 (fun _ => (xna (xne_k hk11 hk9999 (by decide)) (xna (xne_k hk11 hk9999 (by decide)) (xna (xne_k hk11 hk9999 (by decide)) xn0))))).trans (fr_A hF73 (fun _ => (xna (xne_k hk11 hk9999c (by decide)) (xna (xne_k hk11 hk9999d (by decide)) xn0))))) ((hF102.1 _ _ (xnj (by decide) (xna (xne_k hk9999e hk9999 (by decide)) (xnj (by decide) xn0)))).trans ((hF73.1 _ _ (xnj (by decide) (xnj (by decide) xn0))).trans ((ld_j hG68 (by decide)).trans ((hF20.1 _ _ (xnj (by decide) xn0)).trans ((hF11.1 _ _ (xnj (by decide) (xna (xne_k hk9999e hk9999a (by decide)) (xnj (by decide) (xnj (by decide) (xnj (by decide) (xnj (by decide) (xnj (by decide) (xna (xne_k hk9999e hk11 (by decide)) (xnj (by decide) (xnj (by decide) (xnj (by decide) (xnj (by decide) (xnj (by decide) (xnj (by decide) (xnj (by decide) xn0)))))))))))))))).trans (hF4.1 _ _ (xnj (by decide) xn0))))))) ((ld_j hG68 (by decide)).trans (hF20.1 _ _ (xnj (by decide) xn0))) (ld_at hG68) ((ld_j hG68 (by decide)).trans (hF20.1 _ _ (xnj (by decide) xn0))) ((ld_j hG68 (by decide)).trans (hF20.1 _ _ (xnj (by decide) xn0))) ((ld_j hG68 (by decide)).trans (hF20.1 _ _ (xnj (by decide) xn0))) ((ld_j hG68 (by decide)).trans (hF20.1 _ _ (xnj (by decide) xn0))) ((ld_j hG68 (by decide)).trans (hF20.1 _ _ (xnj (by decide) xn0))) ((ld_j hG68 (by decide)).trans (hF20.1 _ _ (xnj (by decide) xn0))) ((ld_j hG68 (by decide)).trans (hF20.1 _ _ (xnj (by decide) xn0))) ((ld_j hG68 (by decide)).trans (hF20.1 _ _ (xnj (by decide) xn0))))), (v_X10_rule_107_12 (F := F) G102 a G ((hF102.2.2 _ xn0).trans ((hF73.2.2 _ xn0).trans ((ld_r hG68).trans ((hF20.2.2 _ xn0).trans ((hF11.2.2 _ xn0).trans (hF4.2.2 _ xn0)))))))⟩ hT
      · refine lv_bipush (v := (-4)) hx hb dX10_rule_63 (by decide) ?_
        exact x_ri hx hb hr hlk hQ (Nat.le_of_ble_eq_true rfl) (Nat.le_of_ble_eq_true rfl) hS dX10_rule_65 (K, G20) ⟨_, rfl, q11, hq0, hk11, hM, (XFr.call (XFr.call (XFr.call XFr.rf hF4 (xm1 0 rfl xm0) xm0 xm0) hF11 (xm1 3 rfl (xm1 4 rfl (xm1 5 rfl (xm1 6 rfl (xm1 7 rfl (xm1 8 rfl (xm1 9 rfl (xm1 10 rfl (xm1 11 rfl (xm1 12 rfl (xm1 13 rfl (xm1 14 rfl (xm1 15 rfl (xm1 16 rfl (xm1 17 rfl xm0))))))))))))))) xm0 xm0) hF20 (xm1 18 rfl xm0) xm0 xm0), (v_X10_rule_65_13 (F := F) G a x20 G20 n1 t20), (by rw [((by decide) : Int32.toInt (-4) = (-4 : Int))] <;> exact (v_X10_rule_65_14 (F := F) G a x54 G20 q11 hs11 oq54 c44 t54 c60 ((hF20.2.2 _ xn0).trans ((hF11.2.2 _ xn0).trans (hF4.2.2 _ xn0))) ((hF20.2.2 _ xn0).trans ((hF11.2.2 _ xn0).trans (hF4.2.2 _ xn0))) ((hF20.1 _ _ (xnj (by decide) xn0)).trans ((hF11.1 _ _ (xnj (by decide) (xna (xne_k hk9999e hk9999a (by decide)) (xnj (by decide) (xnj (by decide) (xnj (by decide) (xnj (by decide) (xnj (by decide) (xna (xne_k hk9999e hk11 (by decide)) (xnj (by decide) (xnj (by decide) (xnj (by decide) (xnj (by decide) (xnj (by decide) (xnj (by decide) (xnj (by decide) xn0)))))))))))))))).trans (hF4.1 _ _ (xnj (by decide) xn0)))))), (v_X10_rule_65_15 (F := F) G20 a G ((hF20.2.2 _ xn0).trans ((hF11.2.2 _ xn0).trans (hF4.2.2 _ xn0))))⟩ hT
    · refine lv_bipush (v := (-3)) hx hb dX10_rule_47 (by decide) ?_
      exact x_ri hx hb hr hlk hQ (Nat.le_of_ble_eq_true rfl) (Nat.le_of_ble_eq_true rfl) hS dX10_rule_49 (K, G20) ⟨_, rfl, q11, hq0, hk11, hM, (XFr.call (XFr.call (XFr.call XFr.rf hF4 (xm1 0 rfl xm0) xm0 xm0) hF11 (xm1 3 rfl (xm1 4 rfl (xm1 5 rfl (xm1 6 rfl (xm1 7 rfl (xm1 8 rfl (xm1 9 rfl (xm1 10 rfl (xm1 11 rfl (xm1 12 rfl (xm1 13 rfl (xm1 14 rfl (xm1 15 rfl (xm1 16 rfl (xm1 17 rfl xm0))))))))))))))) xm0 xm0) hF20 (xm1 18 rfl xm0) xm0 xm0), (v_X10_rule_49_16 (F := F) G a x20 G20 n1 t20), (by rw [((by decide) : Int32.toInt (-3) = (-3 : Int))] <;> exact (v_X10_rule_49_17 (F := F) G a G20 q11 hs11 c44 ((hF20.2.2 _ xn0).trans ((hF11.2.2 _ xn0).trans (hF4.2.2 _ xn0))) ((hF20.2.2 _ xn0).trans ((hF11.2.2 _ xn0).trans (hF4.2.2 _ xn0))) ((hF20.1 _ _ (xnj (by decide) xn0)).trans ((hF11.1 _ _ (xnj (by decide) (xna (xne_k hk9999e hk9999a (by decide)) (xnj (by decide) (xnj (by decide) (xnj (by decide) (xnj (by decide) (xnj (by decide) (xna (xne_k hk9999e hk11 (by decide)) (xnj (by decide) (xnj (by decide) (xnj (by decide) (xnj (by decide) (xnj (by decide) (xnj (by decide) (xnj (by decide) xn0)))))))))))))))).trans (hF4.1 _ _ (xnj (by decide) xn0)))))), (v_X10_rule_49_18 (F := F) G20 a G ((hF20.2.2 _ xn0).trans ((hF11.2.2 _ xn0).trans (hF4.2.2 _ xn0))))⟩ hT

