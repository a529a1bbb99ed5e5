def CLz (K : Nat → Nat) (F : Nat → Nat → Nat) (G : XG) (a : Nat) : Prop := K a = 12 ∧ (G.1 a = fun _ => 0) ∧ OBz 10 0 K F G (F a 0) ∧ RDz K F (F a 1) (F a 0) ∧ BKz K F G (F a 2) ∧ RWz 0 K F G (F a 3) ∧ RWz 1 K F G (F a 4) ∧ RWz 3 K F G (F a 6) ∧ (K (F a 7) = 16 ∧ ∀ i : Nat, i < 8 → ∃ q : Nat, G.2.2.1 (F a 7) i = some q ∧ RWz (4 + i) K F G q) ∧ OBz 6 0 K F G (F a 8)
theorem CLz.gr {K K1 : Nat → Nat} {F F1 : Nat → Nat → Nat} {G G1 : XG} {a : Nat} (g : GR K F G K1 F1 G1) (h : CLz K F G a) : CLz K1 F1 G1 a := by
  obtain ⟨a1, a2, a3, a4, a5, a6, a7, a8, ⟨b1, b2⟩, a9⟩ := h
  obtain ⟨f, d, -, -⟩ := g.at a1 (by decide)
  unfold CLz
  rw [f]
  refine ⟨g.k a1 (by decide), d.trans a2, a3.gr g (by decide), a4.gr g, a5.gr g, a6.gr g, a7.gr g, a8.gr g, ⟨g.k b1 (by decide), fun i hi => ?_⟩, a9.gr g (by decide)⟩
  obtain ⟨q, c1, c2⟩ := b2 i hi
  exact ⟨q, by rw [(g.at b1 (by decide)).2.2.2]; exact c1, c2.gr g⟩
abbrev rm_X10_init : Room := { frames := 4, cells := 82, slots := 23570, locals := 73 }
set_option maxHeartbeats 4000000 in
set_option maxRecDepth 100000 in
theorem c_X10_init (l : Launch) (E : XE) (K : Nat → Nat) (F : Nat → Nat → Nat) (G : XG) (L : va_W) (a : Nat) (hN9 : N11 K) : Met l yX10_init (xw yX10_init cX10_init 2 none) rm_X10_init (va_Pc [.ref a] (XPx E K F G ((a, .inr (11, [.null, .null, .null, .null, .null, .null, .null, .null, .null, .null, .null, .null, .null, .null, .null, .null, .null, .int 0, .int 0])) :: L))) (XQv E (fun (u : Nat × Nat × (Nat → Nat) × (Nat → Nat → Nat) × XG) => GR K F G u.2.2.1 u.2.2.2.1 u.2.2.2.2 ∧ CLz u.2.2.1 u.2.2.2.1 u.2.2.2.2 a) (fun u H => TX (E.1, E.2.1, E.2.2.1, u.1, E.2.2.2.2) u.2.2.1 u.2.2.2.1 u.2.2.2.2 ((u.1, .inr (0, [.ref u.2.1, .int 0, .int 0, .int 0])) :: (u.2.1, .inl (E.2.1 2, 16, .inl (fun _ => 0))) :: L) H)) 82 23570 (xA E) := by
  refine x_enter (by decide) (Nat.le_of_ble_eq_true rfl) ?_
  intro p e s m args below meth c Q S hr hlk hnm hQ hP ls hl
  obtain ⟨hz, hK, hT⟩ := hP
  obtain ⟨hx, hb, -, -, -⟩ := id S
  obtain ⟨H, hT, hS, hgo⟩ : ∃ H : Heap, TX E K F G ((a, .inr (11, [.null, .null, .null, .null, .null, .null, .null, .null, .null, .null, .null, .null, .null, .null, .null, .null, .null, .int 0, .int 0])) :: L) H ∧ va_S (xA E) s.heap H [] ∧ H = s.heap := ⟨_, hT, va_S.rf, rfl⟩
  rw [← hgo]
  have hl : lv_has ls 2 [(0, .ref a)] := hl
  obtain ⟨hK, hA⟩ := hK
  obtain ⟨K0, eK⟩ : ∃ K0 : Nat → Nat, K0 = K := ⟨_, rfl⟩
  obtain ⟨F9, eF⟩ : ∃ F9 : Nat → Nat → Nat, F9 = F := ⟨_, rfl⟩
  obtain ⟨G0, eG⟩ : ∃ G0 : XG, G0 = G := ⟨_, rfl⟩
  have hgr : GR K0 F9 G0 K F G := by rw [eK, eF, eG]; exact GR.rf
  have hN : N11 K0 → N11 K := by rw [eK]; exact id
  refine lv_aload_n hx hb dX10_init_0 rfl (lv_at hl 0 rfl) ?_
  refine W.objInit hx hb S.2.2.2.1 (S.2.2.2.2 _ (List.mem_cons_of_mem _ km_X10_3)) (S.2.2.2.2 _ (List.mem_cons_of_mem _ koi.1)) (S.2.2.2.2 _ (List.mem_cons_of_mem _ koi.2)) rfl (by rw [S.2.2.1]; exact hl.1) rfl dX10_init_1 (Nat.le_of_ble_eq_true rfl) (Nat.le_of_ble_eq_true rfl) ?_
  refine W.eq (g2 := F0 m 4 ls []) rfl ?_
  refine lv_aload_n hx hb dX10_init_4 rfl (lv_at hl 0 rfl) ?_
  refine tx_new (ci := 9) (fs := [.null, .int 0]) S hK hz hT hS inX8 tyX8 tyX8_ok kn_X10_9 kin_X8.1 kin_X8.2 rfl (by intro j hj; match j, hj with | 0, _ => rfl | 1, _ => rfl | j + 2, hj => exact absurd hj (by omega)) (Nat.le_of_ble_eq_true rfl) (Nat.le_of_ble_eq_true rfl) dX10_init_5 (fun q1 H hT hS => ?_)
  refine lv_dup hx hb dX10_init_8 rfl ?_
  refine x_cv (x_runI (b := q1) (As := []) (rest := [.ref q1, .ref a]) S (c_X8_init l E K F G ((a, .inr (11, [.null, .null, .null, .null, .null, .null, .null, .null, .null, .null, .null, .null, .null, .null, .null, .null, .null, .int 0, .int 0])) :: L) q1) mi_X8_init rfl km_X10_11 rfl rfl ⟨(Nat.le_of_ble_eq_true rfl), (Nat.le_of_ble_eq_true rfl)⟩ hK (fun _ => XPx.blind) (fun U hU hW => XPx.at hK hA hz hS hT hU hW) rfl hl.1 (Nat.le_of_ble_eq_true rfl) dX10_init_9 ⟨(Nat.le_of_ble_eq_true rfl), (Nat.le_of_ble_eq_true rfl)⟩) hS ?_
  rintro ⟨K, F, G⟩ H locs ⟨g, c_q1, n1⟩ hT hS
  dsimp only at g c_q1 n1 hT
  have hT : TX E K F G ((a, .inr (11, [.null, .null, .null, .null, .null, .null, .null, .null, .null, .null, .null, .null, .null, .null, .null, .null, .null, .int 0, .int 0])) :: L) H := hT
  have hgr := hgr.tr g
  have hN : N11 K0 → N11 K := fun h => n1 (hN h)
  have c_q1 : OBz 10 0 K F G q1 := c_q1
  refine tx_putF (C := RX10) (T := TX10) (N := 19) (ci := 11) (ty := (.object "LateRules$Text")) S hK hT hS inX10 tyX10 tyX10_ok nmX10 0 rfl rfl 0 (by decide) kf_X10_12 rfl hnm rfl (by decide +kernel) rfl rfl (Nat.le_of_ble_eq_true rfl) dX10_init_12 (fun H locs hT hS => ?_)
  have hT : TX E K F G ((a, .inr (11, [.ref q1, .null, .null, .null, .null, .null, .null, .null, .null, .null, .null, .null, .null, .null, .null, .null, .null, .int 0, .int 0])) :: L) H := hT
  refine lv_aload_n hx hb dX10_init_15 rfl (lv_at hl 0 rfl) ?_
  refine tx_new (ci := 6) (fs := [.null, .int 0, .int 0, .int 0, .int 0, .int 0]) S hK hz hT hS inX5 tyX5 tyX5_ok kn_X10_18 kin_X5.1 kin_X5.2 rfl (by intro j hj; match j, hj with | 0, _ => rfl | 1, _ => rfl | 2, _ => rfl | 3, _ => rfl | 4, _ => rfl | 5, _ => rfl | j + 6, hj => exact absurd hj (by omega)) (Nat.le_of_ble_eq_true rfl) (Nat.le_of_ble_eq_true rfl) dX10_init_16 (fun q2 H hT hS => ?_)
  refine lv_dup hx hb dX10_init_19 rfl ?_
  refine lv_aload_n hx hb dX10_init_20 rfl (lv_at hl 0 rfl) ?_
  refine tx_get (C := RX10) (T := TX10) (N := 19) (ci := 11) S hK hT inX10 1 rfl rfl 0 (by decide) kf_X10_12 rfl dX10_init_21 ?_
  refine x_cv0 (x_runI (b := q2) (As := [.ref q1]) (rest := [.ref q2, .ref a]) S (c_X5_init l E K F G ((a, .inr (11, [.ref q1, .null, .null, .null, .null, .null, .null, .null, .null, .null, .null, .null, .null, .null, .null, .null, .null, .int 0, .int 0])) :: L) q2 q1 ⟨c_q1.1, c_q1.2.1⟩) mi_X5_init rfl km_X10_20 rfl rfl ⟨(Nat.le_of_ble_eq_true rfl), (Nat.le_of_ble_eq_true rfl)⟩ hK (fun _ => XPx.blind) (fun U hU hW => XPx.at hK hA hz hS hT hU hW) rfl hl.1 (Nat.le_of_ble_eq_true rfl) dX10_init_24 ⟨(Nat.le_of_ble_eq_true rfl), (Nat.le_of_ble_eq_true rfl)⟩) hS ?_
  rintro ⟨K, F, G⟩ H locs ⟨g, c_q2, n1⟩ hT hS
  dsimp only at g c_q2 n1 hT
  have hT : TX E K F G ((a, .inr (11, [.ref q1, .null, .null, .null, .null, .null, .null, .null, .null, .null, .null, .null, .null, .null, .null, .null, .null, .int 0, .int 0])) :: L) H := hT
  have hgr := hgr.tr g
  have c_q1 := OBz.gr g (by decide) c_q1
  have hN : N11 K0 → N11 K := fun h => n1 (hN h)
  have c_q2 : RDz K F q2 q1 := c_q2
  refine tx_putF (C := RX10) (T := TX10) (N := 19) (ci := 11) (ty := (.object "LateRules$Reader")) S hK hT hS inX10 tyX10 tyX10_ok nmX10 0 rfl rfl 1 (by decide) kf_X10_23 rfl hnm rfl (by decide +kernel) rfl rfl (Nat.le_of_ble_eq_true rfl) dX10_init_27 (fun H locs hT hS => ?_)
  have hT : TX E K F G ((a, .inr (11, [.ref q1, .ref q2, .null, .null, .null, .null, .null, .null, .null, .null, .null, .null, .null, .null, .null, .null, .null, .int 0, .int 0])) :: L) H := hT
  refine lv_aload_n hx hb dX10_init_30 rfl (lv_at hl 0 rfl) ?_
  refine tx_new (ci := 1) (fs := [.null, .null, .int 0]) S hK hz hT hS inX0 tyX0 tyX0_ok kn_X10_27 kin_X0.1 kin_X0.2 rfl (by intro j hj; match j, hj with | 0, _ => rfl | 1, _ => rfl | 2, _ => rfl | j + 3, hj => exact absurd hj (by omega)) (Nat.le_of_ble_eq_true rfl) (Nat.le_of_ble_eq_true rfl) dX10_init_31 (fun q3 H hT hS => ?_)
  refine lv_dup hx hb dX10_init_34 rfl ?_
  refine x_cv (x_runI (b := q3) (As := []) (rest := [.ref q3, .ref a]) S (c_X0_init l E K F G ((a, .inr (11, [.ref q1, .ref q2, .null, .null, .null, .null, .null, .null, .null, .null, .null, .null, .null, .null, .null, .null, .null, .int 0, .int 0])) :: L) q3) mi_X0_init rfl km_X10_29 rfl rfl ⟨(Nat.le_of_ble_eq_true rfl), (Nat.le_of_ble_eq_true rfl)⟩ hK (fun _ => XPx.blind) (fun U hU hW => XPx.at hK hA hz hS hT hU hW) rfl hl.1 (Nat.le_of_ble_eq_true rfl) dX10_init_35 ⟨(Nat.le_of_ble_eq_true rfl), (Nat.le_of_ble_eq_true rfl)⟩) hS ?_
  rintro ⟨K, F, G⟩ H locs ⟨g, c_q3, n1⟩ hT hS
  dsimp only at g c_q3 n1 hT
  have hT : TX E K F G ((a, .inr (11, [.ref q1, .ref q2, .null, .null, .null, .null, .null, .null, .null, .null, .null, .null, .null, .null, .null, .null, .null, .int 0, .int 0])) :: L) H := hT
  have hgr := hgr.tr g
  have c_q1 := OBz.gr g (by decide) c_q1
  have c_q2 := RDz.gr g c_q2
  have hN : N11 K0 → N11 K := fun h => n1 (hN h)
  have c_q3 : BKz K F G q3 := c_q3
  refine tx_putF (C := RX10) (T := TX10) (N := 19) (ci := 11) (ty := (.object "LateRules$Book")) S hK hT hS inX10 tyX10 tyX10_ok nmX10 0 rfl rfl 2 (by decide) kf_X10_30 rfl hnm rfl (by decide +kernel) rfl rfl (Nat.le_of_ble_eq_true rfl) dX10_init_38 (fun H locs hT hS => ?_)
  have hT : TX E K F G ((a, .inr (11, [.ref q1, .ref q2, .ref q3, .null, .null, .null, .null, .null, .null, .null, .null, .null, .null, .null, .null, .null, .null, .int 0, .int 0])) :: L) H := hT
  refine lv_aload_n hx hb dX10_init_41 rfl (lv_at hl 0 rfl) ?_
  refine tx_new (ci := 7) (fs := [.null, .null]) S hK hz hT hS inX6 tyX6 tyX6_ok kn_X10_34 kin_X6.1 kin_X6.2 rfl (by intro j hj; match j, hj with | 0, _ => rfl | 1, _ => rfl | j + 2, hj => exact absurd hj (by omega)) (Nat.le_of_ble_eq_true rfl) (Nat.le_of_ble_eq_true rfl) dX10_init_42 (fun q4 H hT hS => ?_)
  refine lv_dup hx hb dX10_init_45 rfl ?_
  refine x_cv (x_runI (b := q4) (As := []) (rest := [.ref q4, .ref a]) S (c_X6_init l E K F G ((a, .inr (11, [.ref q1, .ref q2, .ref q3, .null, .null, .null, .null, .null, .null, .null, .null, .null, .null, .null, .null, .null, .null, .int 0, .int 0])) :: L) q4 0) mi_X6_init rfl km_X10_36 rfl rfl ⟨(Nat.le_of_ble_eq_true rfl), (Nat.le_of_ble_eq_true rfl)⟩ hK (fun _ => XPx.blind) (fun U hU hW => XPx.at hK hA hz hS hT hU hW) rfl hl.1 (Nat.le_of_ble_eq_true rfl) dX10_init_46 ⟨(Nat.le_of_ble_eq_true rfl), (Nat.le_of_ble_eq_true rfl)⟩) hS ?_
  rintro ⟨K, F, G⟩ H locs ⟨g, c_q4, n1⟩ hT hS
  dsimp only at g c_q4 n1 hT
  have hT : TX E K F G ((a, .inr (11, [.ref q1, .ref q2, .ref q3, .null, .null, .null, .null, .null, .null, .null, .null, .null, .null, .null, .null, .null, .null, .int 0, .int 0])) :: L) H := hT
  have hgr := hgr.tr g
  have c_q1 := OBz.gr g (by decide) c_q1
  have c_q2 := RDz.gr g c_q2
  have c_q3 := BKz.gr g c_q3
  have hN : N11 K0 → N11 K := fun h => n1 (hN h)
  have c_q4 : RWz 0 K F G q4 := c_q4
  refine tx_putF (C := RX10) (T := TX10) (N := 19) (ci := 11) (ty := (.object "LateRules$Rows")) S hK hT hS inX10 tyX10 tyX10_ok nmX10 0 rfl rfl 3 (by decide) kf_X10_37 rfl hnm rfl (by decide +kernel) rfl rfl (Nat.le_of_ble_eq_true rfl) dX10_init_49 (fun H locs hT hS => ?_)
  have hT : TX E K F G ((a, .inr (11, [.ref q1, .ref q2, .ref q3, .ref q4, .null, .null, .null, .null, .null, .null, .null, .null, .null, .null, .null, .null, .null, .int 0, .int 0])) :: L) H := hT
  refine lv_aload_n hx hb dX10_init_52 rfl (lv_at hl 0 rfl) ?_
  refine tx_new (ci := 7) (fs := [.null, .null]) S hK hz hT hS inX6 tyX6 tyX6_ok kn_X10_34 kin_X6.1 kin_X6.2 rfl (by intro j hj; match j, hj with | 0, _ => rfl | 1, _ => rfl | j + 2, hj => exact absurd hj (by omega)) (Nat.le_of_ble_eq_true rfl) (Nat.le_of_ble_eq_true rfl) dX10_init_53 (fun q5 H hT hS => ?_)
  refine lv_dup hx hb dX10_init_56 rfl ?_
  refine x_cv (x_runI (b := q5) (As := []) (rest := [.ref q5, .ref a]) S (c_X6_init l E K F G ((a, .inr (11, [.ref q1, .ref q2, .ref q3, .ref q4, .null, .null, .null, .null, .null, .null, .null, .null, .null, .null, .null, .null, .null, .int 0, .int 0])) :: L) q5 1) mi_X6_init rfl km_X10_36 rfl rfl ⟨(Nat.le_of_ble_eq_true rfl), (Nat.le_of_ble_eq_true rfl)⟩ hK (fun _ => XPx.blind) (fun U hU hW => XPx.at hK hA hz hS hT hU hW) rfl hl.1 (Nat.le_of_ble_eq_true rfl) dX10_init_57 ⟨(Nat.le_of_ble_eq_true rfl), (Nat.le_of_ble_eq_true rfl)⟩) hS ?_
  rintro ⟨K, F, G⟩ H locs ⟨g, c_q5, n1⟩ hT hS
  dsimp only at g c_q5 n1 hT
  have hT : TX E K F G ((a, .inr (11, [.ref q1, .ref q2, .ref q3, .ref q4, .null, .null, .null, .null, .null, .null, .null, .null, .null, .null, .null, .null, .null, .int 0, .int 0])) :: L) H := hT
  have hgr := hgr.tr g
  have c_q1 := OBz.gr g (by decide) c_q1
  have c_q2 := RDz.gr g c_q2
  have c_q3 := BKz.gr g c_q3
  have c_q4 := RWz.gr g c_q4
  have hN : N11 K0 → N11 K := fun h => n1 (hN h)
  have c_q5 : RWz 1 K F G q5 := c_q5
  refine tx_putF (C := RX10) (T := TX10) (N := 19) (ci := 11) (ty := (.object "LateRules$Rows")) S hK hT hS inX10 tyX10 tyX10_ok nmX10 0 rfl rfl 4 (by decide) kf_X10_41 rfl hnm rfl (by decide +kernel) rfl rfl (Nat.le_of_ble_eq_true rfl) dX10_init_60 (fun H locs hT hS => ?_)
  have hT : TX E K F G ((a, .inr (11, [.ref q1, .ref q2, .ref q3, .ref q4, .ref q5, .null, .null, .null, .null, .null, .null, .null, .null, .null, .null, .null, .null, .int 0, .int 0])) :: L) H := hT
  refine lv_aload_n hx hb dX10_init_63 rfl (lv_at hl 0 rfl) ?_
  refine tx_new (ci := 7) (fs := [.null, .null]) S hK hz hT hS inX6 tyX6 tyX6_ok kn_X10_34 kin_X6.1 kin_X6.2 rfl (by intro j hj; match j, hj with | 0, _ => rfl | 1, _ => rfl | j + 2, hj => exact absurd hj (by omega)) (Nat.le_of_ble_eq_true rfl) (Nat.le_of_ble_eq_true rfl) dX10_init_64 (fun q6 H hT hS => ?_)
  refine lv_dup hx hb dX10_init_67 rfl ?_
  refine x_cv (x_runI (b := q6) (As := []) (rest := [.ref q6, .ref a]) S (c_X6_init l E K F G ((a, .inr (11, [.ref q1, .ref q2, .ref q3, .ref q4, .ref q5, .null, .null, .null, .null, .null, .null, .null, .null, .null, .null, .null, .null, .int 0, .int 0])) :: L) q6 2) mi_X6_init rfl km_X10_36 rfl rfl ⟨(Nat.le_of_ble_eq_true rfl), (Nat.le_of_ble_eq_true rfl)⟩ hK (fun _ => XPx.blind) (fun U hU hW => XPx.at hK hA hz hS hT hU hW) rfl hl.1 (Nat.le_of_ble_eq_true rfl) dX10_init_68 ⟨(Nat.le_of_ble_eq_true rfl), (Nat.le_of_ble_eq_true rfl)⟩) hS ?_
  rintro ⟨K, F, G⟩ H locs ⟨g, c_q6, n1⟩ hT hS
  dsimp only at g c_q6 n1 hT
  have hT : TX E K F G ((a, .inr (11, [.ref q1, .ref q2, .ref q3, .ref q4, .ref q5, .null, .null, .null, .null, .null, .null, .null, .null, .null, .null, .null, .null, .int 0, .int 0])) :: L) H := hT
  have hgr := hgr.tr g
  have c_q1 := OBz.gr g (by decide) c_q1
  have c_q2 := RDz.gr g c_q2
  have c_q3 := BKz.gr g c_q3
  have c_q4 := RWz.gr g c_q4
  have c_q5 := RWz.gr g c_q5
  have hN : N11 K0 → N11 K := fun h => n1 (hN h)
  have c_q6 : RWz 2 K F G q6 := c_q6
  refine tx_putF (C := RX10) (T := TX10) (N := 19) (ci := 11) (ty := (.object "LateRules$Rows")) S hK hT hS inX10 tyX10 tyX10_ok nmX10 0 rfl rfl 5 (by decide) kf_X10_44 rfl hnm rfl (by decide +kernel) rfl rfl (Nat.le_of_ble_eq_true rfl) dX10_init_71 (fun H locs hT hS => ?_)
  have hT : TX E K F G ((a, .inr (11, [.ref q1, .ref q2, .ref q3, .ref q4, .ref q5, .ref q6, .null, .null, .null, .null, .null, .null, .null, .null, .null, .null, .null, .int 0, .int 0])) :: L) H := hT
  refine lv_aload_n hx hb dX10_init_74 rfl (lv_at hl 0 rfl) ?_
  refine tx_new (ci := 7) (fs := [.null, .null]) S hK hz hT hS inX6 tyX6 tyX6_ok kn_X10_34 kin_X6.1 kin_X6.2 rfl (by intro j hj; match j, hj with | 0, _ => rfl | 1, _ => rfl | j + 2, hj => exact absurd hj (by omega)) (Nat.le_of_ble_eq_true rfl) (Nat.le_of_ble_eq_true rfl) dX10_init_75 (fun q7 H hT hS => ?_)
  refine lv_dup hx hb dX10_init_78 rfl ?_
  refine x_cv (x_runI (b := q7) (As := []) (rest := [.ref q7, .ref a]) S (c_X6_init l E K F G ((a, .inr (11, [.ref q1, .ref q2, .ref q3, .ref q4, .ref q5, .ref q6, .null, .null, .null, .null, .null, .null, .null, .null, .null, .null, .null, .int 0, .int 0])) :: L) q7 3) mi_X6_init rfl km_X10_36 rfl rfl ⟨(Nat.le_of_ble_eq_true rfl), (Nat.le_of_ble_eq_true rfl)⟩ hK (fun _ => XPx.blind) (fun U hU hW => XPx.at hK hA hz hS hT hU hW) rfl hl.1 (Nat.le_of_ble_eq_true rfl) dX10_init_79 ⟨(Nat.le_of_ble_eq_true rfl), (Nat.le_of_ble_eq_true rfl)⟩) hS ?_
  rintro ⟨K, F, G⟩ H locs ⟨g, c_q7, n1⟩ hT hS
  dsimp only at g c_q7 n1 hT
  have hT : TX E K F G ((a, .inr (11, [.ref q1, .ref q2, .ref q3, .ref q4, .ref q5, .ref q6, .null, .null, .null, .null, .null, .null, .null, .null, .null, .null, .null, .int 0, .int 0])) :: L) H := hT
  have hgr := hgr.tr g
  have c_q1 := OBz.gr g (by decide) c_q1
  have c_q2 := RDz.gr g c_q2
  have c_q3 := BKz.gr g c_q3
  have c_q4 := RWz.gr g c_q4
  have c_q5 := RWz.gr g c_q5
  have c_q6 := RWz.gr g c_q6
  have hN : N11 K0 → N11 K := fun h => n1 (hN h)
  have c_q7 : RWz 3 K F G q7 := c_q7
  refine tx_putF (C := RX10) (T := TX10) (N := 19) (ci := 11) (ty := (.object "LateRules$Rows")) S hK hT hS inX10 tyX10 tyX10_ok nmX10 0 rfl rfl 6 (by decide) kf_X10_47 rfl hnm rfl (by decide +kernel) rfl rfl (Nat.le_of_ble_eq_true rfl) dX10_init_82 (fun H locs hT hS => ?_)
  have hT : TX E K F G ((a, .inr (11, [.ref q1, .ref q2, .ref q3, .ref q4, .ref q5, .ref q6, .ref q7, .null, .null, .null, .null, .null, .null, .null, .null, .null, .null, .int 0, .int 0])) :: L) H := hT
  refine lv_aload_n hx hb dX10_init_85 rfl (lv_at hl 0 rfl) ?_
  refine lv_bipush (v := 8) hx hb dX10_init_86 (by decide) ?_
  refine tx_nq5 S hK hA.2 hz hT hS kn_X10_34 (N := 8) (by decide) (by decide) (Nat.le_of_ble_eq_true rfl) (Nat.le_of_ble_eq_true rfl) (Nat.le_of_ble_eq_true rfl) dX10_init_88 (fun q8 H hT hS => ?_)
  refine tx_putF (C := RX10) (T := TX10) (N := 19) (ci := 11) (ty := (.array (.object "LateRules$Rows"))) S hK hT hS inX10 tyX10 tyX10_ok nmX10 1 rfl rfl 7 (by decide) kf_X10_50 rfl hnm rfl (by decide +kernel) rfl rfl (Nat.le_of_ble_eq_true rfl) dX10_init_91 (fun H locs hT hS => ?_)
  have hT : TX E K F G ((q8, .inl (E.2.1 5, 8, .inr (.inr (.inr (.inr (fun _ => none)))))) :: (a, .inr (11, [.ref q1, .ref q2, .ref q3, .ref q4, .ref q5, .ref q6, .ref q7, .ref q8, .null, .null, .null, .null, .null, .null, .null, .null, .null, .int 0, .int 0])) :: L) H := hT
  refine lv_iconst (v := 0) hx hb dX10_init_94 (by decide) ?_
  refine lv_istore_n (lv' := [(1, .int 0), (0, .ref a)]) hx hb dX10_init_95 rfl hl (by decide) rfl (fun ls hl => ?_)
  refine lv_iload_n hx hb dX10_init_96 rfl (lv_at hl 0 rfl) ?_
  refine lv_bipush (v := 8) hx hb dX10_init_97 (by decide) ?_
  refine xi_cge (tgt := 121) hx hb ((by decide) : Int32.toInt 0 = (0 : Int)) ((by decide) : Int32.toInt 8 = (8 : Int)) dX10_init_99 (by decide) (fun c => absurd c (show ¬ ((8 : Int) ≤ (0 : Int)) by decide)) (fun _ => ?_)
  refine lv_aload_n hx hb dX10_init_102 rfl (lv_at hl 1 rfl) ?_
  refine tx_get (C := RX10) (T := TX10) (N := 19) (ci := 11) S hK hT inX10 1 rfl rfl 7 (by decide) kf_X10_50 rfl dX10_init_103 ?_
  refine lv_iload_n hx hb dX10_init_106 rfl (lv_at hl 0 rfl) ?_
  refine tx_new (ci := 7) (fs := [.null, .null]) S hK hz hT hS inX6 tyX6 tyX6_ok kn_X10_34 kin_X6.1 kin_X6.2 rfl (by intro j hj; match j, hj with | 0, _ => rfl | 1, _ => rfl | j + 2, hj => exact absurd hj (by omega)) (Nat.le_of_ble_eq_true rfl) (Nat.le_of_ble_eq_true rfl) dX10_init_107 (fun q9 H hT hS => ?_)
  refine lv_dup hx hb dX10_init_110 rfl ?_
  refine x_cv (x_runI (b := q9) (As := []) (rest := [.ref q9, .int 0, .ref q8]) S (c_X6_init l E K F G ((q8, .inl (E.2.1 5, 8, .inr (.inr (.inr (.inr (fun _ => none)))))) :: (a, .inr (11, [.ref q1, .ref q2, .ref q3, .ref q4, .ref q5, .ref q6, .ref q7, .ref q8, .null, .null, .null, .null, .null, .null, .null, .null, .null, .int 0, .int 0])) :: L) q9 4) mi_X6_init rfl km_X10_36 rfl rfl ⟨(Nat.le_of_ble_eq_true rfl), (Nat.le_of_ble_eq_true rfl)⟩ hK (fun _ => XPx.blind) (fun U hU hW => XPx.at hK hA hz hS hT hU hW) rfl hl.1 (Nat.le_of_ble_eq_true rfl) dX10_init_111 ⟨(Nat.le_of_ble_eq_true rfl), (Nat.le_of_ble_eq_true rfl)⟩) hS ?_
  rintro ⟨K, F, G⟩ H locs ⟨g, c_q9, n1⟩ hT hS
  dsimp only at g c_q9 n1 hT
  have hT : TX E K F G ((q8, .inl (E.2.1 5, 8, .inr (.inr (.inr (.inr (fun _ => none)))))) :: (a, .inr (11, [.ref q1, .ref q2, .ref q3, .ref q4, .ref q5, .ref q6, .ref q7, .ref q8, .null, .null, .null, .null, .null, .null, .null, .null, .null, .int 0, .int 0])) :: L) H := hT
  have hgr := hgr.tr g
  have c_q1 := OBz.gr g (by decide) c_q1
  have c_q2 := RDz.gr g c_q2
  have c_q3 := BKz.gr g c_q3
  have c_q4 := RWz.gr g c_q4
  have c_q5 := RWz.gr g c_q5
  have c_q6 := RWz.gr g c_q6
  have c_q7 := RWz.gr g c_q7
  have hN : N11 K0 → N11 K := fun h => n1 (hN h)
  have c_q9 : RWz 4 K F G q9 := c_q9
  refine tx_asq S hK hT hS 0 rfl (c_q9.1) (by decide) dX10_init_114 (fun H locs hT hS => ?_)
  have hT : TX E K F G ((q8, .inl (E.2.1 5, 8, .inr (.inr (.inr (.inr (va_up (fun _ => none) 0 (some q9))))))) :: (a, .inr (11, [.ref q1, .ref q2, .ref q3, .ref q4, .ref q5, .ref q6, .ref q7, .ref q8, .null, .null, .null, .null, .null, .null, .null, .null, .null, .int 0, .int 0])) :: L) H := hT
  refine xi_iinc (n := 1) (lv' := fun z9 => [(1, .int z9), (0, .ref a)]) (k := 0) hx hb ((by decide) : Int32.toInt 0 = (0 : Int)) (by decide) dX10_init_115 hl rfl (by decide) (fun _ => rfl) (fun x9 ls t9 hl => ?_)
  have hl : lv_has ls 2 [(1, .int x9), (0, .ref a)] := hl
  have e9 : (1 : Int32).toInt = 1 := by decide
  have h9 : x9 = 1 := Int32.toInt_inj.mp (by rw [e9]; omega)
  subst h9
  have hl : lv_has ls 2 [(1, .int 1), (0, .ref a)] := hl
  refine lv_goto (tgt := 96) hx hb dX10_init_118 (by decide) ?_
  refine lv_iload_n hx hb dX10_init_96 rfl (lv_at hl 0 rfl) ?_
  refine lv_bipush (v := 8) hx hb dX10_init_97 (by decide) ?_
  refine xi_cge (tgt := 121) hx hb ((by decide) : Int32.toInt 1 = (1 : Int)) ((by decide) : Int32.toInt 8 = (8 : Int)) dX10_init_99 (by decide) (fun c => absurd c (show ¬ ((8 : Int) ≤ (1 : Int)) by decide)) (fun _ => ?_)
  refine lv_aload_n hx hb dX10_init_102 rfl (lv_at hl 1 rfl) ?_
  refine tx_get (C := RX10) (T := TX10) (N := 19) (ci := 11) S hK hT inX10 1 rfl rfl 7 (by decide) kf_X10_50 rfl dX10_init_103 ?_
  refine lv_iload_n hx hb dX10_init_106 rfl (lv_at hl 0 rfl) ?_
  refine tx_new (ci := 7) (fs := [.null, .null]) S hK hz hT hS inX6 tyX6 tyX6_ok kn_X10_34 kin_X6.1 kin_X6.2 rfl (by intro j hj; match j, hj with | 0, _ => rfl | 1, _ => rfl | j + 2, hj => exact absurd hj (by omega)) (Nat.le_of_ble_eq_true rfl) (Nat.le_of_ble_eq_true rfl) dX10_init_107 (fun q10 H hT hS => ?_)
  refine lv_dup hx hb dX10_init_110 rfl ?_
  refine x_cv (x_runI (b := q10) (As := []) (rest := [.ref q10, .int 1, .ref q8]) S (c_X6_init l E K F G ((q8, .inl (E.2.1 5, 8, .inr (.inr (.inr (.inr (va_up (fun _ => none) 0 (some q9))))))) :: (a, .inr (11, [.ref q1, .ref q2, .ref q3, .ref q4, .ref q5, .ref q6, .ref q7, .ref q8, .null, .null, .null, .null, .null, .null, .null, .null, .null, .int 0, .int 0])) :: L) q10 5) mi_X6_init rfl km_X10_36 rfl rfl ⟨(Nat.le_of_ble_eq_true rfl), (Nat.le_of_ble_eq_true rfl)⟩ hK (fun _ => XPx.blind) (fun U hU hW => XPx.at hK hA hz hS hT hU hW) rfl hl.1 (Nat.le_of_ble_eq_true rfl) dX10_init_111 ⟨(Nat.le_of_ble_eq_true rfl), (Nat.le_of_ble_eq_true rfl)⟩) hS ?_
  rintro ⟨K, F, G⟩ H locs ⟨g, c_q10, n1⟩ hT hS
  dsimp only at g c_q10 n1 hT
  have hT : TX E K F G ((q8, .inl (E.2.1 5, 8, .inr (.inr (.inr (.inr (va_up (fun _ => none) 0 (some q9))))))) :: (a, .inr (11, [.ref q1, .ref q2, .ref q3, .ref q4, .ref q5, .ref q6, .ref q7, .ref q8, .null, .null, .null, .null, .null, .null, .null, .null, .null, .int 0, .int 0])) :: L) H := hT
  have hgr := hgr.tr g
  have c_q1 := OBz.gr g (by decide) c_q1
  have c_q2 := RDz.gr g c_q2
  have c_q3 := BKz.gr g c_q3
  have c_q4 := RWz.gr g c_q4
  have c_q5 := RWz.gr g c_q5
  have c_q6 := RWz.gr g c_q6
  have c_q7 := RWz.gr g c_q7
  have c_q9 := RWz.gr g c_q9
  have hN : N11 K0 → N11 K := fun h => n1 (hN h)
  have c_q10 : RWz 5 K F G q10 := c_q10
  refine tx_asq S hK hT hS 0 rfl (c_q10.1) (by decide) dX10_init_114 (fun H locs hT hS => ?_)
  have hT : TX E K F G ((q8, .inl (E.2.1 5, 8, .inr (.inr (.inr (.inr (va_up (va_up (fun _ => none) 0 (some q9)) 1 (some q10))))))) :: (a, .inr (11, [.ref q1, .ref q2, .ref q3, .ref q4, .ref q5, .ref q6, .ref q7, .ref q8, .null, .null, .null, .null, .null, .null, .null, .null, .null, .int 0, .int 0])) :: L) H := hT
  refine xi_iinc (n := 1) (lv' := fun z9 => [(1, .int z9), (0, .ref a)]) (k := 0) hx hb ((by decide) : Int32.toInt 1 = (1 : Int)) (by decide) dX10_init_115 hl rfl (by decide) (fun _ => rfl) (fun x9 ls t9 hl => ?_)
  have hl : lv_has ls 2 [(1, .int x9), (0, .ref a)] := hl
  have e9 : (2 : Int32).toInt = 2 := by decide
  have h9 : x9 = 2 := Int32.toInt_inj.mp (by rw [e9]; omega)
  subst h9
  have hl : lv_has ls 2 [(1, .int 2), (0, .ref a)] := hl
  refine lv_goto (tgt := 96) hx hb dX10_init_118 (by decide) ?_
  refine lv_iload_n hx hb dX10_init_96 rfl (lv_at hl 0 rfl) ?_
  refine lv_bipush (v := 8) hx hb dX10_init_97 (by decide) ?_
  refine xi_cge (tgt := 121) hx hb ((by decide) : Int32.toInt 2 = (2 : Int)) ((by decide) : Int32.toInt 8 = (8 : Int)) dX10_init_99 (by decide) (fun c => absurd c (show ¬ ((8 : Int) ≤ (2 : Int)) by decide)) (fun _ => ?_)
  refine lv_aload_n hx hb dX10_init_102 rfl (lv_at hl 1 rfl) ?_
  refine tx_get (C := RX10) (T := TX10) (N := 19) (ci := 11) S hK hT inX10 1 rfl rfl 7 (by decide) kf_X10_50 rfl dX10_init_103 ?_
  refine lv_iload_n hx hb dX10_init_106 rfl (lv_at hl 0 rfl) ?_
  refine tx_new (ci := 7) (fs := [.null, .null]) S hK hz hT hS inX6 tyX6 tyX6_ok kn_X10_34 kin_X6.1 kin_X6.2 rfl (by intro j hj; match j, hj with | 0, _ => rfl | 1, _ => rfl | j + 2, hj => exact absurd hj (by omega)) (Nat.le_of_ble_eq_true rfl) (Nat.le_of_ble_eq_true rfl) dX10_init_107 (fun q11 H hT hS => ?_)
  refine lv_dup hx hb dX10_init_110 rfl ?_
  refine x_cv (x_runI (b := q11) (As := []) (rest := [.ref q11, .int 2, .ref q8]) S (c_X6_init l E K F G ((q8, .inl (E.2.1 5, 8, .inr (.inr (.inr (.inr (va_up (va_up (fun _ => none) 0 (some q9)) 1 (some q10))))))) :: (a, .inr (11, [.ref q1, .ref q2, .ref q3, .ref q4, .ref q5, .ref q6, .ref q7, .ref q8, .null, .null, .null, .null, .null, .null, .null, .null, .null, .int 0, .int 0])) :: L) q11 6) mi_X6_init rfl km_X10_36 rfl rfl ⟨(Nat.le_of_ble_eq_true rfl), (Nat.le_of_ble_eq_true rfl)⟩ hK (fun _ => XPx.blind) (fun U hU hW => XPx.at hK hA hz hS hT hU hW) rfl hl.1 (Nat.le_of_ble_eq_true rfl) dX10_init_111 ⟨(Nat.le_of_ble_eq_true rfl), (Nat.le_of_ble_eq_true rfl)⟩) hS ?_
  rintro ⟨K, F, G⟩ H locs ⟨g, c_q11, n1⟩ hT hS
  dsimp only at g c_q11 n1 hT
  have hT : TX E K F G ((q8, .inl (E.2.1 5, 8, .inr (.inr (.inr (.inr (va_up (va_up (fun _ => none) 0 (some q9)) 1 (some q10))))))) :: (a, .inr (11, [.ref q1, .ref q2, .ref q3, .ref q4, .ref q5, .ref q6, .ref q7, .ref q8, .null, .null, .null, .null, .null, .null, .null, .null, .null, .int 0, .int 0])) :: L) H := hT
  have hgr := hgr.tr g
  have c_q1 := OBz.gr g (by decide) c_q1
  have c_q2 := RDz.gr g c_q2
  have c_q3 := BKz.gr g c_q3
  have c_q4 := RWz.gr g c_q4
  have c_q5 := RWz.gr g c_q5
  have c_q6 := RWz.gr g c_q6
  have c_q7 := RWz.gr g c_q7
  have c_q9 := RWz.gr g c_q9
  have c_q10 := RWz.gr g c_q10
  have hN : N11 K0 → N11 K := fun h => n1 (hN h)
  have c_q11 : RWz 6 K F G q11 := c_q11
  refine tx_asq S hK hT hS 0 rfl (c_q11.1) (by decide) dX10_init_114 (fun H locs hT hS => ?_)
  have hT : TX E K F G ((q8, .inl (E.2.1 5, 8, .inr (.inr (.inr (.inr (va_up (va_up (va_up (fun _ => none) 0 (some q9)) 1 (some q10)) 2 (some q11))))))) :: (a, .inr (11, [.ref q1, .ref q2, .ref q3, .ref q4, .ref q5, .ref q6, .ref q7, .ref q8, .null, .null, .null, .null, .null, .null, .null, .null, .null, .int 0, .int 0])) :: L) H := hT
  refine xi_iinc (n := 1) (lv' := fun z9 => [(1, .int z9), (0, .ref a)]) (k := 0) hx hb ((by decide) : Int32.toInt 2 = (2 : Int)) (by decide) dX10_init_115 hl rfl (by decide) (fun _ => rfl) (fun x9 ls t9 hl => ?_)
  have hl : lv_has ls 2 [(1, .int x9), (0, .ref a)] := hl
  have e9 : (3 : Int32).toInt = 3 := by decide
  have h9 : x9 = 3 := Int32.toInt_inj.mp (by rw [e9]; omega)
  subst h9
  have hl : lv_has ls 2 [(1, .int 3), (0, .ref a)] := hl
  refine lv_goto (tgt := 96) hx hb dX10_init_118 (by decide) ?_
  refine lv_iload_n hx hb dX10_init_96 rfl (lv_at hl 0 rfl) ?_
  refine lv_bipush (v := 8) hx hb dX10_init_97 (by decide) ?_
  refine xi_cge (tgt := 121) hx hb ((by decide) : Int32.toInt 3 = (3 : Int)) ((by decide) : Int32.toInt 8 = (8 : Int)) dX10_init_99 (by decide) (fun c => absurd c (show ¬ ((8 : Int) ≤ (3 : Int)) by decide)) (fun _ => ?_)
  refine lv_aload_n hx hb dX10_init_102 rfl (lv_at hl 1 rfl) ?_
  refine tx_get (C := RX10) (T := TX10) (N := 19) (ci := 11) S hK hT inX10 1 rfl rfl 7 (by decide) kf_X10_50 rfl dX10_init_103 ?_
  refine lv_iload_n hx hb dX10_init_106 rfl (lv_at hl 0 rfl) ?_
  refine tx_new (ci := 7) (fs := [.null, .null]) S hK hz hT hS inX6 tyX6 tyX6_ok kn_X10_34 kin_X6.1 kin_X6.2 rfl (by intro j hj; match j, hj with | 0, _ => rfl | 1, _ => rfl | j + 2, hj => exact absurd hj (by omega)) (Nat.le_of_ble_eq_true rfl) (Nat.le_of_ble_eq_true rfl) dX10_init_107 (fun q12 H hT hS => ?_)
  refine lv_dup hx hb dX10_init_110 rfl ?_
  refine x_cv (x_runI (b := q12) (As := []) (rest := [.ref q12, .int 3, .ref q8]) S (c_X6_init l E K F G ((q8, .inl (E.2.1 5, 8, .inr (.inr (.inr (.inr (va_up (va_up (va_up (fun _ => none) 0 (some q9)) 1 (some q10)) 2 (some q11))))))) :: (a, .inr (11, [.ref q1, .ref q2, .ref q3, .ref q4, .ref q5, .ref q6, .ref q7, .ref q8, .null, .null, .null, .null, .null, .null, .null, .null, .null, .int 0, .int 0])) :: L) q12 7) mi_X6_init rfl km_X10_36 rfl rfl ⟨(Nat.le_of_ble_eq_true rfl), (Nat.le_of_ble_eq_true rfl)⟩ hK (fun _ => XPx.blind) (fun U hU hW => XPx.at hK hA hz hS hT hU hW) rfl hl.1 (Nat.le_of_ble_eq_true rfl) dX10_init_111 ⟨(Nat.le_of_ble_eq_true rfl), (Nat.le_of_ble_eq_true rfl)⟩) hS ?_
  rintro ⟨K, F, G⟩ H locs ⟨g, c_q12, n1⟩ hT hS
  dsimp only at g c_q12 n1 hT
  have hT : TX E K F G ((q8, .inl (E.2.1 5, 8, .inr (.inr (.inr (.inr (va_up (va_up (va_up (fun _ => none) 0 (some q9)) 1 (some q10)) 2 (some q11))))))) :: (a, .inr (11, [.ref q1, .ref q2, .ref q3, .ref q4, .ref q5, .ref q6, .ref q7, .ref q8, .null, .null, .null, .null, .null, .null, .null, .null, .null, .int 0, .int 0])) :: L) H := hT
  have hgr := hgr.tr g
  have c_q1 := OBz.gr g (by decide) c_q1
  have c_q2 := RDz.gr g c_q2
  have c_q3 := BKz.gr g c_q3
  have c_q4 := RWz.gr g c_q4
  have c_q5 := RWz.gr g c_q5
  have c_q6 := RWz.gr g c_q6
  have c_q7 := RWz.gr g c_q7
  have c_q9 := RWz.gr g c_q9
  have c_q10 := RWz.gr g c_q10
  have c_q11 := RWz.gr g c_q11
  have hN : N11 K0 → N11 K := fun h => n1 (hN h)
  have c_q12 : RWz 7 K F G q12 := c_q12
  refine tx_asq S hK hT hS 0 rfl (c_q12.1) (by decide) dX10_init_114 (fun H locs hT hS => ?_)
  have hT : TX E K F G ((q8, .inl (E.2.1 5, 8, .inr (.inr (.inr (.inr (va_up (va_up (va_up (va_up (fun _ => none) 0 (some q9)) 1 (some q10)) 2 (some q11)) 3 (some q12))))))) :: (a, .inr (11, [.ref q1, .ref q2, .ref q3, .ref q4, .ref q5, .ref q6, .ref q7, .ref q8, .null, .null, .null, .null, .null, .null, .null, .null, .null, .int 0, .int 0])) :: L) H := hT
  refine xi_iinc (n := 1) (lv' := fun z9 => [(1, .int z9), (0, .ref a)]) (k := 0) hx hb ((by decide) : Int32.toInt 3 = (3 : Int)) (by decide) dX10_init_115 hl rfl (by decide) (fun _ => rfl) (fun x9 ls t9 hl => ?_)
  have hl : lv_has ls 2 [(1, .int x9), (0, .ref a)] := hl
  have e9 : (4 : Int32).toInt = 4 := by decide
  have h9 : x9 = 4 := Int32.toInt_inj.mp (by rw [e9]; omega)
  subst h9
  have hl : lv_has ls 2 [(1, .int 4), (0, .ref a)] := hl
  refine lv_goto (tgt := 96) hx hb dX10_init_118 (by decide) ?_
  refine lv_iload_n hx hb dX10_init_96 rfl (lv_at hl 0 rfl) ?_
  refine lv_bipush (v := 8) hx hb dX10_init_97 (by decide) ?_
  refine xi_cge (tgt := 121) hx hb ((by decide) : Int32.toInt 4 = (4 : Int)) ((by decide) : Int32.toInt 8 = (8 : Int)) dX10_init_99 (by decide) (fun c => absurd c (show ¬ ((8 : Int) ≤ (4 : Int)) by decide)) (fun _ => ?_)
  refine lv_aload_n hx hb dX10_init_102 rfl (lv_at hl 1 rfl) ?_
  refine tx_get (C := RX10) (T := TX10) (N := 19) (ci := 11) S hK hT inX10 1 rfl rfl 7 (by decide) kf_X10_50 rfl dX10_init_103 ?_
  refine lv_iload_n hx hb dX10_init_106 rfl (lv_at hl 0 rfl) ?_
  refine tx_new (ci := 7) (fs := [.null, .null]) S hK hz hT hS inX6 tyX6 tyX6_ok kn_X10_34 kin_X6.1 kin_X6.2 rfl (by intro j hj; match j, hj with | 0, _ => rfl | 1, _ => rfl | j + 2, hj => exact absurd hj (by omega)) (Nat.le_of_ble_eq_true rfl) (Nat.le_of_ble_eq_true rfl) dX10_init_107 (fun q13 H hT hS => ?_)
  refine lv_dup hx hb dX10_init_110 rfl ?_
  refine x_cv (x_runI (b := q13) (As := []) (rest := [.ref q13, .int 4, .ref q8]) S (c_X6_init l E K F G ((q8, .inl (E.2.1 5, 8, .inr (.inr (.inr (.inr (va_up (va_up (va_up (va_up (fun _ => none) 0 (some q9)) 1 (some q10)) 2 (some q11)) 3 (some q12))))))) :: (a, .inr (11, [.ref q1, .ref q2, .ref q3, .ref q4, .ref q5, .ref q6, .ref q7, .ref q8, .null, .null, .null, .null, .null, .null, .null, .null, .null, .int 0, .int 0])) :: L) q13 8) mi_X6_init rfl km_X10_36 rfl rfl ⟨(Nat.le_of_ble_eq_true rfl), (Nat.le_of_ble_eq_true rfl)⟩ hK (fun _ => XPx.blind) (fun U hU hW => XPx.at hK hA hz hS hT hU hW) rfl hl.1 (Nat.le_of_ble_eq_true rfl) dX10_init_111 ⟨(Nat.le_of_ble_eq_true rfl), (Nat.le_of_ble_eq_true rfl)⟩) hS ?_
  rintro ⟨K, F, G⟩ H locs ⟨g, c_q13, n1⟩ hT hS
  dsimp only at g c_q13 n1 hT
  have hT : TX E K F G ((q8, .inl (E.2.1 5, 8, .inr (.inr (.inr (.inr (va_up (va_up (va_up (va_up (fun _ => none) 0 (some q9)) 1 (some q10)) 2 (some q11)) 3 (some q12))))))) :: (a, .inr (11, [.ref q1, .ref q2, .ref q3, .ref q4, .ref q5, .ref q6, .ref q7, .ref q8, .null, .null, .null, .null, .null, .null, .null, .null, .null, .int 0, .int 0])) :: L) H := hT
  have hgr := hgr.tr g
  have c_q1 := OBz.gr g (by decide) c_q1
  have c_q2 := RDz.gr g c_q2
  have c_q3 := BKz.gr g c_q3
  have c_q4 := RWz.gr g c_q4
  have c_q5 := RWz.gr g c_q5
  have c_q6 := RWz.gr g c_q6
  have c_q7 := RWz.gr g c_q7
  have c_q9 := RWz.gr g c_q9
  have c_q10 := RWz.gr g c_q10
  have c_q11 := RWz.gr g c_q11
  have c_q12 := RWz.gr g c_q12
  have hN : N11 K0 → N11 K := fun h => n1 (hN h)
  have c_q13 : RWz 8 K F G q13 := c_q13
  refine tx_asq S hK hT hS 0 rfl (c_q13.1) (by decide) dX10_init_114 (fun H locs hT hS => ?_)
  have hT : TX E K F G ((q8, .inl (E.2.1 5, 8, .inr (.inr (.inr (.inr (va_up (va_up (va_up (va_up (va_up (fun _ => none) 0 (some q9)) 1 (some q10)) 2 (some q11)) 3 (some q12)) 4 (some q13))))))) :: (a, .inr (11, [.ref q1, .ref q2, .ref q3, .ref q4, .ref q5, .ref q6, .ref q7, .ref q8, .null, .null, .null, .null, .null, .null, .null, .null, .null, .int 0, .int 0])) :: L) H := hT
  refine xi_iinc (n := 1) (lv' := fun z9 => [(1, .int z9), (0, .ref a)]) (k := 0) hx hb ((by decide) : Int32.toInt 4 = (4 : Int)) (by decide) dX10_init_115 hl rfl (by decide) (fun _ => rfl) (fun x9 ls t9 hl => ?_)
  have hl : lv_has ls 2 [(1, .int x9), (0, .ref a)] := hl
  have e9 : (5 : Int32).toInt = 5 := by decide
  have h9 : x9 = 5 := Int32.toInt_inj.mp (by rw [e9]; omega)
  subst h9
  have hl : lv_has ls 2 [(1, .int 5), (0, .ref a)] := hl
  refine lv_goto (tgt := 96) hx hb dX10_init_118 (by decide) ?_
  refine lv_iload_n hx hb dX10_init_96 rfl (lv_at hl 0 rfl) ?_
  refine lv_bipush (v := 8) hx hb dX10_init_97 (by decide) ?_
  refine xi_cge (tgt := 121) hx hb ((by decide) : Int32.toInt 5 = (5 : Int)) ((by decide) : Int32.toInt 8 = (8 : Int)) dX10_init_99 (by decide) (fun c => absurd c (show ¬ ((8 : Int) ≤ (5 : Int)) by decide)) (fun _ => ?_)
  refine lv_aload_n hx hb dX10_init_102 rfl (lv_at hl 1 rfl) ?_
  refine tx_get (C := RX10) (T := TX10) (N := 19) (ci := 11) S hK hT inX10 1 rfl rfl 7 (by decide) kf_X10_50 rfl dX10_init_103 ?_
  refine lv_iload_n hx hb dX10_init_106 rfl (lv_at hl 0 rfl) ?_
  refine tx_new (ci := 7) (fs := [.null, .null]) S hK hz hT hS inX6 tyX6 tyX6_ok kn_X10_34 kin_X6.1 kin_X6.2 rfl (by intro j hj; match j, hj with | 0, _ => rfl | 1, _ => rfl | j + 2, hj => exact absurd hj (by omega)) (Nat.le_of_ble_eq_true rfl) (Nat.le_of_ble_eq_true rfl) dX10_init_107 (fun q14 H hT hS => ?_)
  refine lv_dup hx hb dX10_init_110 rfl ?_
  refine x_cv (x_runI (b := q14) (As := []) (rest := [.ref q14, .int 5, .ref q8]) S (c_X6_init l E K F G ((q8, .inl (E.2.1 5, 8, .inr (.inr (.inr (.inr (va_up (va_up (va_up (va_up (va_up (fun _ => none) 0 (some q9)) 1 (some q10)) 2 (some q11)) 3 (some q12)) 4 (some q13))))))) :: (a, .inr (11, [.ref q1, .ref q2, .ref q3, .ref q4, .ref q5, .ref q6, .ref q7, .ref q8, .null, .null, .null, .null, .null, .null, .null, .null, .null, .int 0, .int 0])) :: L) q14 9) mi_X6_init rfl km_X10_36 rfl rfl ⟨(Nat.le_of_ble_eq_true rfl), (Nat.le_of_ble_eq_true rfl)⟩ hK (fun _ => XPx.blind) (fun U hU hW => XPx.at hK hA hz hS hT hU hW) rfl hl.1 (Nat.le_of_ble_eq_true rfl) dX10_init_111 ⟨(Nat.le_of_ble_eq_true rfl), (Nat.le_of_ble_eq_true rfl)⟩) hS ?_
  rintro ⟨K, F, G⟩ H locs ⟨g, c_q14, n1⟩ hT hS
  dsimp only at g c_q14 n1 hT
  have hT : TX E K F G ((q8, .inl (E.2.1 5, 8, .inr (.inr (.inr (.inr (va_up (va_up (va_up (va_up (va_up (fun _ => none) 0 (some q9)) 1 (some q10)) 2 (some q11)) 3 (some q12)) 4 (some q13))))))) :: (a, .inr (11, [.ref q1, .ref q2, .ref q3, .ref q4, .ref q5, .ref q6, .ref q7, .ref q8, .null, .null, .null, .null, .null, .null, .null, .null, .null, .int 0, .int 0])) :: L) H := hT
  have hgr := hgr.tr g
  have c_q1 := OBz.gr g (by decide) c_q1
  have c_q2 := RDz.gr g c_q2
  have c_q3 := BKz.gr g c_q3
  have c_q4 := RWz.gr g c_q4
  have c_q5 := RWz.gr g c_q5
  have c_q6 := RWz.gr g c_q6
  have c_q7 := RWz.gr g c_q7
  have c_q9 := RWz.gr g c_q9
  have c_q10 := RWz.gr g c_q10
  have c_q11 := RWz.gr g c_q11
  have c_q12 := RWz.gr g c_q12
  have c_q13 := RWz.gr g c_q13
  have hN : N11 K0 → N11 K := fun h => n1 (hN h)
  have c_q14 : RWz 9 K F G q14 := c_q14
  refine tx_asq S hK hT hS 0 rfl (c_q14.1) (by decide) dX10_init_114 (fun H locs hT hS => ?_)
  have hT : TX E K F G ((q8, .inl (E.2.1 5, 8, .inr (.inr (.inr (.inr (va_up (va_up (va_up (va_up (va_up (va_up (fun _ => none) 0 (some q9)) 1 (some q10)) 2 (some q11)) 3 (some q12)) 4 (some q13)) 5 (some q14))))))) :: (a, .inr (11, [.ref q1, .ref q2, .ref q3, .ref q4, .ref q5, .ref q6, .ref q7, .ref q8, .null, .null, .null, .null, .null, .null, .null, .null, .null, .int 0, .int 0])) :: L) H := hT
  refine xi_iinc (n := 1) (lv' := fun z9 => [(1, .int z9), (0, .ref a)]) (k := 0) hx hb ((by decide) : Int32.toInt 5 = (5 : Int)) (by decide) dX10_init_115 hl rfl (by decide) (fun _ => rfl) (fun x9 ls t9 hl => ?_)
  have hl : lv_has ls 2 [(1, .int x9), (0, .ref a)] := hl
  have e9 : (6 : Int32).toInt = 6 := by decide
  have h9 : x9 = 6 := Int32.toInt_inj.mp (by rw [e9]; omega)
  subst h9
  have hl : lv_has ls 2 [(1, .int 6), (0, .ref a)] := hl
  refine lv_goto (tgt := 96) hx hb dX10_init_118 (by decide) ?_
  refine lv_iload_n hx hb dX10_init_96 rfl (lv_at hl 0 rfl) ?_
  refine lv_bipush (v := 8) hx hb dX10_init_97 (by decide) ?_
  refine xi_cge (tgt := 121) hx hb ((by decide) : Int32.toInt 6 = (6 : Int)) ((by decide) : Int32.toInt 8 = (8 : Int)) dX10_init_99 (by decide) (fun c => absurd c (show ¬ ((8 : Int) ≤ (6 : Int)) by decide)) (fun _ => ?_)
  refine lv_aload_n hx hb dX10_init_102 rfl (lv_at hl 1 rfl) ?_
  refine tx_get (C := RX10) (T := TX10) (N := 19) (ci := 11) S hK hT inX10 1 rfl rfl 7 (by decide) kf_X10_50 rfl dX10_init_103 ?_
  refine lv_iload_n hx hb dX10_init_106 rfl (lv_at hl 0 rfl) ?_
  refine tx_new (ci := 7) (fs := [.null, .null]) S hK hz hT hS inX6 tyX6 tyX6_ok kn_X10_34 kin_X6.1 kin_X6.2 rfl (by intro j hj; match j, hj with | 0, _ => rfl | 1, _ => rfl | j + 2, hj => exact absurd hj (by omega)) (Nat.le_of_ble_eq_true rfl) (Nat.le_of_ble_eq_true rfl) dX10_init_107 (fun q15 H hT hS => ?_)
  refine lv_dup hx hb dX10_init_110 rfl ?_
  refine x_cv (x_runI (b := q15) (As := []) (rest := [.ref q15, .int 6, .ref q8]) S (c_X6_init l E K F G ((q8, .inl (E.2.1 5, 8, .inr (.inr (.inr (.inr (va_up (va_up (va_up (va_up (va_up (va_up (fun _ => none) 0 (some q9)) 1 (some q10)) 2 (some q11)) 3 (some q12)) 4 (some q13)) 5 (some q14))))))) :: (a, .inr (11, [.ref q1, .ref q2, .ref q3, .ref q4, .ref q5, .ref q6, .ref q7, .ref q8, .null, .null, .null, .null, .null, .null, .null, .null, .null, .int 0, .int 0])) :: L) q15 10) mi_X6_init rfl km_X10_36 rfl rfl ⟨(Nat.le_of_ble_eq_true rfl), (Nat.le_of_ble_eq_true rfl)⟩ hK (fun _ => XPx.blind) (fun U hU hW => XPx.at hK hA hz hS hT hU hW) rfl hl.1 (Nat.le_of_ble_eq_true rfl) dX10_init_111 ⟨(Nat.le_of_ble_eq_true rfl), (Nat.le_of_ble_eq_true rfl)⟩) hS ?_
  rintro ⟨K, F, G⟩ H locs ⟨g, c_q15, n1⟩ hT hS
  dsimp only at g c_q15 n1 hT
  have hT : TX E K F G ((q8, .inl (E.2.1 5, 8, .inr (.inr (.inr (.inr (va_up (va_up (va_up (va_up (va_up (va_up (fun _ => none) 0 (some q9)) 1 (some q10)) 2 (some q11)) 3 (some q12)) 4 (some q13)) 5 (some q14))))))) :: (a, .inr (11, [.ref q1, .ref q2, .ref q3, .ref q4, .ref q5, .ref q6, .ref q7, .ref q8, .null, .null, .null, .null, .null, .null, .null, .null, .null, .int 0, .int 0])) :: L) H := hT
  have hgr := hgr.tr g
  have c_q1 := OBz.gr g (by decide) c_q1
  have c_q2 := RDz.gr g c_q2
  have c_q3 := BKz.gr g c_q3
  have c_q4 := RWz.gr g c_q4
  have c_q5 := RWz.gr g c_q5
  have c_q6 := RWz.gr g c_q6
  have c_q7 := RWz.gr g c_q7
  have c_q9 := RWz.gr g c_q9
  have c_q10 := RWz.gr g c_q10
  have c_q11 := RWz.gr g c_q11
  have c_q12 := RWz.gr g c_q12
  have c_q13 := RWz.gr g c_q13
  have c_q14 := RWz.gr g c_q14
  have hN : N11 K0 → N11 K := fun h => n1 (hN h)
  have c_q15 : RWz 10 K F G q15 := c_q15
  refine tx_asq S hK hT hS 0 rfl (c_q15.1) (by decide) dX10_init_114 (fun H locs hT hS => ?_)
  have hT : TX E K F G ((q8, .inl (E.2.1 5, 8, .inr (.inr (.inr (.inr (va_up (va_up (va_up (va_up (va_up (va_up (va_up (fun _ => none) 0 (some q9)) 1 (some q10)) 2 (some q11)) 3 (some q12)) 4 (some q13)) 5 (some q14)) 6 (some q15))))))) :: (a, .inr (11, [.ref q1, .ref q2, .ref q3, .ref q4, .ref q5, .ref q6, .ref q7, .ref q8, .null, .null, .null, .null, .null, .null, .null, .null, .null, .int 0, .int 0])) :: L) H := hT
  refine xi_iinc (n := 1) (lv' := fun z9 => [(1, .int z9), (0, .ref a)]) (k := 0) hx hb ((by decide) : Int32.toInt 6 = (6 : Int)) (by decide) dX10_init_115 hl rfl (by decide) (fun _ => rfl) (fun x9 ls t9 hl => ?_)
  have hl : lv_has ls 2 [(1, .int x9), (0, .ref a)] := hl
  have e9 : (7 : Int32).toInt = 7 := by decide
  have h9 : x9 = 7 := Int32.toInt_inj.mp (by rw [e9]; omega)
  subst h9
  have hl : lv_has ls 2 [(1, .int 7), (0, .ref a)] := hl
  refine lv_goto (tgt := 96) hx hb dX10_init_118 (by decide) ?_
  refine lv_iload_n hx hb dX10_init_96 rfl (lv_at hl 0 rfl) ?_
  refine lv_bipush (v := 8) hx hb dX10_init_97 (by decide) ?_
  refine xi_cge (tgt := 121) hx hb ((by decide) : Int32.toInt 7 = (7 : Int)) ((by decide) : Int32.toInt 8 = (8 : Int)) dX10_init_99 (by decide) (fun c => absurd c (show ¬ ((8 : Int) ≤ (7 : Int)) by decide)) (fun _ => ?_)
  refine lv_aload_n hx hb dX10_init_102 rfl (lv_at hl 1 rfl) ?_
  refine tx_get (C := RX10) (T := TX10) (N := 19) (ci := 11) S hK hT inX10 1 rfl rfl 7 (by decide) kf_X10_50 rfl dX10_init_103 ?_
  refine lv_iload_n hx hb dX10_init_106 rfl (lv_at hl 0 rfl) ?_
  refine tx_new (ci := 7) (fs := [.null, .null]) S hK hz hT hS inX6 tyX6 tyX6_ok kn_X10_34 kin_X6.1 kin_X6.2 rfl (by intro j hj; match j, hj with | 0, _ => rfl | 1, _ => rfl | j + 2, hj => exact absurd hj (by omega)) (Nat.le_of_ble_eq_true rfl) (Nat.le_of_ble_eq_true rfl) dX10_init_107 (fun q16 H hT hS => ?_)
  refine lv_dup hx hb dX10_init_110 rfl ?_
  refine x_cv (x_runI (b := q16) (As := []) (rest := [.ref q16, .int 7, .ref q8]) S (c_X6_init l E K F G ((q8, .inl (E.2.1 5, 8, .inr (.inr (.inr (.inr (va_up (va_up (va_up (va_up (va_up (va_up (va_up (fun _ => none) 0 (some q9)) 1 (some q10)) 2 (some q11)) 3 (some q12)) 4 (some q13)) 5 (some q14)) 6 (some q15))))))) :: (a, .inr (11, [.ref q1, .ref q2, .ref q3, .ref q4, .ref q5, .ref q6, .ref q7, .ref q8, .null, .null, .null, .null, .null, .null, .null, .null, .null, .int 0, .int 0])) :: L) q16 11) mi_X6_init rfl km_X10_36 rfl rfl ⟨(Nat.le_of_ble_eq_true rfl), (Nat.le_of_ble_eq_true rfl)⟩ hK (fun _ => XPx.blind) (fun U hU hW => XPx.at hK hA hz hS hT hU hW) rfl hl.1 (Nat.le_of_ble_eq_true rfl) dX10_init_111 ⟨(Nat.le_of_ble_eq_true rfl), (Nat.le_of_ble_eq_true rfl)⟩) hS ?_
  rintro ⟨K, F, G⟩ H locs ⟨g, c_q16, n1⟩ hT hS
  dsimp only at g c_q16 n1 hT
  have hT : TX E K F G ((q8, .inl (E.2.1 5, 8, .inr (.inr (.inr (.inr (va_up (va_up (va_up (va_up (va_up (va_up (va_up (fun _ => none) 0 (some q9)) 1 (some q10)) 2 (some q11)) 3 (some q12)) 4 (some q13)) 5 (some q14)) 6 (some q15))))))) :: (a, .inr (11, [.ref q1, .ref q2, .ref q3, .ref q4, .ref q5, .ref q6, .ref q7, .ref q8, .null, .null, .null, .null, .null, .null, .null, .null, .null, .int 0, .int 0])) :: L) H := hT
  have hgr := hgr.tr g
  have c_q1 := OBz.gr g (by decide) c_q1
  have c_q2 := RDz.gr g c_q2
  have c_q3 := BKz.gr g c_q3
  have c_q4 := RWz.gr g c_q4
  have c_q5 := RWz.gr g c_q5
  have c_q6 := RWz.gr g c_q6
  have c_q7 := RWz.gr g c_q7
  have c_q9 := RWz.gr g c_q9
  have c_q10 := RWz.gr g c_q10
  have c_q11 := RWz.gr g c_q11
  have c_q12 := RWz.gr g c_q12
  have c_q13 := RWz.gr g c_q13
  have c_q14 := RWz.gr g c_q14
  have c_q15 := RWz.gr g c_q15
  have hN : N11 K0 → N11 K := fun h => n1 (hN h)
  have c_q16 : RWz 11 K F G q16 := c_q16
  refine tx_asq S hK hT hS 0 rfl (c_q16.1) (by decide) dX10_init_114 (fun H locs hT hS => ?_)
  have hT : TX E K F G ((q8, .inl (E.2.1 5, 8, .inr (.inr (.inr (.inr (va_up (va_up (va_up (va_up (va_up (va_up (va_up (va_up (fun _ => none) 0 (some q9)) 1 (some q10)) 2 (some q11)) 3 (some q12)) 4 (some q13)) 5 (some q14)) 6 (some q15)) 7 (some q16))))))) :: (a, .inr (11, [.ref q1, .ref q2, .ref q3, .ref q4, .ref q5, .ref q6, .ref q7, .ref q8, .null, .null, .null, .null, .null, .null, .null, .null, .null, .int 0, .int 0])) :: L) H := hT
  refine xi_iinc (n := 1) (lv' := fun z9 => [(1, .int z9), (0, .ref a)]) (k := 0) hx hb ((by decide) : Int32.toInt 7 = (7 : Int)) (by decide) dX10_init_115 hl rfl (by decide) (fun _ => rfl) (fun x9 ls t9 hl => ?_)
  have hl : lv_has ls 2 [(1, .int x9), (0, .ref a)] := hl
  have e9 : (8 : Int32).toInt = 8 := by decide
  have h9 : x9 = 8 := Int32.toInt_inj.mp (by rw [e9]; omega)
  subst h9
  have hl : lv_has ls 2 [(1, .int 8), (0, .ref a)] := hl
  refine lv_goto (tgt := 96) hx hb dX10_init_118 (by decide) ?_
  refine lv_iload_n hx hb dX10_init_96 rfl (lv_at hl 0 rfl) ?_
  refine lv_bipush (v := 8) hx hb dX10_init_97 (by decide) ?_
  refine xi_cge (tgt := 121) hx hb ((by decide) : Int32.toInt 8 = (8 : Int)) ((by decide) : Int32.toInt 8 = (8 : Int)) dX10_init_99 (by decide) (fun _ => ?_) (fun c => absurd (show (8 : Int) ≤ 8 by decide) c)
  refine lv_aload_n hx hb dX10_init_121 rfl (lv_at hl 1 rfl) ?_
  refine tx_new (ci := 5) (fs := [.null, .null, .null, .null, .null, .null, .int 0]) S hK hz hT hS inX4 tyX4 tyX4_ok kn_X10_54 kin_X4.1 kin_X4.2 rfl (by intro j hj; match j, hj with | 0, _ => rfl | 1, _ => rfl | 2, _ => rfl | 3, _ => rfl | 4, _ => rfl | 5, _ => rfl | 6, _ => rfl | j + 7, hj => exact absurd hj (by omega)) (Nat.le_of_ble_eq_true rfl) (Nat.le_of_ble_eq_true rfl) dX10_init_122 (fun q17 H hT hS => ?_)
  refine lv_dup hx hb dX10_init_125 rfl ?_
  refine x_cv (x_runI (b := q17) (As := []) (rest := [.ref q17, .ref a]) S (c_X4_init l E K F G ((q8, .inl (E.2.1 5, 8, .inr (.inr (.inr (.inr (va_up (va_up (va_up (va_up (va_up (va_up (va_up (va_up (fun _ => none) 0 (some q9)) 1 (some q10)) 2 (some q11)) 3 (some q12)) 4 (some q13)) 5 (some q14)) 6 (some q15)) 7 (some q16))))))) :: (a, .inr (11, [.ref q1, .ref q2, .ref q3, .ref q4, .ref q5, .ref q6, .ref q7, .ref q8, .null, .null, .null, .null, .null, .null, .null, .null, .null, .int 0, .int 0])) :: L) q17 0) mi_X4_init rfl km_X10_56 rfl rfl ⟨(Nat.le_of_ble_eq_true rfl), (Nat.le_of_ble_eq_true rfl)⟩ hK (fun _ => XPx.blind) (fun U hU hW => XPx.at hK hA hz hS hT hU hW) rfl hl.1 (Nat.le_of_ble_eq_true rfl) dX10_init_126 ⟨(Nat.le_of_ble_eq_true rfl), (Nat.le_of_ble_eq_true rfl)⟩) hS ?_
  rintro ⟨K, F, G⟩ H locs ⟨g, c_q17, n1⟩ hT hS
  dsimp only at g c_q17 n1 hT
  have hT : TX E K F G ((q8, .inl (E.2.1 5, 8, .inr (.inr (.inr (.inr (va_up (va_up (va_up (va_up (va_up (va_up (va_up (va_up (fun _ => none) 0 (some q9)) 1 (some q10)) 2 (some q11)) 3 (some q12)) 4 (some q13)) 5 (some q14)) 6 (some q15)) 7 (some q16))))))) :: (a, .inr (11, [.ref q1, .ref q2, .ref q3, .ref q4, .ref q5, .ref q6, .ref q7, .ref q8, .null, .null, .null, .null, .null, .null, .null, .null, .null, .int 0, .int 0])) :: L) H := hT
  have hgr := hgr.tr g
  have c_q1 := OBz.gr g (by decide) c_q1
  have c_q2 := RDz.gr g c_q2
  have c_q3 := BKz.gr g c_q3
  have c_q4 := RWz.gr g c_q4
  have c_q5 := RWz.gr g c_q5
  have c_q6 := RWz.gr g c_q6
  have c_q7 := RWz.gr g c_q7
  have c_q9 := RWz.gr g c_q9
  have c_q10 := RWz.gr g c_q10
  have c_q11 := RWz.gr g c_q11
  have c_q12 := RWz.gr g c_q12
  have c_q13 := RWz.gr g c_q13
  have c_q14 := RWz.gr g c_q14
  have c_q15 := RWz.gr g c_q15
  have c_q16 := RWz.gr g c_q16
  have hN : N11 K0 → N11 K := fun h => n1 (hN h)
  have c_q17 : OBz 6 0 K F G q17 := c_q17
  refine tx_putF (C := RX10) (T := TX10) (N := 19) (ci := 11) (ty := (.object "LateRules$Questions")) S hK hT hS inX10 tyX10 tyX10_ok nmX10 1 rfl rfl 8 (by decide) kf_X10_57 rfl hnm rfl (by decide +kernel) rfl rfl (Nat.le_of_ble_eq_true rfl) dX10_init_129 (fun H locs hT hS => ?_)
  have hT : TX E K F G ((q8, .inl (E.2.1 5, 8, .inr (.inr (.inr (.inr (va_up (va_up (va_up (va_up (va_up (va_up (va_up (va_up (fun _ => none) 0 (some q9)) 1 (some q10)) 2 (some q11)) 3 (some q12)) 4 (some q13)) 5 (some q14)) 6 (some q15)) 7 (some q16))))))) :: (a, .inr (11, [.ref q1, .ref q2, .ref q3, .ref q4, .ref q5, .ref q6, .ref q7, .ref q8, .ref q17, .null, .null, .null, .null, .null, .null, .null, .null, .int 0, .int 0])) :: L) H := hT
  refine lv_aload_n hx hb dX10_init_132 rfl (lv_at hl 1 rfl) ?_
  refine tx_new (ci := 5) (fs := [.null, .null, .null, .null, .null, .null, .int 0]) S hK hz hT hS inX4 tyX4 tyX4_ok kn_X10_54 kin_X4.1 kin_X4.2 rfl (by intro j hj; match j, hj with | 0, _ => rfl | 1, _ => rfl | 2, _ => rfl | 3, _ => rfl | 4, _ => rfl | 5, _ => rfl | 6, _ => rfl | j + 7, hj => exact absurd hj (by omega)) (Nat.le_of_ble_eq_true rfl) (Nat.le_of_ble_eq_true rfl) dX10_init_133 (fun q18 H hT hS => ?_)
  refine lv_dup hx hb dX10_init_136 rfl ?_
  refine x_cv (x_runI (b := q18) (As := []) (rest := [.ref q18, .ref a]) S (c_X4_init l E K F G ((q8, .inl (E.2.1 5, 8, .inr (.inr (.inr (.inr (va_up (va_up (va_up (va_up (va_up (va_up (va_up (va_up (fun _ => none) 0 (some q9)) 1 (some q10)) 2 (some q11)) 3 (some q12)) 4 (some q13)) 5 (some q14)) 6 (some q15)) 7 (some q16))))))) :: (a, .inr (11, [.ref q1, .ref q2, .ref q3, .ref q4, .ref q5, .ref q6, .ref q7, .ref q8, .ref q17, .null, .null, .null, .null, .null, .null, .null, .null, .int 0, .int 0])) :: L) q18 1) mi_X4_init rfl km_X10_56 rfl rfl ⟨(Nat.le_of_ble_eq_true rfl), (Nat.le_of_ble_eq_true rfl)⟩ hK (fun _ => XPx.blind) (fun U hU hW => XPx.at hK hA hz hS hT hU hW) rfl hl.1 (Nat.le_of_ble_eq_true rfl) dX10_init_137 ⟨(Nat.le_of_ble_eq_true rfl), (Nat.le_of_ble_eq_true rfl)⟩) hS ?_
  rintro ⟨K, F, G⟩ H locs ⟨g, c_q18, n1⟩ hT hS
  dsimp only at g c_q18 n1 hT
  have hT : TX E K F G ((q8, .inl (E.2.1 5, 8, .inr (.inr (.inr (.inr (va_up (va_up (va_up (va_up (va_up (va_up (va_up (va_up (fun _ => none) 0 (some q9)) 1 (some q10)) 2 (some q11)) 3 (some q12)) 4 (some q13)) 5 (some q14)) 6 (some q15)) 7 (some q16))))))) :: (a, .inr (11, [.ref q1, .ref q2, .ref q3, .ref q4, .ref q5, .ref q6, .ref q7, .ref q8, .ref q17, .null, .null, .null, .null, .null, .null, .null, .null, .int 0, .int 0])) :: L) H := hT
  have hgr := hgr.tr g
  have c_q1 := OBz.gr g (by decide) c_q1
  have c_q2 := RDz.gr g c_q2
  have c_q3 := BKz.gr g c_q3
  have c_q4 := RWz.gr g c_q4
  have c_q5 := RWz.gr g c_q5
  have c_q6 := RWz.gr g c_q6
  have c_q7 := RWz.gr g c_q7
  have c_q9 := RWz.gr g c_q9
  have c_q10 := RWz.gr g c_q10
  have c_q11 := RWz.gr g c_q11
  have c_q12 := RWz.gr g c_q12
  have c_q13 := RWz.gr g c_q13
  have c_q14 := RWz.gr g c_q14
  have c_q15 := RWz.gr g c_q15
  have c_q16 := RWz.gr g c_q16
  have c_q17 := OBz.gr g (by decide) c_q17
  have hN : N11 K0 → N11 K := fun h => n1 (hN h)
  have c_q18 : OBz 6 1 K F G q18 := c_q18
  refine tx_putF (C := RX10) (T := TX10) (N := 19) (ci := 11) (ty := (.object "LateRules$Questions")) S hK hT hS inX10 tyX10 tyX10_ok nmX10 1 rfl rfl 9 (by decide) kf_X10_61 rfl hnm rfl (by decide +kernel) rfl rfl (Nat.le_of_ble_eq_true rfl) dX10_init_140 (fun H locs hT hS => ?_)
  have hT : TX E K F G ((q8, .inl (E.2.1 5, 8, .inr (.inr (.inr (.inr (va_up (va_up (va_up (va_up (va_up (va_up (va_up (va_up (fun _ => none) 0 (some q9)) 1 (some q10)) 2 (some q11)) 3 (some q12)) 4 (some q13)) 5 (some q14)) 6 (some q15)) 7 (some q16))))))) :: (a, .inr (11, [.ref q1, .ref q2, .ref q3, .ref q4, .ref q5, .ref q6, .ref q7, .ref q8, .ref q17, .ref q18, .null, .null, .null, .null, .null, .null, .null, .int 0, .int 0])) :: L) H := hT
  refine lv_aload_n hx hb dX10_init_143 rfl (lv_at hl 1 rfl) ?_
  refine tx_new (ci := 5) (fs := [.null, .null, .null, .null, .null, .null, .int 0]) S hK hz hT hS inX4 tyX4 tyX4_ok kn_X10_54 kin_X4.1 kin_X4.2 rfl (by intro j hj; match j, hj with | 0, _ => rfl | 1, _ => rfl | 2, _ => rfl | 3, _ => rfl | 4, _ => rfl | 5, _ => rfl | 6, _ => rfl | j + 7, hj => exact absurd hj (by omega)) (Nat.le_of_ble_eq_true rfl) (Nat.le_of_ble_eq_true rfl) dX10_init_144 (fun q19 H hT hS => ?_)
  refine lv_dup hx hb dX10_init_147 rfl ?_
  refine x_cv (x_runI (b := q19) (As := []) (rest := [.ref q19, .ref a]) S (c_X4_init l E K F G ((q8, .inl (E.2.1 5, 8, .inr (.inr (.inr (.inr (va_up (va_up (va_up (va_up (va_up (va_up (va_up (va_up (fun _ => none) 0 (some q9)) 1 (some q10)) 2 (some q11)) 3 (some q12)) 4 (some q13)) 5 (some q14)) 6 (some q15)) 7 (some q16))))))) :: (a, .inr (11, [.ref q1, .ref q2, .ref q3, .ref q4, .ref q5, .ref q6, .ref q7, .ref q8, .ref q17, .ref q18, .null, .null, .null, .null, .null, .null, .null, .int 0, .int 0])) :: L) q19 2) mi_X4_init rfl km_X10_56 rfl rfl ⟨(Nat.le_of_ble_eq_true rfl), (Nat.le_of_ble_eq_true rfl)⟩ hK (fun _ => XPx.blind) (fun U hU hW => XPx.at hK hA hz hS hT hU hW) rfl hl.1 (Nat.le_of_ble_eq_true rfl) dX10_init_148 ⟨(Nat.le_of_ble_eq_true rfl), (Nat.le_of_ble_eq_true rfl)⟩) hS ?_
  rintro ⟨K, F, G⟩ H locs ⟨g, c_q19, n1⟩ hT hS
  dsimp only at g c_q19 n1 hT
  have hT : TX E K F G ((q8, .inl (E.2.1 5, 8, .inr (.inr (.inr (.inr (va_up (va_up (va_up (va_up (va_up (va_up (va_up (va_up (fun _ => none) 0 (some q9)) 1 (some q10)) 2 (some q11)) 3 (some q12)) 4 (some q13)) 5 (some q14)) 6 (some q15)) 7 (some q16))))))) :: (a, .inr (11, [.ref q1, .ref q2, .ref q3, .ref q4, .ref q5, .ref q6, .ref q7, .ref q8, .ref q17, .ref q18, .null, .null, .null, .null, .null, .null, .null, .int 0, .int 0])) :: L) H := hT
  have hgr := hgr.tr g
  have c_q1 := OBz.gr g (by decide) c_q1
  have c_q2 := RDz.gr g c_q2
  have c_q3 := BKz.gr g c_q3
  have c_q4 := RWz.gr g c_q4
  have c_q5 := RWz.gr g c_q5
  have c_q6 := RWz.gr g c_q6
  have c_q7 := RWz.gr g c_q7
  have c_q9 := RWz.gr g c_q9
  have c_q10 := RWz.gr g c_q10
  have c_q11 := RWz.gr g c_q11
  have c_q12 := RWz.gr g c_q12
  have c_q13 := RWz.gr g c_q13
  have c_q14 := RWz.gr g c_q14
  have c_q15 := RWz.gr g c_q15
  have c_q16 := RWz.gr g c_q16
  have c_q17 := OBz.gr g (by decide) c_q17
  have c_q18 := OBz.gr g (by decide) c_q18
  have hN : N11 K0 → N11 K := fun h => n1 (hN h)
  have c_q19 : OBz 6 2 K F G q19 := c_q19
  refine tx_putF (C := RX10) (T := TX10) (N := 19) (ci := 11) (ty := (.object "LateRules$Questions")) S hK hT hS inX10 tyX10 tyX10_ok nmX10 1 rfl rfl 10 (by decide) kf_X10_64 rfl hnm rfl (by decide +kernel) rfl rfl (Nat.le_of_ble_eq_true rfl) dX10_init_151 (fun H locs hT hS => ?_)
  have hT : TX E K F G ((q8, .inl (E.2.1 5, 8, .inr (.inr (.inr (.inr (va_up (va_up (va_up (va_up (va_up (va_up (va_up (va_up (fun _ => none) 0 (some q9)) 1 (some q10)) 2 (some q11)) 3 (some q12)) 4 (some q13)) 5 (some q14)) 6 (some q15)) 7 (some q16))))))) :: (a, .inr (11, [.ref q1, .ref q2, .ref q3, .ref q4, .ref q5, .ref q6, .ref q7, .ref q8, .ref q17, .ref q18, .ref q19, .null, .null, .null, .null, .null, .null, .int 0, .int 0])) :: L) H := hT
  refine lv_aload_n hx hb dX10_init_154 rfl (lv_at hl 1 rfl) ?_
  refine tx_new (ci := 2) (fs := [.null, .null, .null, .int 0]) S hK hz hT hS inX1 tyX1 tyX1_ok kn_X10_67 kin_X1.1 kin_X1.2 rfl (by intro j hj; match j, hj with | 0, _ => rfl | 1, _ => rfl | 2, _ => rfl | 3, _ => rfl | j + 4, hj => exact absurd hj (by omega)) (Nat.le_of_ble_eq_true rfl) (Nat.le_of_ble_eq_true rfl) dX10_init_155 (fun q20 H hT hS => ?_)
  refine lv_dup hx hb dX10_init_158 rfl ?_
  refine x_cv (x_runI (b := q20) (As := []) (rest := [.ref q20, .ref a]) S (c_X1_init l E K F G ((q8, .inl (E.2.1 5, 8, .inr (.inr (.inr (.inr (va_up (va_up (va_up (va_up (va_up (va_up (va_up (va_up (fun _ => none) 0 (some q9)) 1 (some q10)) 2 (some q11)) 3 (some q12)) 4 (some q13)) 5 (some q14)) 6 (some q15)) 7 (some q16))))))) :: (a, .inr (11, [.ref q1, .ref q2, .ref q3, .ref q4, .ref q5, .ref q6, .ref q7, .ref q8, .ref q17, .ref q18, .ref q19, .null, .null, .null, .null, .null, .null, .int 0, .int 0])) :: L) q20) mi_X1_init rfl km_X10_69 rfl rfl ⟨(Nat.le_of_ble_eq_true rfl), (Nat.le_of_ble_eq_true rfl)⟩ hK (fun _ => XPx.blind) (fun U hU hW => XPx.at hK hA hz hS hT hU hW) rfl hl.1 (Nat.le_of_ble_eq_true rfl) dX10_init_159 ⟨(Nat.le_of_ble_eq_true rfl), (Nat.le_of_ble_eq_true rfl)⟩) hS ?_
  rintro ⟨K, F, G⟩ H locs ⟨g, c_q20, n1⟩ hT hS
  dsimp only at g c_q20 n1 hT
  have hT : TX E K F G ((q8, .inl (E.2.1 5, 8, .inr (.inr (.inr (.inr (va_up (va_up (va_up (va_up (va_up (va_up (va_up (va_up (fun _ => none) 0 (some q9)) 1 (some q10)) 2 (some q11)) 3 (some q12)) 4 (some q13)) 5 (some q14)) 6 (some q15)) 7 (some q16))))))) :: (a, .inr (11, [.ref q1, .ref q2, .ref q3, .ref q4, .ref q5, .ref q6, .ref q7, .ref q8, .ref q17, .ref q18, .ref q19, .null, .null, .null, .null, .null, .null, .int 0, .int 0])) :: L) H := hT
  have hgr := hgr.tr g
  have c_q1 := OBz.gr g (by decide) c_q1
  have c_q2 := RDz.gr g c_q2
  have c_q3 := BKz.gr g c_q3
  have c_q4 := RWz.gr g c_q4
  have c_q5 := RWz.gr g c_q5
  have c_q6 := RWz.gr g c_q6
  have c_q7 := RWz.gr g c_q7
  have c_q9 := RWz.gr g c_q9
  have c_q10 := RWz.gr g c_q10
  have c_q11 := RWz.gr g c_q11
  have c_q12 := RWz.gr g c_q12
  have c_q13 := RWz.gr g c_q13
  have c_q14 := RWz.gr g c_q14
  have c_q15 := RWz.gr g c_q15
  have c_q16 := RWz.gr g c_q16
  have c_q17 := OBz.gr g (by decide) c_q17
  have c_q18 := OBz.gr g (by decide) c_q18
  have c_q19 := OBz.gr g (by decide) c_q19
  have hN : N11 K0 → N11 K := fun h => n1 (hN h)
  have c_q20 : KNo 3 0 K F q20 := c_q20
  refine tx_putF (C := RX10) (T := TX10) (N := 19) (ci := 11) (ty := (.object "LateRules$Comparison")) S hK hT hS inX10 tyX10 tyX10_ok nmX10 1 rfl rfl 11 (by decide) kf_X10_70 rfl hnm rfl (by decide +kernel) rfl rfl (Nat.le_of_ble_eq_true rfl) dX10_init_162 (fun H locs hT hS => ?_)
  have hT : TX E K F G ((q8, .inl (E.2.1 5, 8, .inr (.inr (.inr (.inr (va_up (va_up (va_up (va_up (va_up (va_up (va_up (va_up (fun _ => none) 0 (some q9)) 1 (some q10)) 2 (some q11)) 3 (some q12)) 4 (some q13)) 5 (some q14)) 6 (some q15)) 7 (some q16))))))) :: (a, .inr (11, [.ref q1, .ref q2, .ref q3, .ref q4, .ref q5, .ref q6, .ref q7, .ref q8, .ref q17, .ref q18, .ref q19, .ref q20, .null, .null, .null, .null, .null, .int 0, .int 0])) :: L) H := hT
  refine lv_aload_n hx hb dX10_init_165 rfl (lv_at hl 1 rfl) ?_
  refine tx_new (ci := 3) (fs := [.null, .null, .null, .null, .int 0]) S hK hz hT hS inX2 tyX2 tyX2_ok kn_X10_74 kin_X2.1 kin_X2.2 rfl (by intro j hj; match j, hj with | 0, _ => rfl | 1, _ => rfl | 2, _ => rfl | 3, _ => rfl | 4, _ => rfl | j + 5, hj => exact absurd hj (by omega)) (Nat.le_of_ble_eq_true rfl) (Nat.le_of_ble_eq_true rfl) dX10_init_166 (fun q21 H hT hS => ?_)
  refine lv_dup hx hb dX10_init_169 rfl ?_
  refine x_cv (x_runI (b := q21) (As := []) (rest := [.ref q21, .ref a]) S (c_X2_init l E K F G ((q8, .inl (E.2.1 5, 8, .inr (.inr (.inr (.inr (va_up (va_up (va_up (va_up (va_up (va_up (va_up (va_up (fun _ => none) 0 (some q9)) 1 (some q10)) 2 (some q11)) 3 (some q12)) 4 (some q13)) 5 (some q14)) 6 (some q15)) 7 (some q16))))))) :: (a, .inr (11, [.ref q1, .ref q2, .ref q3, .ref q4, .ref q5, .ref q6, .ref q7, .ref q8, .ref q17, .ref q18, .ref q19, .ref q20, .null, .null, .null, .null, .null, .int 0, .int 0])) :: L) q21) mi_X2_init rfl km_X10_76 rfl rfl ⟨(Nat.le_of_ble_eq_true rfl), (Nat.le_of_ble_eq_true rfl)⟩ hK (fun _ => XPx.blind) (fun U hU hW => XPx.at hK hA hz hS hT hU hW) rfl hl.1 (Nat.le_of_ble_eq_true rfl) dX10_init_170 ⟨(Nat.le_of_ble_eq_true rfl), (Nat.le_of_ble_eq_true rfl)⟩) hS ?_
  rintro ⟨K, F, G⟩ H locs ⟨g, c_q21, n1⟩ hT hS
  dsimp only at g c_q21 n1 hT
  have hT : TX E K F G ((q8, .inl (E.2.1 5, 8, .inr (.inr (.inr (.inr (va_up (va_up (va_up (va_up (va_up (va_up (va_up (va_up (fun _ => none) 0 (some q9)) 1 (some q10)) 2 (some q11)) 3 (some q12)) 4 (some q13)) 5 (some q14)) 6 (some q15)) 7 (some q16))))))) :: (a, .inr (11, [.ref q1, .ref q2, .ref q3, .ref q4, .ref q5, .ref q6, .ref q7, .ref q8, .ref q17, .ref q18, .ref q19, .ref q20, .null, .null, .null, .null, .null, .int 0, .int 0])) :: L) H := hT
  have hgr := hgr.tr g
  have c_q1 := OBz.gr g (by decide) c_q1
  have c_q2 := RDz.gr g c_q2
  have c_q3 := BKz.gr g c_q3
  have c_q4 := RWz.gr g c_q4
  have c_q5 := RWz.gr g c_q5
  have c_q6 := RWz.gr g c_q6
  have c_q7 := RWz.gr g c_q7
  have c_q9 := RWz.gr g c_q9
  have c_q10 := RWz.gr g c_q10
  have c_q11 := RWz.gr g c_q11
  have c_q12 := RWz.gr g c_q12
  have c_q13 := RWz.gr g c_q13
  have c_q14 := RWz.gr g c_q14
  have c_q15 := RWz.gr g c_q15
  have c_q16 := RWz.gr g c_q16
  have c_q17 := OBz.gr g (by decide) c_q17
  have c_q18 := OBz.gr g (by decide) c_q18
  have c_q19 := OBz.gr g (by decide) c_q19
  have c_q20 := KNo.gr g (by decide) c_q20
  have hN : N11 K0 → N11 K := fun h => n1 (hN h)
  have c_q21 : KNo 4 0 K F q21 := c_q21
  refine tx_putF (C := RX10) (T := TX10) (N := 19) (ci := 11) (ty := (.object "LateRules$Followers")) S hK hT hS inX10 tyX10 tyX10_ok nmX10 1 rfl rfl 12 (by decide) kf_X10_77 rfl hnm rfl (by decide +kernel) rfl rfl (Nat.le_of_ble_eq_true rfl) dX10_init_173 (fun H locs hT hS => ?_)
  have hT : TX E K F G ((q8, .inl (E.2.1 5, 8, .inr (.inr (.inr (.inr (va_up (va_up (va_up (va_up (va_up (va_up (va_up (va_up (fun _ => none) 0 (some q9)) 1 (some q10)) 2 (some q11)) 3 (some q12)) 4 (some q13)) 5 (some q14)) 6 (some q15)) 7 (some q16))))))) :: (a, .inr (11, [.ref q1, .ref q2, .ref q3, .ref q4, .ref q5, .ref q6, .ref q7, .ref q8, .ref q17, .ref q18, .ref q19, .ref q20, .ref q21, .null, .null, .null, .null, .int 0, .int 0])) :: L) H := hT
  refine lv_aload_n hx hb dX10_init_176 rfl (lv_at hl 1 rfl) ?_
  refine tx_new (ci := 4) (fs := [.null, .null, .null, .int 0]) S hK hz hT hS inX3 tyX3 tyX3_ok kn_X10_81 kin_X3.1 kin_X3.2 rfl (by intro j hj; match j, hj with | 0, _ => rfl | 1, _ => rfl | 2, _ => rfl | 3, _ => rfl | j + 4, hj => exact absurd hj (by omega)) (Nat.le_of_ble_eq_true rfl) (Nat.le_of_ble_eq_true rfl) dX10_init_177 (fun q22 H hT hS => ?_)
  refine lv_dup hx hb dX10_init_180 rfl ?_
  refine x_cv (x_runI (b := q22) (As := []) (rest := [.ref q22, .ref a]) S (c_X3_init l E K F G ((q8, .inl (E.2.1 5, 8, .inr (.inr (.inr (.inr (va_up (va_up (va_up (va_up (va_up (va_up (va_up (va_up (fun _ => none) 0 (some q9)) 1 (some q10)) 2 (some q11)) 3 (some q12)) 4 (some q13)) 5 (some q14)) 6 (some q15)) 7 (some q16))))))) :: (a, .inr (11, [.ref q1, .ref q2, .ref q3, .ref q4, .ref q5, .ref q6, .ref q7, .ref q8, .ref q17, .ref q18, .ref q19, .ref q20, .ref q21, .null, .null, .null, .null, .int 0, .int 0])) :: L) q22) mi_X3_init rfl km_X10_83 rfl rfl ⟨(Nat.le_of_ble_eq_true rfl), (Nat.le_of_ble_eq_true rfl)⟩ hK (fun _ => XPx.blind) (fun U hU hW => XPx.at hK hA hz hS hT hU hW) rfl hl.1 (Nat.le_of_ble_eq_true rfl) dX10_init_181 ⟨(Nat.le_of_ble_eq_true rfl), (Nat.le_of_ble_eq_true rfl)⟩) hS ?_
  rintro ⟨K, F, G⟩ H locs ⟨g, c_q22, n1⟩ hT hS
  dsimp only at g c_q22 n1 hT
  have hT : TX E K F G ((q8, .inl (E.2.1 5, 8, .inr (.inr (.inr (.inr (va_up (va_up (va_up (va_up (va_up (va_up (va_up (va_up (fun _ => none) 0 (some q9)) 1 (some q10)) 2 (some q11)) 3 (some q12)) 4 (some q13)) 5 (some q14)) 6 (some q15)) 7 (some q16))))))) :: (a, .inr (11, [.ref q1, .ref q2, .ref q3, .ref q4, .ref q5, .ref q6, .ref q7, .ref q8, .ref q17, .ref q18, .ref q19, .ref q20, .ref q21, .null, .null, .null, .null, .int 0, .int 0])) :: L) H := hT
  have hgr := hgr.tr g
  have c_q1 := OBz.gr g (by decide) c_q1
  have c_q2 := RDz.gr g c_q2
  have c_q3 := BKz.gr g c_q3
  have c_q4 := RWz.gr g c_q4
  have c_q5 := RWz.gr g c_q5
  have c_q6 := RWz.gr g c_q6
  have c_q7 := RWz.gr g c_q7
  have c_q9 := RWz.gr g c_q9
  have c_q10 := RWz.gr g c_q10
  have c_q11 := RWz.gr g c_q11
  have c_q12 := RWz.gr g c_q12
  have c_q13 := RWz.gr g c_q13
  have c_q14 := RWz.gr g c_q14
  have c_q15 := RWz.gr g c_q15
  have c_q16 := RWz.gr g c_q16
  have c_q17 := OBz.gr g (by decide) c_q17
  have c_q18 := OBz.gr g (by decide) c_q18
  have c_q19 := OBz.gr g (by decide) c_q19
  have c_q20 := KNo.gr g (by decide) c_q20
  have c_q21 := KNo.gr g (by decide) c_q21
  have hN : N11 K0 → N11 K := fun h => n1 (hN h)
  have c_q22 : KNo 5 0 K F q22 := c_q22
  refine tx_putF (C := RX10) (T := TX10) (N := 19) (ci := 11) (ty := (.object "LateRules$Leaners")) S hK hT hS inX10 tyX10 tyX10_ok nmX10 1 rfl rfl 13 (by decide) kf_X10_84 rfl hnm rfl (by decide +kernel) rfl rfl (Nat.le_of_ble_eq_true rfl) dX10_init_184 (fun H locs hT hS => ?_)
  have hT : TX E K F G ((q8, .inl (E.2.1 5, 8, .inr (.inr (.inr (.inr (va_up (va_up (va_up (va_up (va_up (va_up (va_up (va_up (fun _ => none) 0 (some q9)) 1 (some q10)) 2 (some q11)) 3 (some q12)) 4 (some q13)) 5 (some q14)) 6 (some q15)) 7 (some q16))))))) :: (a, .inr (11, [.ref q1, .ref q2, .ref q3, .ref q4, .ref q5, .ref q6, .ref q7, .ref q8, .ref q17, .ref q18, .ref q19, .ref q20, .ref q21, .ref q22, .null, .null, .null, .int 0, .int 0])) :: L) H := hT
  refine lv_aload_n hx hb dX10_init_187 rfl (lv_at hl 1 rfl) ?_
  refine tx_new (ci := 10) (fs := [.null, .int 0, .int 0, .int 0]) S hK hz hT hS inX9 tyX9 tyX9_ok kn_X10_88 kin_X9.1 kin_X9.2 rfl (by intro j hj; match j, hj with | 0, _ => rfl | 1, _ => rfl | 2, _ => rfl | 3, _ => rfl | j + 4, hj => exact absurd hj (by omega)) (Nat.le_of_ble_eq_true rfl) (Nat.le_of_ble_eq_true rfl) dX10_init_188 (fun q23 H hT hS => ?_)
  refine lv_dup hx hb dX10_init_191 rfl ?_
  refine x_cv (x_runI (b := q23) (As := []) (rest := [.ref q23, .ref a]) S (c_X9_init l E K F G ((q8, .inl (E.2.1 5, 8, .inr (.inr (.inr (.inr (va_up (va_up (va_up (va_up (va_up (va_up (va_up (va_up (fun _ => none) 0 (some q9)) 1 (some q10)) 2 (some q11)) 3 (some q12)) 4 (some q13)) 5 (some q14)) 6 (some q15)) 7 (some q16))))))) :: (a, .inr (11, [.ref q1, .ref q2, .ref q3, .ref q4, .ref q5, .ref q6, .ref q7, .ref q8, .ref q17, .ref q18, .ref q19, .ref q20, .ref q21, .ref q22, .null, .null, .null, .int 0, .int 0])) :: L) q23) mi_X9_init rfl km_X10_90 rfl rfl ⟨(Nat.le_of_ble_eq_true rfl), (Nat.le_of_ble_eq_true rfl)⟩ hK (fun _ => XPx.blind) (fun U hU hW => XPx.at hK hA hz hS hT hU hW) rfl hl.1 (Nat.le_of_ble_eq_true rfl) dX10_init_192 ⟨(Nat.le_of_ble_eq_true rfl), (Nat.le_of_ble_eq_true rfl)⟩) hS ?_
  rintro ⟨q24, q25⟩ H locs - hT hS
  have hT : TX E K F G ((q23, .inr (10, [.ref q24, .int 0, .int 0, .int 0])) :: (q24, .inr (0, [.ref q25, .int 0, .int 0, .int 0])) :: (q25, .inl (E.2.1 2, 16, .inl (fun _ => 0))) :: (q8, .inl (E.2.1 5, 8, .inr (.inr (.inr (.inr (va_up (va_up (va_up (va_up (va_up (va_up (va_up (va_up (fun _ => none) 0 (some q9)) 1 (some q10)) 2 (some q11)) 3 (some q12)) 4 (some q13)) 5 (some q14)) 6 (some q15)) 7 (some q16))))))) :: (a, .inr (11, [.ref q1, .ref q2, .ref q3, .ref q4, .ref q5, .ref q6, .ref q7, .ref q8, .ref q17, .ref q18, .ref q19, .ref q20, .ref q21, .ref q22, .null, .null, .null, .int 0, .int 0])) :: L) H := hT
  refine tx_putF (C := RX10) (T := TX10) (N := 19) (ci := 11) (ty := (.object "LateRules$Verdict")) S hK hT hS inX10 tyX10 tyX10_ok nmX10 4 rfl rfl 14 (by decide) kf_X10_91 rfl hnm rfl (by decide +kernel) rfl rfl (Nat.le_of_ble_eq_true rfl) dX10_init_195 (fun H locs hT hS => ?_)
  have hT : TX E K F G ((q23, .inr (10, [.ref q24, .int 0, .int 0, .int 0])) :: (q24, .inr (0, [.ref q25, .int 0, .int 0, .int 0])) :: (q25, .inl (E.2.1 2, 16, .inl (fun _ => 0))) :: (q8, .inl (E.2.1 5, 8, .inr (.inr (.inr (.inr (va_up (va_up (va_up (va_up (va_up (va_up (va_up (va_up (fun _ => none) 0 (some q9)) 1 (some q10)) 2 (some q11)) 3 (some q12)) 4 (some q13)) 5 (some q14)) 6 (some q15)) 7 (some q16))))))) :: (a, .inr (11, [.ref q1, .ref q2, .ref q3, .ref q4, .ref q5, .ref q6, .ref q7, .ref q8, .ref q17, .ref q18, .ref q19, .ref q20, .ref q21, .ref q22, .ref q23, .null, .null, .int 0, .int 0])) :: L) H := hT
  refine lv_aload_n hx hb dX10_init_198 rfl (lv_at hl 1 rfl) ?_
  refine lv_bipush (v := 6) hx hb dX10_init_199 (by decide) ?_
  refine tx_na0 S hK hz hT hS (N := 6) (by decide) (by decide) (Nat.le_of_ble_eq_true rfl) (Nat.le_of_ble_eq_true rfl) (Nat.le_of_ble_eq_true rfl) dX10_init_201 (fun q26 H hT hS => ?_)
  refine tx_putF (C := RX10) (T := TX10) (N := 19) (ci := 11) (ty := (.array .int)) S hK hT hS inX10 tyX10 tyX10_ok nmX10 5 rfl rfl 15 (by decide) kf_X10_95 rfl hnm rfl (by decide +kernel) rfl rfl (Nat.le_of_ble_eq_true rfl) dX10_init_203 (fun H locs hT hS => ?_)
  have hT : TX E K F G ((q26, .inl (E.2.1 0, 6, .inl (fun _ => 0))) :: (q23, .inr (10, [.ref q24, .int 0, .int 0, .int 0])) :: (q24, .inr (0, [.ref q25, .int 0, .int 0, .int 0])) :: (q25, .inl (E.2.1 2, 16, .inl (fun _ => 0))) :: (q8, .inl (E.2.1 5, 8, .inr (.inr (.inr (.inr (va_up (va_up (va_up (va_up (va_up (va_up (va_up (va_up (fun _ => none) 0 (some q9)) 1 (some q10)) 2 (some q11)) 3 (some q12)) 4 (some q13)) 5 (some q14)) 6 (some q15)) 7 (some q16))))))) :: (a, .inr (11, [.ref q1, .ref q2, .ref q3, .ref q4, .ref q5, .ref q6, .ref q7, .ref q8, .ref q17, .ref q18, .ref q19, .ref q20, .ref q21, .ref q22, .ref q23, .ref q26, .null, .int 0, .int 0])) :: L) H := hT
  refine lv_aload_n hx hb dX10_init_206 rfl (lv_at hl 1 rfl) ?_
  refine lv_iconst (v := 4) hx hb dX10_init_207 (by decide) ?_
  refine tx_na0 S hK hz hT hS (N := 4) (by decide) (by decide) (Nat.le_of_ble_eq_true rfl) (Nat.le_of_ble_eq_true rfl) (Nat.le_of_ble_eq_true rfl) dX10_init_208 (fun q27 H hT hS => ?_)
  refine tx_putF (C := RX10) (T := TX10) (N := 19) (ci := 11) (ty := (.array .int)) S hK hT hS inX10 tyX10 tyX10_ok nmX10 6 rfl rfl 16 (by decide) kf_X10_99 rfl hnm rfl (by decide +kernel) rfl rfl (Nat.le_of_ble_eq_true rfl) dX10_init_210 (fun H locs hT hS => ?_)
  have hT : TX E K F G ((q27, .inl (E.2.1 0, 4, .inl (fun _ => 0))) :: (q26, .inl (E.2.1 0, 6, .inl (fun _ => 0))) :: (q23, .inr (10, [.ref q24, .int 0, .int 0, .int 0])) :: (q24, .inr (0, [.ref q25, .int 0, .int 0, .int 0])) :: (q25, .inl (E.2.1 2, 16, .inl (fun _ => 0))) :: (q8, .inl (E.2.1 5, 8, .inr (.inr (.inr (.inr (va_up (va_up (va_up (va_up (va_up (va_up (va_up (va_up (fun _ => none) 0 (some q9)) 1 (some q10)) 2 (some q11)) 3 (some q12)) 4 (some q13)) 5 (some q14)) 6 (some q15)) 7 (some q16))))))) :: (a, .inr (11, [.ref q1, .ref q2, .ref q3, .ref q4, .ref q5, .ref q6, .ref q7, .ref q8, .ref q17, .ref q18, .ref q19, .ref q20, .ref q21, .ref q22, .ref q23, .ref q26, .ref q27, .int 0, .int 0])) :: L) H := hT
  obtain ⟨K, F, G, g, hall, n1, hT⟩ := TX.cls (L := ((q23, .inr (10, [.ref q24, .int 0, .int 0, .int 0])) :: (q24, .inr (0, [.ref q25, .int 0, .int 0, .int 0])) :: (q25, .inl (E.2.1 2, 16, .inl (fun _ => 0))) :: (q8, .inl (E.2.1 5, 8, .inr (.inr (.inr (.inr (va_up (va_up (va_up (va_up (va_up (va_up (va_up (va_up (fun _ => none) 0 (some q9)) 1 (some q10)) 2 (some q11)) 3 (some q12)) 4 (some q13)) 5 (some q14)) 6 (some q15)) 7 (some q16))))))) :: (a, .inr (11, [.ref q1, .ref q2, .ref q3, .ref q4, .ref q5, .ref q6, .ref q7, .ref q8, .ref q17, .ref q18, .ref q19, .ref q20, .ref q21, .ref q22, .ref q23, .ref q26, .ref q27, .int 0, .int 0])) :: L)) [(q27, 27, 0, 0, 4, (fun _ => 0)), (q26, 26, 0, 0, 6, (fun _ => 0))] hT (List.forall_mem_cons.mpr ⟨⟨(show (27 : Nat) ≠ 0 by decide), (show (27 : Nat) ≠ 11 by decide), fun _ _ _ _ _ => ⟨0, 4, rfl, rfl, (fun _ => trivial)⟩⟩, List.forall_mem_cons.mpr ⟨⟨(show (26 : Nat) ≠ 0 by decide), (show (26 : Nat) ≠ 11 by decide), fun _ _ _ _ _ => ⟨0, 6, rfl, rfl, (fun _ => trivial)⟩⟩, List.forall_mem_nil _⟩⟩)
  have hgr := hgr.tr g
  have c_q1 := OBz.gr g (by decide) c_q1
  have c_q2 := RDz.gr g c_q2
  have c_q3 := BKz.gr g c_q3
  have c_q4 := RWz.gr g c_q4
  have c_q5 := RWz.gr g c_q5
  have c_q6 := RWz.gr g c_q6
  have c_q7 := RWz.gr g c_q7
  have c_q9 := RWz.gr g c_q9
  have c_q10 := RWz.gr g c_q10
  have c_q11 := RWz.gr g c_q11
  have c_q12 := RWz.gr g c_q12
  have c_q13 := RWz.gr g c_q13
  have c_q14 := RWz.gr g c_q14
  have c_q15 := RWz.gr g c_q15
  have c_q16 := RWz.gr g c_q16
  have c_q17 := OBz.gr g (by decide) c_q17
  have c_q18 := OBz.gr g (by decide) c_q18
  have c_q19 := OBz.gr g (by decide) c_q19
  have c_q20 := KNo.gr g (by decide) c_q20
  have c_q21 := KNo.gr g (by decide) c_q21
  have c_q22 := KNo.gr g (by decide) c_q22
  have hN : N11 K0 → N11 K := fun h => n1 (hN h)
  have a_q27 : K q27 = 27 ∧ F q27 99 = 0 ∧ G.2.1 q27 = (fun _ => 0) := hall _ (List.mem_of_getElem? (i := 0) rfl)
  have a_q26 : K q26 = 26 ∧ F q26 99 = 0 ∧ G.2.1 q26 = (fun _ => 0) := hall _ (List.mem_of_getElem? (i := 1) rfl)
  have hT := TX.vd q24 (by rw [eK] at hN; exact hN hN9) hT
  obtain ⟨E9, eE⟩ : ∃ E9 : XE, E9 = (E.1, E.2.1, E.2.2.1, q24, E.2.2.2.2) := ⟨_, rfl⟩
  have hT : TX E9 K F G ((q23, .inr (10, [.ref q24, .int 0, .int 0, .int 0])) :: (q24, .inr (0, [.ref q25, .int 0, .int 0, .int 0])) :: (q25, .inl (E.2.1 2, 16, .inl (fun _ => 0))) :: (q8, .inl (E.2.1 5, 8, .inr (.inr (.inr (.inr (va_up (va_up (va_up (va_up (va_up (va_up (va_up (va_up (fun _ => none) 0 (some q9)) 1 (some q10)) 2 (some q11)) 3 (some q12)) 4 (some q13)) 5 (some q14)) 6 (some q15)) 7 (some q16))))))) :: (a, .inr (11, [.ref q1, .ref q2, .ref q3, .ref q4, .ref q5, .ref q6, .ref q7, .ref q8, .ref q17, .ref q18, .ref q19, .ref q20, .ref q21, .ref q22, .ref q23, .ref q26, .ref q27, .int 0, .int 0])) :: L) H := by rw [eE]; exact hT
  have e5 : E9.2.2.2.1 = q24 := by rw [eE]
  have e6 : E9.2.1 = E.2.1 := by rw [eE]
  obtain ⟨K, F, G, g, k_vd, f_vd, -, -, -, -, hT⟩ := TX.cl (a := q23) hT 11 (fvx 0 []) (fun _ => 0) (fun _ => 0) (fun _ => none) (by decide) (fun K1 F1 hM hFF hF => ⟨by rw [e5] <;> rfl, Or.inl rfl⟩)
  have hgr := hgr.tr g
  have c_q1 := OBz.gr g (by decide) c_q1
  have c_q2 := RDz.gr g c_q2
  have c_q3 := BKz.gr g c_q3
  have c_q4 := RWz.gr g c_q4
  have c_q5 := RWz.gr g c_q5
  have c_q6 := RWz.gr g c_q6
  have c_q7 := RWz.gr g c_q7
  have c_q9 := RWz.gr g c_q9
  have c_q10 := RWz.gr g c_q10
  have c_q11 := RWz.gr g c_q11
  have c_q12 := RWz.gr g c_q12
  have c_q13 := RWz.gr g c_q13
  have c_q14 := RWz.gr g c_q14
  have c_q15 := RWz.gr g c_q15
  have c_q16 := RWz.gr g c_q16
  have c_q17 := OBz.gr g (by decide) c_q17
  have c_q18 := OBz.gr g (by decide) c_q18
  have c_q19 := OBz.gr g (by decide) c_q19
  have c_q20 := KNo.gr g (by decide) c_q20
  have c_q21 := KNo.gr g (by decide) c_q21
  have c_q22 := KNo.gr g (by decide) c_q22
  have a_q27 : K q27 = 27 ∧ F q27 99 = 0 ∧ G.2.1 q27 = (fun _ => 0) := ⟨g.k a_q27.1 (by decide), by rw [(g.at a_q27.1 (by decide)).1]; exact a_q27.2.1, (g.at a_q27.1 (by decide)).2.2.1.trans a_q27.2.2⟩
  have a_q26 : K q26 = 26 ∧ F q26 99 = 0 ∧ G.2.1 q26 = (fun _ => 0) := ⟨g.k a_q26.1 (by decide), by rw [(g.at a_q26.1 (by decide)).1]; exact a_q26.2.1, (g.at a_q26.1 (by decide)).2.2.1.trans a_q26.2.2⟩
  have c_vd : KNo 11 0 K F q23 := ⟨k_vd, by rw [f_vd]; rfl⟩
  have hT := hT.rot
  have hT : TX E9 K F G ((q8, .inl (E.2.1 5, 8, .inr (.inr (.inr (.inr (va_up (va_up (va_up (va_up (va_up (va_up (va_up (va_up (fun _ => none) 0 (some q9)) 1 (some q10)) 2 (some q11)) 3 (some q12)) 4 (some q13)) 5 (some q14)) 6 (some q15)) 7 (some q16))))))) :: (q24, .inr (0, [.ref q25, .int 0, .int 0, .int 0])) :: (q25, .inl (E.2.1 2, 16, .inl (fun _ => 0))) :: (a, .inr (11, [.ref q1, .ref q2, .ref q3, .ref q4, .ref q5, .ref q6, .ref q7, .ref q8, .ref q17, .ref q18, .ref q19, .ref q20, .ref q21, .ref q22, .ref q23, .ref q26, .ref q27, .int 0, .int 0])) :: L) H := hT
  obtain ⟨K, F, G, g, k_mk, f_mk, -, -, r_mk, -, hT⟩ := TX.cl (a := q8) hT 16 (fvx 0 []) (fun _ => 0) (fun _ => 0) (va_up (va_up (va_up (va_up (va_up (va_up (va_up (va_up (fun _ => none) 0 (some q9)) 1 (some q10)) 2 (some q11)) 3 (some q12)) 4 (some q13)) 5 (some q14)) 6 (some q15)) 7 (some q16)) (by decide) (fun K1 F1 hM hFF hF => ⟨by rw [e6] <;> rfl, fun i hi => by match i, hi with | 0, _ => exact ⟨q9, rfl, hM _ _ c_q9.1 (by decide), (congrFun (hFF q9 (by rw [c_q9.1]; decide)) 99).trans c_q9.2.1⟩ | 1, _ => exact ⟨q10, rfl, hM _ _ c_q10.1 (by decide), (congrFun (hFF q10 (by rw [c_q10.1]; decide)) 99).trans c_q10.2.1⟩ | 2, _ => exact ⟨q11, rfl, hM _ _ c_q11.1 (by decide), (congrFun (hFF q11 (by rw [c_q11.1]; decide)) 99).trans c_q11.2.1⟩ | 3, _ => exact ⟨q12, rfl, hM _ _ c_q12.1 (by decide), (congrFun (hFF q12 (by rw [c_q12.1]; decide)) 99).trans c_q12.2.1⟩ | 4, _ => exact ⟨q13, rfl, hM _ _ c_q13.1 (by decide), (congrFun (hFF q13 (by rw [c_q13.1]; decide)) 99).trans c_q13.2.1⟩ | 5, _ => exact ⟨q14, rfl, hM _ _ c_q14.1 (by decide), (congrFun (hFF q14 (by rw [c_q14.1]; decide)) 99).trans c_q14.2.1⟩ | 6, _ => exact ⟨q15, rfl, hM _ _ c_q15.1 (by decide), (congrFun (hFF q15 (by rw [c_q15.1]; decide)) 99).trans c_q15.2.1⟩ | 7, _ => exact ⟨q16, rfl, hM _ _ c_q16.1 (by decide), (congrFun (hFF q16 (by rw [c_q16.1]; decide)) 99).trans c_q16.2.1⟩ | i + 8, hi => exact absurd hi (by omega)⟩)
  have hgr := hgr.tr g
  have c_q1 := OBz.gr g (by decide) c_q1
  have c_q2 := RDz.gr g c_q2
  have c_q3 := BKz.gr g c_q3
  have c_q4 := RWz.gr g c_q4
  have c_q5 := RWz.gr g c_q5
  have c_q6 := RWz.gr g c_q6
  have c_q7 := RWz.gr g c_q7
  have c_q9 := RWz.gr g c_q9
  have c_q10 := RWz.gr g c_q10
  have c_q11 := RWz.gr g c_q11
  have c_q12 := RWz.gr g c_q12
  have c_q13 := RWz.gr g c_q13
  have c_q14 := RWz.gr g c_q14
  have c_q15 := RWz.gr g c_q15
  have c_q16 := RWz.gr g c_q16
  have c_q17 := OBz.gr g (by decide) c_q17
  have c_q18 := OBz.gr g (by decide) c_q18
  have c_q19 := OBz.gr g (by decide) c_q19
  have c_q20 := KNo.gr g (by decide) c_q20
  have c_q21 := KNo.gr g (by decide) c_q21
  have c_q22 := KNo.gr g (by decide) c_q22
  have a_q27 : K q27 = 27 ∧ F q27 99 = 0 ∧ G.2.1 q27 = (fun _ => 0) := ⟨g.k a_q27.1 (by decide), by rw [(g.at a_q27.1 (by decide)).1]; exact a_q27.2.1, (g.at a_q27.1 (by decide)).2.2.1.trans a_q27.2.2⟩
  have a_q26 : K q26 = 26 ∧ F q26 99 = 0 ∧ G.2.1 q26 = (fun _ => 0) := ⟨g.k a_q26.1 (by decide), by rw [(g.at a_q26.1 (by decide)).1]; exact a_q26.2.1, (g.at a_q26.1 (by decide)).2.2.1.trans a_q26.2.2⟩
  have c_vd := KNo.gr g (by decide) c_vd
  have c_mk : K q8 = 16 ∧ F q8 99 = 0 ∧ G.2.2.1 q8 = (va_up (va_up (va_up (va_up (va_up (va_up (va_up (va_up (fun _ => none) 0 (some q9)) 1 (some q10)) 2 (some q11)) 3 (some q12)) 4 (some q13)) 5 (some q14)) 6 (some q15)) 7 (some q16)) := ⟨k_mk, by rw [f_mk]; rfl, r_mk⟩
  have hT := hT.rot
  have hT : TX E9 K F G ((a, .inr (11, [.ref q1, .ref q2, .ref q3, .ref q4, .ref q5, .ref q6, .ref q7, .ref q8, .ref q17, .ref q18, .ref q19, .ref q20, .ref q21, .ref q22, .ref q23, .ref q26, .ref q27, .int 0, .int 0])) :: (q24, .inr (0, [.ref q25, .int 0, .int 0, .int 0])) :: (q25, .inl (E.2.1 2, 16, .inl (fun _ => 0))) :: L) H := hT
  obtain ⟨K, F, G, g, hk, hFa, hd, -, -, -, hT⟩ := TX.cl (a := a) hT 12 (fvx 0 [q1, q2, q3, q4, q5, q6, q7, q8, q17, q18, q19, q20, q21, q22, q23, q26, q27, 0, 0]) (fun _ => 0) (fun _ => 0) (fun _ => none) (by decide) (fun K1 F1 hM hFF hF => ⟨by rw [hF] <;> rfl, by rw [hF]; exact hM _ _ (c_q1.1) (by decide), by rw [hF]; exact (congrFun (hFF q1 (by rw [c_q1.1]; decide)) 99).trans (c_q1.2.1), by rw [hF]; exact hM _ _ (c_q2.1) (by decide), by rw [hF]; exact (congrFun (hFF q2 (by rw [c_q2.1]; decide)) 99).trans (c_q2.2.1), by rw [hF]; exact hM _ _ (c_q3.1) (by decide), by rw [hF]; exact (congrFun (hFF q3 (by rw [c_q3.1]; decide)) 99).trans (c_q3.2.1), by rw [hF]; exact hM _ _ (c_q4.1) (by decide), by rw [hF]; exact (congrFun (hFF q4 (by rw [c_q4.1]; decide)) 99).trans (c_q4.2.1), by rw [hF]; exact hM _ _ (c_q5.1) (by decide), by rw [hF]; exact (congrFun (hFF q5 (by rw [c_q5.1]; decide)) 99).trans (c_q5.2.1), by rw [hF]; exact hM _ _ (c_q6.1) (by decide), by rw [hF]; exact (congrFun (hFF q6 (by rw [c_q6.1]; decide)) 99).trans (c_q6.2.1), by rw [hF]; exact hM _ _ (c_q7.1) (by decide), by rw [hF]; exact (congrFun (hFF q7 (by rw [c_q7.1]; decide)) 99).trans (c_q7.2.1), by rw [hF]; exact hM _ _ (c_mk.1) (by decide), by rw [hF]; exact (congrFun (hFF q8 (by rw [c_mk.1]; decide)) 99).trans (c_mk.2.1), by rw [hF]; exact hM _ _ (c_q17.1) (by decide), by rw [hF]; exact (congrFun (hFF q17 (by rw [c_q17.1]; decide)) 99).trans (c_q17.2.1), by rw [hF]; exact hM _ _ (c_q18.1) (by decide), by rw [hF]; exact (congrFun (hFF q18 (by rw [c_q18.1]; decide)) 99).trans (c_q18.2.1), by rw [hF]; exact hM _ _ (c_q19.1) (by decide), by rw [hF]; exact (congrFun (hFF q19 (by rw [c_q19.1]; decide)) 99).trans (c_q19.2.1), by rw [hF]; exact hM _ _ (c_q20.1) (by decide), by rw [hF]; exact (congrFun (hFF q20 (by rw [c_q20.1]; decide)) 99).trans (c_q20.2), by rw [hF]; exact hM _ _ (c_q21.1) (by decide), by rw [hF]; exact (congrFun (hFF q21 (by rw [c_q21.1]; decide)) 99).trans (c_q21.2), by rw [hF]; exact hM _ _ (c_q22.1) (by decide), by rw [hF]; exact (congrFun (hFF q22 (by rw [c_q22.1]; decide)) 99).trans (c_q22.2), by rw [hF]; exact hM _ _ (c_vd.1) (by decide), by rw [hF]; exact (congrFun (hFF q23 (by rw [c_vd.1]; decide)) 99).trans (c_vd.2), by rw [hF]; exact hM _ _ (a_q26.1) (by decide), by rw [hF]; exact (congrFun (hFF q26 (by rw [a_q26.1]; decide)) 99).trans (a_q26.2.1), by rw [hF]; exact hM _ _ (a_q27.1) (by decide), by rw [hF]; exact (congrFun (hFF q27 (by rw [a_q27.1]; decide)) 99).trans (a_q27.2.1), Or.inl rfl⟩)
  have hgr := hgr.tr g
  have c_q1 := OBz.gr g (by decide) c_q1
  have c_q2 := RDz.gr g c_q2
  have c_q3 := BKz.gr g c_q3
  have c_q4 := RWz.gr g c_q4
  have c_q5 := RWz.gr g c_q5
  have c_q6 := RWz.gr g c_q6
  have c_q7 := RWz.gr g c_q7
  have c_q9 := RWz.gr g c_q9
  have c_q10 := RWz.gr g c_q10
  have c_q11 := RWz.gr g c_q11
  have c_q12 := RWz.gr g c_q12
  have c_q13 := RWz.gr g c_q13
  have c_q14 := RWz.gr g c_q14
  have c_q15 := RWz.gr g c_q15
  have c_q16 := RWz.gr g c_q16
  have c_q17 := OBz.gr g (by decide) c_q17
  have c_q18 := OBz.gr g (by decide) c_q18
  have c_q19 := OBz.gr g (by decide) c_q19
  have c_q20 := KNo.gr g (by decide) c_q20
  have c_q21 := KNo.gr g (by decide) c_q21
  have c_q22 := KNo.gr g (by decide) c_q22
  have a_q27 : K q27 = 27 ∧ F q27 99 = 0 ∧ G.2.1 q27 = (fun _ => 0) := ⟨g.k a_q27.1 (by decide), by rw [(g.at a_q27.1 (by decide)).1]; exact a_q27.2.1, (g.at a_q27.1 (by decide)).2.2.1.trans a_q27.2.2⟩
  have a_q26 : K q26 = 26 ∧ F q26 99 = 0 ∧ G.2.1 q26 = (fun _ => 0) := ⟨g.k a_q26.1 (by decide), by rw [(g.at a_q26.1 (by decide)).1]; exact a_q26.2.1, (g.at a_q26.1 (by decide)).2.2.1.trans a_q26.2.2⟩
  have c_vd := KNo.gr g (by decide) c_vd
  have c_mk : K q8 = 16 ∧ F q8 99 = 0 ∧ G.2.2.1 q8 = (va_up (va_up (va_up (va_up (va_up (va_up (va_up (va_up (fun _ => none) 0 (some q9)) 1 (some q10)) 2 (some q11)) 3 (some q12)) 4 (some q13)) 5 (some q14)) 6 (some q15)) 7 (some q16)) := ⟨g.k c_mk.1 (by decide), by rw [(g.at c_mk.1 (by decide)).1]; exact c_mk.2.1, (g.at c_mk.1 (by decide)).2.2.2.trans c_mk.2.2⟩
  have hcl : CLz K F G a := by
    unfold CLz
    rw [hFa]
    refine ⟨hk, hd, c_q1, c_q2, c_q3, c_q4, c_q5, c_q7, ⟨c_mk.1, fun i hi => ?_⟩, c_q17⟩
    show ∃ q : Nat, G.2.2.1 q8 i = some q ∧ RWz (4 + i) K F G q
    rw [c_mk.2.2]
    match i, hi with
    | 0, _ => exact ⟨q9, rfl, c_q9⟩
    | 1, _ => exact ⟨q10, rfl, c_q10⟩
    | 2, _ => exact ⟨q11, rfl, c_q11⟩
    | 3, _ => exact ⟨q12, rfl, c_q12⟩
    | 4, _ => exact ⟨q13, rfl, c_q13⟩
    | 5, _ => exact ⟨q14, rfl, c_q14⟩
    | 6, _ => exact ⟨q15, rfl, c_q15⟩
    | 7, _ => exact ⟨q16, rfl, c_q16⟩
    | i + 8, hi => exact absurd hi (by omega)
  rw [eE] at hT
  rw [eK, eF, eG] at hgr
  exact x_rv hx hb hr hlk hQ (Nat.le_of_ble_eq_true rfl) (Nat.le_of_ble_eq_true rfl) hS dX10_init_213 (q24, q25, K, F, G) ⟨hgr, hcl⟩ hT

