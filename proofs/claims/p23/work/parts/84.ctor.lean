theorem kin_X0 : Cond.instantiable RX0 3 ∈ GT ∧ Cond.initialized RX0 ∈ GT := ⟨GT_mem 167 (by decide +kernel) rfl, GT_mem 94 (by decide +kernel) rfl⟩
theorem kin_X1 : Cond.instantiable RX1 4 ∈ GT ∧ Cond.initialized RX1 ∈ GT := ⟨GT_mem 229 (by decide +kernel) rfl, GT_mem 97 (by decide +kernel) rfl⟩
theorem kin_X2 : Cond.instantiable RX2 5 ∈ GT ∧ Cond.initialized RX2 ∈ GT := ⟨GT_mem 248 (by decide +kernel) rfl, GT_mem 98 (by decide +kernel) rfl⟩
theorem kin_X3 : Cond.instantiable RX3 4 ∈ GT ∧ Cond.initialized RX3 ∈ GT := ⟨GT_mem 270 (by decide +kernel) rfl, GT_mem 99 (by decide +kernel) rfl⟩
theorem kin_X4 : Cond.instantiable RX4 7 ∈ GT ∧ Cond.initialized RX4 ∈ GT := ⟨GT_mem 200 (by decide +kernel) rfl, GT_mem 96 (by decide +kernel) rfl⟩
theorem kin_X5 : Cond.instantiable RX5 6 ∈ GT ∧ Cond.initialized RX5 ∈ GT := ⟨GT_mem 142 (by decide +kernel) rfl, GT_mem 93 (by decide +kernel) rfl⟩
theorem kin_X6 : Cond.instantiable RX6 2 ∈ GT ∧ Cond.initialized RX6 ∈ GT := ⟨GT_mem 185 (by decide +kernel) rfl, GT_mem 95 (by decide +kernel) rfl⟩
theorem kin_X7 : Cond.instantiable RX7 10 ∈ GT ∧ Cond.initialized RX7 ∈ GT := ⟨GT_mem 513 (by decide +kernel) rfl, GT_mem 111 (by decide +kernel) rfl⟩
theorem kin_X8 : Cond.instantiable RX8 2 ∈ GT ∧ Cond.initialized RX8 ∈ GT := ⟨GT_mem 128 (by decide +kernel) rfl, GT_mem 92 (by decide +kernel) rfl⟩
theorem kin_X9 : Cond.instantiable RX9 4 ∈ GT ∧ Cond.initialized RX9 ∈ GT := ⟨GT_mem 289 (by decide +kernel) rfl, GT_mem 100 (by decide +kernel) rfl⟩
theorem kin_X10 : Cond.instantiable RX10 19 ∈ GT ∧ Cond.initialized RX10 ∈ GT := ⟨GT_mem 120 (by decide +kernel) rfl, GT_mem 91 (by decide +kernel) rfl⟩
theorem kin_X11 : Cond.instantiable RX11 52 ∈ GT ∧ Cond.initialized RX11 ∈ GT := ⟨GT_mem 1395 (by decide +kernel) rfl, GT_mem 105 (by decide +kernel) rfl⟩
theorem kin_J4 : Cond.instantiable RJ4 4 ∈ GT ∧ Cond.initialized RJ4 ∈ GT := ⟨GT_mem 295 (by decide +kernel) rfl, GT_mem 102 (by decide +kernel) rfl⟩
theorem kn_X0_9 : Cond.classLink RX0 9 RX7 ∈ GT := GT_mem 172 (by decide +kernel) rfl
theorem xok_3 : xok 3 (0 : Int32) := by
  have h := xok_z 0
  first
  | exact h
  | (rw [show vp_nar .boolean (0 : Int32) = 0 from by decide] at h; exact h)
  | (rw [show vp_nar .boolean (0 : Int32) = 0 from rfl] at h; exact h)
  | (unfold xok; decide)
  | (simp [vp_nar] at h; exact h)
abbrev rm_X8_init : Room := { frames := 1, cells := 1, slots := 80, locals := 12 }
set_option maxHeartbeats 4000000 in
set_option maxRecDepth 100000 in
theorem c_X8_init (l : Launch) (E : XE) (K : Nat → Nat) (F : Nat → Nat → Nat) (G : XG) (L : va_W) (a : Nat) : Met l yX8_init (xw yX8_init cX8_init 1 none) rm_X8_init (va_Pc [.ref a] (XPx E K F G ((a, .inr (9, [.null, .int 0])) :: L))) (XQv E (fun (u : (Nat → Nat) × (Nat → Nat → Nat) × XG) => GR K F G u.1 u.2.1 u.2.2 ∧ (OBz 10 0 u.1 u.2.1 u.2.2 a) ∧ (N11 K → N11 u.1)) (fun u H => TX E u.1 u.2.1 u.2.2 L H)) 1 80 (xA E) := by
  refine x_enter (by decide) (Nat.le_of_ble_eq_true rfl) ?_
  intro p e s m args below meth c Q S hr hlk hnm hQ hP ls hl
  obtain ⟨hz, hK, hT⟩ := hP
  obtain ⟨hx, hb, -, -, -⟩ := id S
  obtain ⟨H, hT, hS, hgo⟩ : ∃ H : Heap, TX E K F G ((a, .inr (9, [.null, .int 0])) :: L) H ∧ va_S (xA E) s.heap H [] ∧ H = s.heap := ⟨_, hT, va_S.rf, rfl⟩
  rw [← hgo]
  have hl : lv_has ls 1 [(0, .ref a)] := hl
  obtain ⟨hK, hA⟩ := hK
  obtain ⟨K0, eK⟩ : ∃ K0 : Nat → Nat, K0 = K := ⟨_, rfl⟩
  obtain ⟨F9, eF⟩ : ∃ F9 : Nat → Nat → Nat, F9 = F := ⟨_, rfl⟩
  obtain ⟨G0, eG⟩ : ∃ G0 : XG, G0 = G := ⟨_, rfl⟩
  have hgr : GR K0 F9 G0 K F G := by rw [eK, eF, eG]; exact GR.rf
  have hN : N11 K0 → N11 K := by rw [eK]; exact id
  refine lv_aload_n hx hb dX8_init_0 rfl (lv_at hl 0 rfl) ?_
  refine W.objInit hx hb S.2.2.2.1 (S.2.2.2.2 _ (List.mem_cons_of_mem _ km_X8_1)) (S.2.2.2.2 _ (List.mem_cons_of_mem _ koi.1)) (S.2.2.2.2 _ (List.mem_cons_of_mem _ koi.2)) rfl (by rw [S.2.2.1]; exact hl.1) rfl dX8_init_1 (Nat.le_of_ble_eq_true rfl) (Nat.le_of_ble_eq_true rfl) ?_
  refine W.eq (g2 := F0 m 4 ls []) rfl ?_
  refine lv_aload_n hx hb dX8_init_4 rfl (lv_at hl 0 rfl) ?_
  refine lv_bipush (v := 80) hx hb dX8_init_5 (by decide) ?_
  refine tx_na1 S hK hz hT hS (N := 80) (by decide) (by decide) (Nat.le_of_ble_eq_true rfl) (Nat.le_of_ble_eq_true rfl) (Nat.le_of_ble_eq_true rfl) dX8_init_7 (fun q1 H hT hS => ?_)
  refine tx_putF (C := RX8) (T := TX8) (N := 2) (ci := 9) (ty := (.array .char)) S hK hT hS inX8 tyX8 tyX8_ok nmX8 1 rfl rfl 0 (by decide) kf_X8_9 rfl hnm rfl (by decide +kernel) rfl rfl (Nat.le_of_ble_eq_true rfl) dX8_init_9 (fun H locs hT hS => ?_)
  have hT : TX E K F G ((q1, .inl (E.2.1 1, 80, .inl (fun _ => 0))) :: (a, .inr (9, [.ref q1, .int 0])) :: L) H := hT
  obtain ⟨K, F, G, g, hall, n1, hT⟩ := TX.cls (L := ((a, .inr (9, [.ref q1, .int 0])) :: L)) [(q1, 25, 0, 1, 80, (fun _ => 0))] hT (List.forall_mem_cons.mpr ⟨⟨(show (25 : Nat) ≠ 0 by decide), (show (25 : Nat) ≠ 11 by decide), fun _ _ _ _ _ => ⟨1, 80, rfl, rfl, (fun _ => rfl)⟩⟩, List.forall_mem_nil _⟩)
  have hgr := hgr.tr g
  have hN : N11 K0 → N11 K := fun h => n1 (hN h)
  have a_q1 : K q1 = 25 ∧ F q1 99 = 0 ∧ G.2.1 q1 = (fun _ => 0) := hall _ (List.mem_of_getElem? (i := 0) rfl)
  obtain ⟨K, F, G, g, hk, hFa, hd, -, -, n1, hT⟩ := TX.cl (a := a) hT 10 (fvx 0 [q1, 0]) (fun _ => 0) (fun _ => 0) (fun _ => none) (by decide) (fun K1 F1 hM hFF hF => ⟨by rw [hF] <;> rfl, by rw [hF]; exact hM _ _ a_q1.1 (by decide), by rw [hF]; exact (congrFun (hFF q1 (by rw [a_q1.1]; decide)) 99).trans a_q1.2.1⟩)
  have n1 := n1 (by decide)
  have hgr := hgr.tr g
  have a_q1 : K q1 = 25 ∧ F q1 99 = 0 ∧ G.2.1 q1 = (fun _ => 0) := ⟨g.k a_q1.1 (by decide), by rw [(g.at a_q1.1 (by decide)).1]; exact a_q1.2.1, (g.at a_q1.1 (by decide)).2.2.1.trans a_q1.2.2⟩
  have hN : N11 K0 → N11 K := fun h => n1 (hN h)
  have hpo : OBz 10 0 K F G a := ⟨hk, by rw [hFa]; rfl, hd⟩
  exact x_rv hx hb hr hlk hQ (Nat.le_of_ble_eq_true rfl) (Nat.le_of_ble_eq_true rfl) hS dX8_init_12 (K, F, G) ⟨by rw [eK, eF, eG] at hgr; exact hgr, hpo, by rw [eK] at hN; exact hN⟩ hT

abbrev rm_X5_init : Room := { frames := 1, cells := 0, slots := 0, locals := 12 }
set_option maxHeartbeats 4000000 in
set_option maxRecDepth 100000 in
theorem c_X5_init (l : Launch) (E : XE) (K : Nat → Nat) (F : Nat → Nat → Nat) (G : XG) (L : va_W) (a : Nat) (p0 : Nat) (hp0 : KNo 10 0 K F p0) : Met l yX5_init (xw yX5_init cX5_init 2 none) rm_X5_init (va_Pc [.ref a, .ref p0] (XPx E K F G ((a, .inr (6, [.null, .int 0, .int 0, .int 0, .int 0, .int 0])) :: L))) (XQv E (fun (u : (Nat → Nat) × (Nat → Nat → Nat) × XG) => GR K F G u.1 u.2.1 u.2.2 ∧ (RDz u.1 u.2.1 a p0) ∧ (N11 K → N11 u.1)) (fun u H => TX E u.1 u.2.1 u.2.2 L H)) 0 0 (xA E) := by
  refine x_enter (by decide) (Nat.le_of_ble_eq_true rfl) ?_
  intro p e s m args below meth c Q S hr hlk hnm hQ hP ls hl
  obtain ⟨hz, hK, hT⟩ := hP
  obtain ⟨hx, hb, -, -, -⟩ := id S
  obtain ⟨H, hT, hS, hgo⟩ : ∃ H : Heap, TX E K F G ((a, .inr (6, [.null, .int 0, .int 0, .int 0, .int 0, .int 0])) :: L) H ∧ va_S (xA E) s.heap H [] ∧ H = s.heap := ⟨_, hT, va_S.rf, rfl⟩
  rw [← hgo]
  have hl : lv_has ls 2 [(0, .ref a), (1, .ref p0)] := hl
  obtain ⟨hK, hA⟩ := hK
  obtain ⟨K0, eK⟩ : ∃ K0 : Nat → Nat, K0 = K := ⟨_, rfl⟩
  obtain ⟨F9, eF⟩ : ∃ F9 : Nat → Nat → Nat, F9 = F := ⟨_, rfl⟩
  obtain ⟨G0, eG⟩ : ∃ G0 : XG, G0 = G := ⟨_, rfl⟩
  have hgr : GR K0 F9 G0 K F G := by rw [eK, eF, eG]; exact GR.rf
  have hN : N11 K0 → N11 K := by rw [eK]; exact id
  refine lv_aload_n hx hb dX5_init_0 rfl (lv_at hl 0 rfl) ?_
  refine W.objInit hx hb S.2.2.2.1 (S.2.2.2.2 _ (List.mem_cons_of_mem _ km_X5_3)) (S.2.2.2.2 _ (List.mem_cons_of_mem _ koi.1)) (S.2.2.2.2 _ (List.mem_cons_of_mem _ koi.2)) rfl (by rw [S.2.2.1]; exact hl.1) rfl dX5_init_1 (Nat.le_of_ble_eq_true rfl) (Nat.le_of_ble_eq_true rfl) ?_
  refine W.eq (g2 := F0 m 4 ls []) rfl ?_
  refine lv_aload_n hx hb dX5_init_4 rfl (lv_at hl 0 rfl) ?_
  refine lv_aload_n hx hb dX5_init_5 rfl (lv_at hl 1 rfl) ?_
  refine tx_putF (C := RX5) (T := TX5) (N := 6) (ci := 6) (ty := (.object "LateRules$Text")) S hK hT hS inX5 tyX5 tyX5_ok nmX5 0 rfl rfl 0 (by decide) kf_X5_9 rfl hnm rfl (by decide +kernel) rfl rfl (Nat.le_of_ble_eq_true rfl) dX5_init_6 (fun H locs hT hS => ?_)
  have hT : TX E K F G ((a, .inr (6, [.ref p0, .int 0, .int 0, .int 0, .int 0, .int 0])) :: L) H := hT
  obtain ⟨K, F, G, g, hk, hFa, hd, -, -, n1, hT⟩ := TX.cl (a := a) hT 7 (fvx 0 [p0, 0, 0, 0, 0, 0]) (fun _ => 0) (fun _ => 0) (fun _ => none) (by decide) (fun K1 F1 hM hFF hF => ⟨by rw [hF] <;> rfl, by rw [hF]; exact hM _ _ hp0.1 (by decide), by rw [hF]; exact (congrFun (hFF p0 (by rw [hp0.1]; decide)) 99).trans hp0.2, Or.inl rfl⟩)
  have n1 := n1 (by decide)
  have hgr := hgr.tr g
  have hp0 := KNo.gr g (by decide) hp0
  have hN : N11 K0 → N11 K := fun h => n1 (hN h)
  have hpo : RDz K F a p0 := ⟨hk, by rw [hFa]; rfl, by rw [hFa]; rfl⟩
  exact x_rv hx hb hr hlk hQ (Nat.le_of_ble_eq_true rfl) (Nat.le_of_ble_eq_true rfl) hS dX5_init_9 (K, F, G) ⟨by rw [eK, eF, eG] at hgr; exact hgr, hpo, by rw [eK] at hN; exact hN⟩ hT

abbrev rm_X0_init : Room := { frames := 1, cells := 2, slots := 24, locals := 12 }
set_option maxHeartbeats 4000000 in
set_option maxRecDepth 100000 in
theorem c_X0_init (l : Launch) (E : XE) (K : Nat → Nat) (F : Nat → Nat → Nat) (G : XG) (L : va_W) (a : Nat) : Met l yX0_init (xw yX0_init cX0_init 1 none) rm_X0_init (va_Pc [.ref a] (XPx E K F G ((a, .inr (1, [.null, .null, .int 0])) :: L))) (XQv E (fun (u : (Nat → Nat) × (Nat → Nat → Nat) × XG) => GR K F G u.1 u.2.1 u.2.2 ∧ (BKz u.1 u.2.1 u.2.2 a) ∧ (N11 K → N11 u.1)) (fun u H => TX E u.1 u.2.1 u.2.2 L H)) 2 24 (xA E) := by
  refine x_enter (by decide) (Nat.le_of_ble_eq_true rfl) ?_
  intro p e s m args below meth c Q S hr hlk hnm hQ hP ls hl
  obtain ⟨hz, hK, hT⟩ := hP
  obtain ⟨hx, hb, -, -, -⟩ := id S
  obtain ⟨H, hT, hS, hgo⟩ : ∃ H : Heap, TX E K F G ((a, .inr (1, [.null, .null, .int 0])) :: L) H ∧ va_S (xA E) s.heap H [] ∧ H = s.heap := ⟨_, hT, va_S.rf, rfl⟩
  rw [← hgo]
  have hl : lv_has ls 1 [(0, .ref a)] := hl
  obtain ⟨hK, hA⟩ := hK
  obtain ⟨K0, eK⟩ : ∃ K0 : Nat → Nat, K0 = K := ⟨_, rfl⟩
  obtain ⟨F9, eF⟩ : ∃ F9 : Nat → Nat → Nat, F9 = F := ⟨_, rfl⟩
  obtain ⟨G0, eG⟩ : ∃ G0 : XG, G0 = G := ⟨_, rfl⟩
  have hgr : GR K0 F9 G0 K F G := by rw [eK, eF, eG]; exact GR.rf
  have hN : N11 K0 → N11 K := by rw [eK]; exact id
  refine lv_aload_n hx hb dX0_init_0 rfl (lv_at hl 0 rfl) ?_
  refine W.objInit hx hb S.2.2.2.1 (S.2.2.2.2 _ (List.mem_cons_of_mem _ km_X0_3)) (S.2.2.2.2 _ (List.mem_cons_of_mem _ koi.1)) (S.2.2.2.2 _ (List.mem_cons_of_mem _ koi.2)) rfl (by rw [S.2.2.1]; exact hl.1) rfl dX0_init_1 (Nat.le_of_ble_eq_true rfl) (Nat.le_of_ble_eq_true rfl) ?_
  refine W.eq (g2 := F0 m 4 ls []) rfl ?_
  refine lv_aload_n hx hb dX0_init_4 rfl (lv_at hl 0 rfl) ?_
  refine lv_bipush (v := 12) hx hb dX0_init_5 (by decide) ?_
  refine tx_nq4 S hK hA.1 hz hT hS kn_X0_9 (N := 12) (by decide) (by decide) (Nat.le_of_ble_eq_true rfl) (Nat.le_of_ble_eq_true rfl) (Nat.le_of_ble_eq_true rfl) dX0_init_7 (fun q1 H hT hS => ?_)
  refine tx_putF (C := RX0) (T := TX0) (N := 3) (ci := 1) (ty := (.array (.object "LateRules$Rule"))) S hK hT hS inX0 tyX0 tyX0_ok nmX0 1 rfl rfl 0 (by decide) kf_X0_11 rfl hnm rfl (by decide +kernel) rfl rfl (Nat.le_of_ble_eq_true rfl) dX0_init_10 (fun H locs hT hS => ?_)
  have hT : TX E K F G ((q1, .inl (E.2.1 4, 12, .inr (.inr (.inr (.inr (fun _ => none)))))) :: (a, .inr (1, [.ref q1, .null, .int 0])) :: L) H := hT
  refine lv_aload_n hx hb dX0_init_13 rfl (lv_at hl 0 rfl) ?_
  refine lv_bipush (v := 12) hx hb dX0_init_14 (by decide) ?_
  refine tx_nq4 S hK hA.1 hz hT hS kn_X0_9 (N := 12) (by decide) (by decide) (Nat.le_of_ble_eq_true rfl) (Nat.le_of_ble_eq_true rfl) (Nat.le_of_ble_eq_true rfl) dX0_init_16 (fun q2 H hT hS => ?_)
  refine tx_putF (C := RX0) (T := TX0) (N := 3) (ci := 1) (ty := (.array (.object "LateRules$Rule"))) S hK hT hS inX0 tyX0 tyX0_ok nmX0 2 rfl rfl 1 (by decide) kf_X0_17 rfl hnm rfl (by decide +kernel) rfl rfl (Nat.le_of_ble_eq_true rfl) dX0_init_19 (fun H locs hT hS => ?_)
  have hT : TX E K F G ((q2, .inl (E.2.1 4, 12, .inr (.inr (.inr (.inr (fun _ => none)))))) :: (q1, .inl (E.2.1 4, 12, .inr (.inr (.inr (.inr (fun _ => none)))))) :: (a, .inr (1, [.ref q1, .ref q2, .int 0])) :: L) H := hT
  obtain ⟨K, F, G, g, k_q2, f_q2, -, -, r_q2, n1, hT⟩ := TX.cl (a := q2) hT 15 (fvx 1 []) (fun _ => 0) (fun _ => 0) (fun _ => none) (by decide) (fun K1 F1 hM hFF hF => ⟨rfl, fun _ _ h => by cases h⟩)
  have n1 := n1 (by decide)
  have hgr := hgr.tr g
  have hN : N11 K0 → N11 K := fun h => n1 (hN h)
  have a_q2 : K q2 = 15 ∧ F q2 99 = 1 ∧ G.2.2.1 q2 = fun _ => none := ⟨k_q2, by rw [f_q2]; rfl, r_q2⟩
  obtain ⟨K, F, G, g, k_q1, f_q1, -, -, r_q1, n1, hT⟩ := TX.cl (a := q1) hT 15 (fvx 0 []) (fun _ => 0) (fun _ => 0) (fun _ => none) (by decide) (fun K1 F1 hM hFF hF => ⟨rfl, fun _ _ h => by cases h⟩)
  have n1 := n1 (by decide)
  have hgr := hgr.tr g
  have a_q2 : K q2 = 15 ∧ F q2 99 = 1 ∧ G.2.2.1 q2 = fun _ => none := ⟨g.k a_q2.1 (by decide), by rw [(g.at a_q2.1 (by decide)).1]; exact a_q2.2.1, (g.at a_q2.1 (by decide)).2.2.2.trans a_q2.2.2⟩
  have hN : N11 K0 → N11 K := fun h => n1 (hN h)
  have a_q1 : K q1 = 15 ∧ F q1 99 = 0 ∧ G.2.2.1 q1 = fun _ => none := ⟨k_q1, by rw [f_q1]; rfl, r_q1⟩
  obtain ⟨K, F, G, g, hk, hFa, hd, -, -, n1, hT⟩ := TX.cl (a := a) hT 2 (fvx 0 [q1, q2, 0]) (fun _ => 0) (fun _ => 0) (fun _ => none) (by decide) (fun K1 F1 hM hFF hF => ⟨by rw [hF] <;> rfl, by rw [hF]; exact hM _ _ a_q1.1 (by decide), by rw [hF]; exact (congrFun (hFF q1 (by rw [a_q1.1]; decide)) 99).trans a_q1.2.1, by rw [hF]; exact hM _ _ a_q2.1 (by decide), by rw [hF]; exact (congrFun (hFF q2 (by rw [a_q2.1]; decide)) 99).trans a_q2.2.1⟩)
  have n1 := n1 (by decide)
  have hgr := hgr.tr g
  have a_q2 : K q2 = 15 ∧ F q2 99 = 1 ∧ G.2.2.1 q2 = fun _ => none := ⟨g.k a_q2.1 (by decide), by rw [(g.at a_q2.1 (by decide)).1]; exact a_q2.2.1, (g.at a_q2.1 (by decide)).2.2.2.trans a_q2.2.2⟩
  have a_q1 : K q1 = 15 ∧ F q1 99 = 0 ∧ G.2.2.1 q1 = fun _ => none := ⟨g.k a_q1.1 (by decide), by rw [(g.at a_q1.1 (by decide)).1]; exact a_q1.2.1, (g.at a_q1.1 (by decide)).2.2.2.trans a_q1.2.2⟩
  have hN : N11 K0 → N11 K := fun h => n1 (hN h)
  have hpo : BKz K F G a := ⟨hk, by rw [hFa]; rfl, hd, by rw [hFa]; exact a_q1.1, by rw [hFa]; exact a_q1.2.2, by rw [hFa]; exact a_q2.1, by rw [hFa]; exact a_q2.2.2⟩
  exact x_rv hx hb hr hlk hQ (Nat.le_of_ble_eq_true rfl) (Nat.le_of_ble_eq_true rfl) hS dX0_init_22 (K, F, G) ⟨by rw [eK, eF, eG] at hgr; exact hgr, hpo, by rw [eK] at hN; exact hN⟩ hT

abbrev rm_X6_init : Room := { frames := 1, cells := 2, slots := 273, locals := 12 }
set_option maxHeartbeats 4000000 in
set_option maxRecDepth 100000 in
theorem c_X6_init (l : Launch) (E : XE) (K : Nat → Nat) (F : Nat → Nat → Nat) (G : XG) (L : va_W) (a : Nat) (J : Nat) : Met l yX6_init (xw yX6_init cX6_init 2 none) rm_X6_init (va_Pc [.ref a] (XPx E K F G ((a, .inr (7, [.null, .null])) :: L))) (XQv E (fun (u : (Nat → Nat) × (Nat → Nat → Nat) × XG) => GR K F G u.1 u.2.1 u.2.2 ∧ (RWz J u.1 u.2.1 u.2.2 a) ∧ (N11 K → N11 u.1)) (fun u H => TX E u.1 u.2.1 u.2.2 L H)) 2 273 (xA E) := by
  refine x_enter (by decide) (Nat.le_of_ble_eq_true rfl) ?_
  intro p e s m args below meth c Q S hr hlk hnm hQ hP ls hl
  obtain ⟨hz, hK, hT⟩ := hP
  obtain ⟨hx, hb, -, -, -⟩ := id S
  obtain ⟨H, hT, hS, hgo⟩ : ∃ H : Heap, TX E K F G ((a, .inr (7, [.null, .null])) :: L) H ∧ va_S (xA E) s.heap H [] ∧ H = s.heap := ⟨_, hT, va_S.rf, rfl⟩
  rw [← hgo]
  have hl : lv_has ls 2 [(0, .ref a)] := hl
  obtain ⟨hK, hA⟩ := hK
  obtain ⟨K0, eK⟩ : ∃ K0 : Nat → Nat, K0 = K := ⟨_, rfl⟩
  obtain ⟨F9, eF⟩ : ∃ F9 : Nat → Nat → Nat, F9 = F := ⟨_, rfl⟩
  obtain ⟨G0, eG⟩ : ∃ G0 : XG, G0 = G := ⟨_, rfl⟩
  have hgr : GR K0 F9 G0 K F G := by rw [eK, eF, eG]; exact GR.rf
  have hN : N11 K0 → N11 K := by rw [eK]; exact id
  refine lv_aload_n hx hb dX6_init_0 rfl (lv_at hl 0 rfl) ?_
  refine W.objInit hx hb S.2.2.2.1 (S.2.2.2.2 _ (List.mem_cons_of_mem _ km_X6_3)) (S.2.2.2.2 _ (List.mem_cons_of_mem _ koi.1)) (S.2.2.2.2 _ (List.mem_cons_of_mem _ koi.2)) rfl (by rw [S.2.2.1]; exact hl.1) rfl dX6_init_1 (Nat.le_of_ble_eq_true rfl) (Nat.le_of_ble_eq_true rfl) ?_
  refine W.eq (g2 := F0 m 4 ls []) rfl ?_
  refine lv_aload_n hx hb dX6_init_4 rfl (lv_at hl 0 rfl) ?_
  refine lv_sipush (v := 270) hx hb dX6_init_5 (by decide) ?_
  refine tx_na0 S hK hz hT hS (N := 270) (by decide) (by decide) (Nat.le_of_ble_eq_true rfl) (Nat.le_of_ble_eq_true rfl) (Nat.le_of_ble_eq_true rfl) dX6_init_8 (fun q1 H hT hS => ?_)
  refine tx_putF (C := RX6) (T := TX6) (N := 2) (ci := 7) (ty := (.array .int)) S hK hT hS inX6 tyX6 tyX6_ok nmX6 1 rfl rfl 0 (by decide) kf_X6_9 rfl hnm rfl (by decide +kernel) rfl rfl (Nat.le_of_ble_eq_true rfl) dX6_init_10 (fun H locs hT hS => ?_)
  have hT : TX E K F G ((q1, .inl (E.2.1 0, 270, .inl (fun _ => 0))) :: (a, .inr (7, [.ref q1, .null])) :: L) H := hT
  refine lv_aload_n hx hb dX6_init_13 rfl (lv_at hl 0 rfl) ?_
  refine lv_iconst (v := 3) hx hb dX6_init_14 (by decide) ?_
  refine tx_na0 S hK hz hT hS (N := 3) (by decide) (by decide) (Nat.le_of_ble_eq_true rfl) (Nat.le_of_ble_eq_true rfl) (Nat.le_of_ble_eq_true rfl) dX6_init_15 (fun q2 H hT hS => ?_)
  refine tx_putF (C := RX6) (T := TX6) (N := 2) (ci := 7) (ty := (.array .int)) S hK hT hS inX6 tyX6 tyX6_ok nmX6 2 rfl rfl 1 (by decide) kf_X6_15 rfl hnm rfl (by decide +kernel) rfl rfl (Nat.le_of_ble_eq_true rfl) dX6_init_17 (fun H locs hT hS => ?_)
  have hT : TX E K F G ((q2, .inl (E.2.1 0, 3, .inl (fun _ => 0))) :: (q1, .inl (E.2.1 0, 270, .inl (fun _ => 0))) :: (a, .inr (7, [.ref q1, .ref q2])) :: L) H := hT
  refine lv_iconst (v := 0) hx hb dX6_init_20 (by decide) ?_
  refine lv_istore_n (lv' := [(1, .int 0), (0, .ref a)]) hx hb dX6_init_21 rfl hl (by decide) rfl (fun ls hl => ?_)
  have L22 : ∀ (N : Nat) (x : Int32) (f : Nat → Int32) (H : Heap) (locs : List Loc) (ls : Array Slot), (0 ≤ x.toInt ∧ x.toInt ≤ 270) → 270 - x.toInt < ((N : Nat) : Int) → (∀ z : Int, 0 ≤ z → z < x.toInt → aI f z = -2000) → TX E K F G ((q2, .inl (E.2.1 0, 3, .inl (fun _ => 0))) :: (q1, .inl (E.2.1 0, 270, .inl f)) :: (a, .inr (7, [.ref q1, .ref q2])) :: L) H → va_S (xA E) s.heap H locs → lv_has ls 2 [(0, .ref a), (1, .int x)] → W p l e rm_X6_init s m args below meth c H locs 2 273 Q (F0 m 22 ls []) := by
    intro N
    induction N with
    | zero =>
      intro x f H locs ls h0 hm
      exact absurd hm (by omega)
    | succ N ih =>
      intro x f H locs ls h0 hm hf hT hS hl
      refine lv_iload_n hx hb dX6_init_22 rfl (lv_at hl 1 rfl) ?_
      refine lv_aload_n hx hb dX6_init_23 rfl (lv_at hl 0 rfl) ?_
      refine tx_get (C := RX6) (T := TX6) (N := 2) (ci := 7) S hK hT inX6 2 rfl rfl 0 (by decide) kf_X6_9 rfl dX6_init_24 ?_
      refine tx_ll0 S hK hT 1 rfl dX6_init_27 ?_
      refine xi_cge (tgt := 46) hx hb (rfl : Int32.toInt x = x.toInt) ((by decide) : Int32.toInt (Int32.ofNat 270) = (270 : Int)) dX6_init_28 (by decide) (fun c9 => ?_) (fun c9 => ?_)
      · have hf : ∀ z : Int, 0 ≤ z → z < 270 → aI f z = -2000 := fun z a1 a2 => hf z a1 (by omega)
        obtain ⟨K, F, G, g, hall, n1, hT⟩ := TX.cls (L := ((a, .inr (7, [.ref q1, .ref q2])) :: L)) [(q2, 21, J, 0, 3, (fun _ => 0)), (q1, 20, J, 0, 270, f)] hT (List.forall_mem_cons.mpr ⟨⟨(show (21 : Nat) ≠ 0 by decide), (show (21 : Nat) ≠ 11 by decide), fun _ _ _ _ _ => ⟨0, 3, rfl, rfl, (fun _ => trivial)⟩⟩, List.forall_mem_cons.mpr ⟨⟨(show (20 : Nat) ≠ 0 by decide), (show (20 : Nat) ≠ 11 by decide), fun _ _ _ _ _ => ⟨0, 270, rfl, rfl, (fun _ => trivial)⟩⟩, List.forall_mem_nil _⟩⟩)
        have hgr := hgr.tr g
        have hN : N11 K0 → N11 K := fun h => n1 (hN h)
        have a_q2 : K q2 = 21 ∧ F q2 99 = J ∧ G.2.1 q2 = (fun _ => 0) := hall _ (List.mem_of_getElem? (i := 0) rfl)
        have a_q1 : K q1 = 20 ∧ F q1 99 = J ∧ G.2.1 q1 = f := hall _ (List.mem_of_getElem? (i := 1) rfl)
        obtain ⟨K, F, G, g, hk, hFa, hd, -, -, n1, hT⟩ := TX.cl (a := a) hT 8 (fvx J [q1, q2]) (fun _ => 0) (fun _ => 0) (fun _ => none) (by decide) (fun K1 F1 hM hFF hF => ⟨by rw [hF] <;> rfl, by rw [hF]; exact hM _ _ a_q1.1 (by decide), by rw [hF]; exact (congrFun (hFF q1 (by rw [a_q1.1]; decide)) 99).trans a_q1.2.1, by rw [hF]; exact hM _ _ a_q2.1 (by decide), by rw [hF]; exact (congrFun (hFF q2 (by rw [a_q2.1]; decide)) 99).trans a_q2.2.1⟩)
        have n1 := n1 (by decide)
        have hgr := hgr.tr g
        have a_q2 : K q2 = 21 ∧ F q2 99 = J ∧ G.2.1 q2 = (fun _ => 0) := ⟨g.k a_q2.1 (by decide), by rw [(g.at a_q2.1 (by decide)).1]; exact a_q2.2.1, (g.at a_q2.1 (by decide)).2.2.1.trans a_q2.2.2⟩
        have a_q1 : K q1 = 20 ∧ F q1 99 = J ∧ G.2.1 q1 = f := ⟨g.k a_q1.1 (by decide), by rw [(g.at a_q1.1 (by decide)).1]; exact a_q1.2.1, (g.at a_q1.1 (by decide)).2.2.1.trans a_q1.2.2⟩
        have hN : N11 K0 → N11 K := fun h => n1 (hN h)
        have hpo : RWz J K F G a := ⟨hk, by rw [hFa]; rfl, by rw [hFa]; exact a_q1.1, by rw [hFa]; show vw (G.2.1 q1) = v0; rw [a_q1.2.2]; exact vw_v0 hf, by rw [hFa]; exact a_q2.1, by rw [hFa]; exact a_q2.2.2⟩
        exact x_rv hx hb hr hlk hQ (Nat.le_of_ble_eq_true rfl) (Nat.le_of_ble_eq_true rfl) hS dX6_init_46 (K, F, G) ⟨by rw [eK, eF, eG] at hgr; exact hgr, hpo, by rw [eK] at hN; exact hN⟩ hT
      · refine lv_aload_n hx hb dX6_init_31 rfl (lv_at hl 0 rfl) ?_
        refine tx_get (C := RX6) (T := TX6) (N := 2) (ci := 7) S hK hT inX6 2 rfl rfl 0 (by decide) kf_X6_9 rfl dX6_init_32 ?_
        refine lv_iload_n hx hb dX6_init_35 rfl (lv_at hl 1 rfl) ?_
        refine lv_sipush (v := (-2000)) hx hb dX6_init_36 (by decide) ?_
        refine tx_ls0 S hK hT hS 1 rfl (show 0 ≤ x.toInt ∧ x.toInt < ((270 : Nat) : Int) by omega) dX6_init_39 (fun H locs hT hS => ?_)
        refine xi_iinc (n := 1) (lv' := fun z9 => [(1, .int z9), (0, .ref a)]) (k := 1) hx hb (rfl : Int32.toInt x = x.toInt) (by decide) dX6_init_40 hl rfl (by decide) (fun _ => rfl) (fun x2 ls t2 hl => ?_)
        have hl : lv_has ls 2 [(1, .int x2), (0, .ref a)] := hl
        refine lv_goto (tgt := 22) hx hb dX6_init_43 (by decide) ?_
        have e2 : x2.toInt = x.toInt + 1 := by omega
        refine ih x2 (upd f x.toNatClampNeg (-2000)) _ _ _ ⟨by omega, by omega⟩ (by omega) (fun z a1 a2 => ?_) hT hS (lv_sub hl [1, 0] rfl)
        show (upd f x.toInt.toNat (-2000) z.toNat).toInt = -2000
        unfold upd
        by_cases q : z.toNat = x.toInt.toNat
        · rw [if_pos q]; decide
        · rw [if_neg q]; exact hf z a1 (by omega)
  exact L22 4294967297 0 _ _ _ _ ⟨by decide, by decide⟩ (by decide) (fun z a1 a2 => absurd a2 (show ¬ z < (0 : Int) by omega)) hT hS (lv_sub hl [1, 0] rfl)

abbrev rm_X4_init : Room := { frames := 1, cells := 6, slots := 6480, locals := 12 }
set_option maxHeartbeats 4000000 in
set_option maxRecDepth 100000 in
theorem c_X4_init (l : Launch) (E : XE) (K : Nat → Nat) (F : Nat → Nat → Nat) (G : XG) (L : va_W) (a : Nat) (J : Nat) : Met l yX4_init (xw yX4_init cX4_init 1 none) rm_X4_init (va_Pc [.ref a] (XPx E K F G ((a, .inr (5, [.null, .null, .null, .null, .null, .null, .int 0])) :: L))) (XQv E (fun (u : (Nat → Nat) × (Nat → Nat → Nat) × XG) => GR K F G u.1 u.2.1 u.2.2 ∧ (OBz 6 J u.1 u.2.1 u.2.2 a) ∧ (N11 K → N11 u.1)) (fun u H => TX E u.1 u.2.1 u.2.2 L H)) 6 6480 (xA E) := by
  refine x_enter (by decide) (Nat.le_of_ble_eq_true rfl) ?_
  intro p e s m args below meth c Q S hr hlk hnm hQ hP ls hl
  obtain ⟨hz, hK, hT⟩ := hP
  obtain ⟨hx, hb, -, -, -⟩ := id S
  obtain ⟨H, hT, hS, hgo⟩ : ∃ H : Heap, TX E K F G ((a, .inr (5, [.null, .null, .null, .null, .null, .null, .int 0])) :: L) H ∧ va_S (xA E) s.heap H [] ∧ H = s.heap := ⟨_, hT, va_S.rf, rfl⟩
  rw [← hgo]
  have hl : lv_has ls 1 [(0, .ref a)] := hl
  obtain ⟨hK, hA⟩ := hK
  obtain ⟨K0, eK⟩ : ∃ K0 : Nat → Nat, K0 = K := ⟨_, rfl⟩
  obtain ⟨F9, eF⟩ : ∃ F9 : Nat → Nat → Nat, F9 = F := ⟨_, rfl⟩
  obtain ⟨G0, eG⟩ : ∃ G0 : XG, G0 = G := ⟨_, rfl⟩
  have hgr : GR K0 F9 G0 K F G := by rw [eK, eF, eG]; exact GR.rf
  have hN : N11 K0 → N11 K := by rw [eK]; exact id
  refine lv_aload_n hx hb dX4_init_0 rfl (lv_at hl 0 rfl) ?_
  refine W.objInit hx hb S.2.2.2.1 (S.2.2.2.2 _ (List.mem_cons_of_mem _ km_X4_5)) (S.2.2.2.2 _ (List.mem_cons_of_mem _ koi.1)) (S.2.2.2.2 _ (List.mem_cons_of_mem _ koi.2)) rfl (by rw [S.2.2.1]; exact hl.1) rfl dX4_init_1 (Nat.le_of_ble_eq_true rfl) (Nat.le_of_ble_eq_true rfl) ?_
  refine W.eq (g2 := F0 m 4 ls []) rfl ?_
  refine lv_aload_n hx hb dX4_init_4 rfl (lv_at hl 0 rfl) ?_
  refine lv_sipush (v := 1080) hx hb dX4_init_5 (by decide) ?_
  refine tx_na0 S hK hz hT hS (N := 1080) (by decide) (by decide) (Nat.le_of_ble_eq_true rfl) (Nat.le_of_ble_eq_true rfl) (Nat.le_of_ble_eq_true rfl) dX4_init_8 (fun q1 H hT hS => ?_)
  refine tx_putF (C := RX4) (T := TX4) (N := 7) (ci := 5) (ty := (.array .int)) S hK hT hS inX4 tyX4 tyX4_ok nmX4 1 rfl rfl 0 (by decide) kf_X4_13 rfl hnm rfl (by decide +kernel) rfl rfl (Nat.le_of_ble_eq_true rfl) dX4_init_10 (fun H locs hT hS => ?_)
  have hT : TX E K F G ((q1, .inl (E.2.1 0, 1080, .inl (fun _ => 0))) :: (a, .inr (5, [.ref q1, .null, .null, .null, .null, .null, .int 0])) :: L) H := hT
  refine lv_aload_n hx hb dX4_init_13 rfl (lv_at hl 0 rfl) ?_
  refine lv_sipush (v := 1080) hx hb dX4_init_14 (by decide) ?_
  refine tx_na0 S hK hz hT hS (N := 1080) (by decide) (by decide) (Nat.le_of_ble_eq_true rfl) (Nat.le_of_ble_eq_true rfl) (Nat.le_of_ble_eq_true rfl) dX4_init_17 (fun q2 H hT hS => ?_)
  refine tx_putF (C := RX4) (T := TX4) (N := 7) (ci := 5) (ty := (.array .int)) S hK hT hS inX4 tyX4 tyX4_ok nmX4 2 rfl rfl 1 (by decide) kf_X4_17 rfl hnm rfl (by decide +kernel) rfl rfl (Nat.le_of_ble_eq_true rfl) dX4_init_19 (fun H locs hT hS => ?_)
  have hT : TX E K F G ((q2, .inl (E.2.1 0, 1080, .inl (fun _ => 0))) :: (q1, .inl (E.2.1 0, 1080, .inl (fun _ => 0))) :: (a, .inr (5, [.ref q1, .ref q2, .null, .null, .null, .null, .int 0])) :: L) H := hT
  refine lv_aload_n hx hb dX4_init_22 rfl (lv_at hl 0 rfl) ?_
  refine lv_sipush (v := 1080) hx hb dX4_init_23 (by decide) ?_
  refine tx_na0 S hK hz hT hS (N := 1080) (by decide) (by decide) (Nat.le_of_ble_eq_true rfl) (Nat.le_of_ble_eq_true rfl) (Nat.le_of_ble_eq_true rfl) dX4_init_26 (fun q3 H hT hS => ?_)
  refine tx_putF (C := RX4) (T := TX4) (N := 7) (ci := 5) (ty := (.array .int)) S hK hT hS inX4 tyX4 tyX4_ok nmX4 3 rfl rfl 2 (by decide) kf_X4_20 rfl hnm rfl (by decide +kernel) rfl rfl (Nat.le_of_ble_eq_true rfl) dX4_init_28 (fun H locs hT hS => ?_)
  have hT : TX E K F G ((q3, .inl (E.2.1 0, 1080, .inl (fun _ => 0))) :: (q2, .inl (E.2.1 0, 1080, .inl (fun _ => 0))) :: (q1, .inl (E.2.1 0, 1080, .inl (fun _ => 0))) :: (a, .inr (5, [.ref q1, .ref q2, .ref q3, .null, .null, .null, .int 0])) :: L) H := hT
  refine lv_aload_n hx hb dX4_init_31 rfl (lv_at hl 0 rfl) ?_
  refine lv_sipush (v := 1080) hx hb dX4_init_32 (by decide) ?_
  refine tx_na0 S hK hz hT hS (N := 1080) (by decide) (by decide) (Nat.le_of_ble_eq_true rfl) (Nat.le_of_ble_eq_true rfl) (Nat.le_of_ble_eq_true rfl) dX4_init_35 (fun q4 H hT hS => ?_)
  refine tx_putF (C := RX4) (T := TX4) (N := 7) (ci := 5) (ty := (.array .int)) S hK hT hS inX4 tyX4 tyX4_ok nmX4 4 rfl rfl 3 (by decide) kf_X4_23 rfl hnm rfl (by decide +kernel) rfl rfl (Nat.le_of_ble_eq_true rfl) dX4_init_37 (fun H locs hT hS => ?_)
  have hT : TX E K F G ((q4, .inl (E.2.1 0, 1080, .inl (fun _ => 0))) :: (q3, .inl (E.2.1 0, 1080, .inl (fun _ => 0))) :: (q2, .inl (E.2.1 0, 1080, .inl (fun _ => 0))) :: (q1, .inl (E.2.1 0, 1080, .inl (fun _ => 0))) :: (a, .inr (5, [.ref q1, .ref q2, .ref q3, .ref q4, .null, .null, .int 0])) :: L) H := hT
  refine lv_aload_n hx hb dX4_init_40 rfl (lv_at hl 0 rfl) ?_
  refine lv_sipush (v := 1080) hx hb dX4_init_41 (by decide) ?_
  refine tx_na3 S hK hz hT hS (N := 1080) (by decide) (by decide) (Nat.le_of_ble_eq_true rfl) (Nat.le_of_ble_eq_true rfl) (Nat.le_of_ble_eq_true rfl) dX4_init_44 (fun q5 H hT hS => ?_)
  refine tx_putF (C := RX4) (T := TX4) (N := 7) (ci := 5) (ty := (.array .boolean)) S hK hT hS inX4 tyX4 tyX4_ok nmX4 5 rfl rfl 4 (by decide) kf_X4_26 rfl hnm rfl (by decide +kernel) rfl rfl (Nat.le_of_ble_eq_true rfl) dX4_init_46 (fun H locs hT hS => ?_)
  have hT : TX E K F G ((q5, .inl (E.2.1 3, 1080, .inl (fun _ => 0))) :: (q4, .inl (E.2.1 0, 1080, .inl (fun _ => 0))) :: (q3, .inl (E.2.1 0, 1080, .inl (fun _ => 0))) :: (q2, .inl (E.2.1 0, 1080, .inl (fun _ => 0))) :: (q1, .inl (E.2.1 0, 1080, .inl (fun _ => 0))) :: (a, .inr (5, [.ref q1, .ref q2, .ref q3, .ref q4, .ref q5, .null, .int 0])) :: L) H := hT
  refine lv_aload_n hx hb dX4_init_49 rfl (lv_at hl 0 rfl) ?_
  refine lv_sipush (v := 1080) hx hb dX4_init_50 (by decide) ?_
  refine tx_na3 S hK hz hT hS (N := 1080) (by decide) (by decide) (Nat.le_of_ble_eq_true rfl) (Nat.le_of_ble_eq_true rfl) (Nat.le_of_ble_eq_true rfl) dX4_init_53 (fun q6 H hT hS => ?_)
  refine tx_putF (C := RX4) (T := TX4) (N := 7) (ci := 5) (ty := (.array .boolean)) S hK hT hS inX4 tyX4 tyX4_ok nmX4 6 rfl rfl 5 (by decide) kf_X4_30 rfl hnm rfl (by decide +kernel) rfl rfl (Nat.le_of_ble_eq_true rfl) dX4_init_55 (fun H locs hT hS => ?_)
  have hT : TX E K F G ((q6, .inl (E.2.1 3, 1080, .inl (fun _ => 0))) :: (q5, .inl (E.2.1 3, 1080, .inl (fun _ => 0))) :: (q4, .inl (E.2.1 0, 1080, .inl (fun _ => 0))) :: (q3, .inl (E.2.1 0, 1080, .inl (fun _ => 0))) :: (q2, .inl (E.2.1 0, 1080, .inl (fun _ => 0))) :: (q1, .inl (E.2.1 0, 1080, .inl (fun _ => 0))) :: (a, .inr (5, [.ref q1, .ref q2, .ref q3, .ref q4, .ref q5, .ref q6, .int 0])) :: L) H := hT
  obtain ⟨K, F, G, g, hall, n1, hT⟩ := TX.cls (L := ((a, .inr (5, [.ref q1, .ref q2, .ref q3, .ref q4, .ref q5, .ref q6, .int 0])) :: L)) [(q6, 23, 10 * J + 5, 3, 1080, (fun _ => 0)), (q5, 23, 10 * J + 4, 3, 1080, (fun _ => 0)), (q4, 22, 10 * J + 3, 0, 1080, (fun _ => 0)), (q3, 22, 10 * J + 2, 0, 1080, (fun _ => 0)), (q2, 22, 10 * J + 1, 0, 1080, (fun _ => 0)), (q1, 22, 10 * J + 0, 0, 1080, (fun _ => 0))] hT (List.forall_mem_cons.mpr ⟨⟨(show (23 : Nat) ≠ 0 by decide), (show (23 : Nat) ≠ 11 by decide), fun _ _ _ _ _ => ⟨3, 1080, rfl, rfl, (fun _ => xok_3)⟩⟩, List.forall_mem_cons.mpr ⟨⟨(show (23 : Nat) ≠ 0 by decide), (show (23 : Nat) ≠ 11 by decide), fun _ _ _ _ _ => ⟨3, 1080, rfl, rfl, (fun _ => xok_3)⟩⟩, List.forall_mem_cons.mpr ⟨⟨(show (22 : Nat) ≠ 0 by decide), (show (22 : Nat) ≠ 11 by decide), fun _ _ _ _ _ => ⟨0, 1080, rfl, rfl, (fun _ => trivial)⟩⟩, List.forall_mem_cons.mpr ⟨⟨(show (22 : Nat) ≠ 0 by decide), (show (22 : Nat) ≠ 11 by decide), fun _ _ _ _ _ => ⟨0, 1080, rfl, rfl, (fun _ => trivial)⟩⟩, List.forall_mem_cons.mpr ⟨⟨(show (22 : Nat) ≠ 0 by decide), (show (22 : Nat) ≠ 11 by decide), fun _ _ _ _ _ => ⟨0, 1080, rfl, rfl, (fun _ => trivial)⟩⟩, List.forall_mem_cons.mpr ⟨⟨(show (22 : Nat) ≠ 0 by decide), (show (22 : Nat) ≠ 11 by decide), fun _ _ _ _ _ => ⟨0, 1080, rfl, rfl, (fun _ => trivial)⟩⟩, List.forall_mem_nil _⟩⟩⟩⟩⟩⟩)
  have hgr := hgr.tr g
  have hN : N11 K0 → N11 K := fun h => n1 (hN h)
  have a_q6 : K q6 = 23 ∧ F q6 99 = 10 * J + 5 ∧ G.2.1 q6 = (fun _ => 0) := hall _ (List.mem_of_getElem? (i := 0) rfl)
  have a_q5 : K q5 = 23 ∧ F q5 99 = 10 * J + 4 ∧ G.2.1 q5 = (fun _ => 0) := hall _ (List.mem_of_getElem? (i := 1) rfl)
  have a_q4 : K q4 = 22 ∧ F q4 99 = 10 * J + 3 ∧ G.2.1 q4 = (fun _ => 0) := hall _ (List.mem_of_getElem? (i := 2) rfl)
  have a_q3 : K q3 = 22 ∧ F q3 99 = 10 * J + 2 ∧ G.2.1 q3 = (fun _ => 0) := hall _ (List.mem_of_getElem? (i := 3) rfl)
  have a_q2 : K q2 = 22 ∧ F q2 99 = 10 * J + 1 ∧ G.2.1 q2 = (fun _ => 0) := hall _ (List.mem_of_getElem? (i := 4) rfl)
  have a_q1 : K q1 = 22 ∧ F q1 99 = 10 * J + 0 ∧ G.2.1 q1 = (fun _ => 0) := hall _ (List.mem_of_getElem? (i := 5) rfl)
  obtain ⟨K, F, G, g, hk, hFa, hd, -, -, n1, hT⟩ := TX.cl (a := a) hT 6 (fvx J [q1, q2, q3, q4, q5, q6, 0]) (fun _ => 0) (fun _ => 0) (fun _ => none) (by decide) (fun K1 F1 hM hFF hF => ⟨by rw [hF] <;> rfl, by rw [hF]; exact hM _ _ a_q1.1 (by decide), by rw [hF]; exact (congrFun (hFF q1 (by rw [a_q1.1]; decide)) 99).trans a_q1.2.1, by rw [hF]; exact hM _ _ a_q2.1 (by decide), by rw [hF]; exact (congrFun (hFF q2 (by rw [a_q2.1]; decide)) 99).trans a_q2.2.1, by rw [hF]; exact hM _ _ a_q3.1 (by decide), by rw [hF]; exact (congrFun (hFF q3 (by rw [a_q3.1]; decide)) 99).trans a_q3.2.1, by rw [hF]; exact hM _ _ a_q4.1 (by decide), by rw [hF]; exact (congrFun (hFF q4 (by rw [a_q4.1]; decide)) 99).trans a_q4.2.1, by rw [hF]; exact hM _ _ a_q5.1 (by decide), by rw [hF]; exact (congrFun (hFF q5 (by rw [a_q5.1]; decide)) 99).trans a_q5.2.1, by rw [hF]; exact hM _ _ a_q6.1 (by decide), by rw [hF]; exact (congrFun (hFF q6 (by rw [a_q6.1]; decide)) 99).trans a_q6.2.1⟩)
  have n1 := n1 (by decide)
  have hgr := hgr.tr g
  have a_q6 : K q6 = 23 ∧ F q6 99 = 10 * J + 5 ∧ G.2.1 q6 = (fun _ => 0) := ⟨g.k a_q6.1 (by decide), by rw [(g.at a_q6.1 (by decide)).1]; exact a_q6.2.1, (g.at a_q6.1 (by decide)).2.2.1.trans a_q6.2.2⟩
  have a_q5 : K q5 = 23 ∧ F q5 99 = 10 * J + 4 ∧ G.2.1 q5 = (fun _ => 0) := ⟨g.k a_q5.1 (by decide), by rw [(g.at a_q5.1 (by decide)).1]; exact a_q5.2.1, (g.at a_q5.1 (by decide)).2.2.1.trans a_q5.2.2⟩
  have a_q4 : K q4 = 22 ∧ F q4 99 = 10 * J + 3 ∧ G.2.1 q4 = (fun _ => 0) := ⟨g.k a_q4.1 (by decide), by rw [(g.at a_q4.1 (by decide)).1]; exact a_q4.2.1, (g.at a_q4.1 (by decide)).2.2.1.trans a_q4.2.2⟩
  have a_q3 : K q3 = 22 ∧ F q3 99 = 10 * J + 2 ∧ G.2.1 q3 = (fun _ => 0) := ⟨g.k a_q3.1 (by decide), by rw [(g.at a_q3.1 (by decide)).1]; exact a_q3.2.1, (g.at a_q3.1 (by decide)).2.2.1.trans a_q3.2.2⟩
  have a_q2 : K q2 = 22 ∧ F q2 99 = 10 * J + 1 ∧ G.2.1 q2 = (fun _ => 0) := ⟨g.k a_q2.1 (by decide), by rw [(g.at a_q2.1 (by decide)).1]; exact a_q2.2.1, (g.at a_q2.1 (by decide)).2.2.1.trans a_q2.2.2⟩
  have a_q1 : K q1 = 22 ∧ F q1 99 = 10 * J + 0 ∧ G.2.1 q1 = (fun _ => 0) := ⟨g.k a_q1.1 (by decide), by rw [(g.at a_q1.1 (by decide)).1]; exact a_q1.2.1, (g.at a_q1.1 (by decide)).2.2.1.trans a_q1.2.2⟩
  have hN : N11 K0 → N11 K := fun h => n1 (hN h)
  have hpo : OBz 6 J K F G a := ⟨hk, by rw [hFa]; rfl, hd⟩
  exact x_rv hx hb hr hlk hQ (Nat.le_of_ble_eq_true rfl) (Nat.le_of_ble_eq_true rfl) hS dX4_init_58 (K, F, G) ⟨by rw [eK, eF, eG] at hgr; exact hgr, hpo, by rw [eK] at hN; exact hN⟩ hT

abbrev rm_X1_init : Room := { frames := 1, cells := 3, slots := 96, locals := 12 }
set_option maxHeartbeats 4000000 in
set_option maxRecDepth 100000 in
theorem c_X1_init (l : Launch) (E : XE) (K : Nat → Nat) (F : Nat → Nat → Nat) (G : XG) (L : va_W) (a : Nat) : Met l yX1_init (xw yX1_init cX1_init 1 none) rm_X1_init (va_Pc [.ref a] (XPx E K F G ((a, .inr (2, [.null, .null, .null, .int 0])) :: L))) (XQv E (fun (u : (Nat → Nat) × (Nat → Nat → Nat) × XG) => GR K F G u.1 u.2.1 u.2.2 ∧ (KNo 3 0 u.1 u.2.1 a) ∧ (N11 K → N11 u.1)) (fun u H => TX E u.1 u.2.1 u.2.2 L H)) 3 96 (xA E) := by
  refine x_enter (by decide) (Nat.le_of_ble_eq_true rfl) ?_
  intro p e s m args below meth c Q S hr hlk hnm hQ hP ls hl
  obtain ⟨hz, hK, hT⟩ := hP
  obtain ⟨hx, hb, -, -, -⟩ := id S
  obtain ⟨H, hT, hS, hgo⟩ : ∃ H : Heap, TX E K F G ((a, .inr (2, [.null, .null, .null, .int 0])) :: L) H ∧ va_S (xA E) s.heap H [] ∧ H = s.heap := ⟨_, hT, va_S.rf, rfl⟩
  rw [← hgo]
  have hl : lv_has ls 1 [(0, .ref a)] := hl
  obtain ⟨hK, hA⟩ := hK
  obtain ⟨K0, eK⟩ : ∃ K0 : Nat → Nat, K0 = K := ⟨_, rfl⟩
  obtain ⟨F9, eF⟩ : ∃ F9 : Nat → Nat → Nat, F9 = F := ⟨_, rfl⟩
  obtain ⟨G0, eG⟩ : ∃ G0 : XG, G0 = G := ⟨_, rfl⟩
  have hgr : GR K0 F9 G0 K F G := by rw [eK, eF, eG]; exact GR.rf
  have hN : N11 K0 → N11 K := by rw [eK]; exact id
  refine lv_aload_n hx hb dX1_init_0 rfl (lv_at hl 0 rfl) ?_
  refine W.objInit hx hb S.2.2.2.1 (S.2.2.2.2 _ (List.mem_cons_of_mem _ km_X1_3)) (S.2.2.2.2 _ (List.mem_cons_of_mem _ koi.1)) (S.2.2.2.2 _ (List.mem_cons_of_mem _ koi.2)) rfl (by rw [S.2.2.1]; exact hl.1) rfl dX1_init_1 (Nat.le_of_ble_eq_true rfl) (Nat.le_of_ble_eq_true rfl) ?_
  refine W.eq (g2 := F0 m 4 ls []) rfl ?_
  refine lv_aload_n hx hb dX1_init_4 rfl (lv_at hl 0 rfl) ?_
  refine lv_iconst (v := 3) hx hb dX1_init_5 (by decide) ?_
  refine tx_na0 S hK hz hT hS (N := 3) (by decide) (by decide) (Nat.le_of_ble_eq_true rfl) (Nat.le_of_ble_eq_true rfl) (Nat.le_of_ble_eq_true rfl) dX1_init_6 (fun q1 H hT hS => ?_)
  refine tx_putF (C := RX1) (T := TX1) (N := 4) (ci := 2) (ty := (.array .int)) S hK hT hS inX1 tyX1 tyX1_ok nmX1 1 rfl rfl 0 (by decide) kf_X1_9 rfl hnm rfl (by decide +kernel) rfl rfl (Nat.le_of_ble_eq_true rfl) dX1_init_8 (fun H locs hT hS => ?_)
  have hT : TX E K F G ((q1, .inl (E.2.1 0, 3, .inl (fun _ => 0))) :: (a, .inr (2, [.ref q1, .null, .null, .int 0])) :: L) H := hT
  refine lv_aload_n hx hb dX1_init_11 rfl (lv_at hl 0 rfl) ?_
  refine lv_iconst (v := 3) hx hb dX1_init_12 (by decide) ?_
  refine tx_na0 S hK hz hT hS (N := 3) (by decide) (by decide) (Nat.le_of_ble_eq_true rfl) (Nat.le_of_ble_eq_true rfl) (Nat.le_of_ble_eq_true rfl) dX1_init_13 (fun q2 H hT hS => ?_)
  refine tx_putF (C := RX1) (T := TX1) (N := 4) (ci := 2) (ty := (.array .int)) S hK hT hS inX1 tyX1 tyX1_ok nmX1 2 rfl rfl 1 (by decide) kf_X1_15 rfl hnm rfl (by decide +kernel) rfl rfl (Nat.le_of_ble_eq_true rfl) dX1_init_15 (fun H locs hT hS => ?_)
  have hT : TX E K F G ((q2, .inl (E.2.1 0, 3, .inl (fun _ => 0))) :: (q1, .inl (E.2.1 0, 3, .inl (fun _ => 0))) :: (a, .inr (2, [.ref q1, .ref q2, .null, .int 0])) :: L) H := hT
  refine lv_aload_n hx hb dX1_init_18 rfl (lv_at hl 0 rfl) ?_
  refine lv_bipush (v := 90) hx hb dX1_init_19 (by decide) ?_
  refine tx_na0 S hK hz hT hS (N := 90) (by decide) (by decide) (Nat.le_of_ble_eq_true rfl) (Nat.le_of_ble_eq_true rfl) (Nat.le_of_ble_eq_true rfl) dX1_init_21 (fun q3 H hT hS => ?_)
  refine tx_putF (C := RX1) (T := TX1) (N := 4) (ci := 2) (ty := (.array .int)) S hK hT hS inX1 tyX1 tyX1_ok nmX1 3 rfl rfl 2 (by decide) kf_X1_18 rfl hnm rfl (by decide +kernel) rfl rfl (Nat.le_of_ble_eq_true rfl) dX1_init_23 (fun H locs hT hS => ?_)
  have hT : TX E K F G ((q3, .inl (E.2.1 0, 90, .inl (fun _ => 0))) :: (q2, .inl (E.2.1 0, 3, .inl (fun _ => 0))) :: (q1, .inl (E.2.1 0, 3, .inl (fun _ => 0))) :: (a, .inr (2, [.ref q1, .ref q2, .ref q3, .int 0])) :: L) H := hT
  obtain ⟨K, F, G, g, hall, n1, hT⟩ := TX.cls (L := ((a, .inr (2, [.ref q1, .ref q2, .ref q3, .int 0])) :: L)) [(q3, 24, 4, 0, 90, (fun _ => 0)), (q2, 21, 101, 0, 3, (fun _ => 0)), (q1, 21, 100, 0, 3, (fun _ => 0))] hT (List.forall_mem_cons.mpr ⟨⟨(show (24 : Nat) ≠ 0 by decide), (show (24 : Nat) ≠ 11 by decide), fun _ _ _ _ _ => ⟨0, 90, rfl, rfl, (fun _ => trivial)⟩⟩, List.forall_mem_cons.mpr ⟨⟨(show (21 : Nat) ≠ 0 by decide), (show (21 : Nat) ≠ 11 by decide), fun _ _ _ _ _ => ⟨0, 3, rfl, rfl, (fun _ => trivial)⟩⟩, List.forall_mem_cons.mpr ⟨⟨(show (21 : Nat) ≠ 0 by decide), (show (21 : Nat) ≠ 11 by decide), fun _ _ _ _ _ => ⟨0, 3, rfl, rfl, (fun _ => trivial)⟩⟩, List.forall_mem_nil _⟩⟩⟩)
  have hgr := hgr.tr g
  have hN : N11 K0 → N11 K := fun h => n1 (hN h)
  have a_q3 : K q3 = 24 ∧ F q3 99 = 4 ∧ G.2.1 q3 = (fun _ => 0) := hall _ (List.mem_of_getElem? (i := 0) rfl)
  have a_q2 : K q2 = 21 ∧ F q2 99 = 101 ∧ G.2.1 q2 = (fun _ => 0) := hall _ (List.mem_of_getElem? (i := 1) rfl)
  have a_q1 : K q1 = 21 ∧ F q1 99 = 100 ∧ G.2.1 q1 = (fun _ => 0) := hall _ (List.mem_of_getElem? (i := 2) rfl)
  obtain ⟨K, F, G, g, hk, hFa, hd, -, -, n1, hT⟩ := TX.cl (a := a) hT 3 (fvx 0 [q1, q2, q3, 0]) (fun _ => 0) (fun _ => 0) (fun _ => none) (by decide) (fun K1 F1 hM hFF hF => ⟨by rw [hF] <;> rfl, by rw [hF]; exact hM _ _ a_q1.1 (by decide), by rw [hF]; exact (congrFun (hFF q1 (by rw [a_q1.1]; decide)) 99).trans a_q1.2.1, by rw [hF]; exact hM _ _ a_q2.1 (by decide), by rw [hF]; exact (congrFun (hFF q2 (by rw [a_q2.1]; decide)) 99).trans a_q2.2.1, by rw [hF]; exact hM _ _ a_q3.1 (by decide), by rw [hF]; exact (congrFun (hFF q3 (by rw [a_q3.1]; decide)) 99).trans a_q3.2.1⟩)
  have n1 := n1 (by decide)
  have hgr := hgr.tr g
  have a_q3 : K q3 = 24 ∧ F q3 99 = 4 ∧ G.2.1 q3 = (fun _ => 0) := ⟨g.k a_q3.1 (by decide), by rw [(g.at a_q3.1 (by decide)).1]; exact a_q3.2.1, (g.at a_q3.1 (by decide)).2.2.1.trans a_q3.2.2⟩
  have a_q2 : K q2 = 21 ∧ F q2 99 = 101 ∧ G.2.1 q2 = (fun _ => 0) := ⟨g.k a_q2.1 (by decide), by rw [(g.at a_q2.1 (by decide)).1]; exact a_q2.2.1, (g.at a_q2.1 (by decide)).2.2.1.trans a_q2.2.2⟩
  have a_q1 : K q1 = 21 ∧ F q1 99 = 100 ∧ G.2.1 q1 = (fun _ => 0) := ⟨g.k a_q1.1 (by decide), by rw [(g.at a_q1.1 (by decide)).1]; exact a_q1.2.1, (g.at a_q1.1 (by decide)).2.2.1.trans a_q1.2.2⟩
  have hN : N11 K0 → N11 K := fun h => n1 (hN h)
  have hpo : KNo 3 0 K F a := ⟨hk, by rw [hFa]; rfl⟩
  exact x_rv hx hb hr hlk hQ (Nat.le_of_ble_eq_true rfl) (Nat.le_of_ble_eq_true rfl) hS dX1_init_26 (K, F, G) ⟨by rw [eK, eF, eG] at hgr; exact hgr, hpo, by rw [eK] at hN; exact hN⟩ hT

abbrev rm_X2_init : Room := { frames := 1, cells := 4, slots := 360, locals := 12 }
set_option maxHeartbeats 4000000 in
set_option maxRecDepth 100000 in
theorem c_X2_init (l : Launch) (E : XE) (K : Nat → Nat) (F : Nat → Nat → Nat) (G : XG) (L : va_W) (a : Nat) : Met l yX2_init (xw yX2_init cX2_init 1 none) rm_X2_init (va_Pc [.ref a] (XPx E K F G ((a, .inr (3, [.null, .null, .null, .null, .int 0])) :: L))) (XQv E (fun (u : (Nat → Nat) × (Nat → Nat → Nat) × XG) => GR K F G u.1 u.2.1 u.2.2 ∧ (KNo 4 0 u.1 u.2.1 a) ∧ (N11 K → N11 u.1)) (fun u H => TX E u.1 u.2.1 u.2.2 L H)) 4 360 (xA E) := by
  refine x_enter (by decide) (Nat.le_of_ble_eq_true rfl) ?_
  intro p e s m args below meth c Q S hr hlk hnm hQ hP ls hl
  obtain ⟨hz, hK, hT⟩ := hP
  obtain ⟨hx, hb, -, -, -⟩ := id S
  obtain ⟨H, hT, hS, hgo⟩ : ∃ H : Heap, TX E K F G ((a, .inr (3, [.null, .null, .null, .null, .int 0])) :: L) H ∧ va_S (xA E) s.heap H [] ∧ H = s.heap := ⟨_, hT, va_S.rf, rfl⟩
  rw [← hgo]
  have hl : lv_has ls 1 [(0, .ref a)] := hl
  obtain ⟨hK, hA⟩ := hK
  obtain ⟨K0, eK⟩ : ∃ K0 : Nat → Nat, K0 = K := ⟨_, rfl⟩
  obtain ⟨F9, eF⟩ : ∃ F9 : Nat → Nat → Nat, F9 = F := ⟨_, rfl⟩
  obtain ⟨G0, eG⟩ : ∃ G0 : XG, G0 = G := ⟨_, rfl⟩
  have hgr : GR K0 F9 G0 K F G := by rw [eK, eF, eG]; exact GR.rf
  have hN : N11 K0 → N11 K := by rw [eK]; exact id
  refine lv_aload_n hx hb dX2_init_0 rfl (lv_at hl 0 rfl) ?_
  refine W.objInit hx hb S.2.2.2.1 (S.2.2.2.2 _ (List.mem_cons_of_mem _ km_X2_5)) (S.2.2.2.2 _ (List.mem_cons_of_mem _ koi.1)) (S.2.2.2.2 _ (List.mem_cons_of_mem _ koi.2)) rfl (by rw [S.2.2.1]; exact hl.1) rfl dX2_init_1 (Nat.le_of_ble_eq_true rfl) (Nat.le_of_ble_eq_true rfl) ?_
  refine W.eq (g2 := F0 m 4 ls []) rfl ?_
  refine lv_aload_n hx hb dX2_init_4 rfl (lv_at hl 0 rfl) ?_
  refine lv_bipush (v := 90) hx hb dX2_init_5 (by decide) ?_
  refine tx_na0 S hK hz hT hS (N := 90) (by decide) (by decide) (Nat.le_of_ble_eq_true rfl) (Nat.le_of_ble_eq_true rfl) (Nat.le_of_ble_eq_true rfl) dX2_init_7 (fun q1 H hT hS => ?_)
  refine tx_putF (C := RX2) (T := TX2) (N := 5) (ci := 3) (ty := (.array .int)) S hK hT hS inX2 tyX2 tyX2_ok nmX2 1 rfl rfl 0 (by decide) kf_X2_11 rfl hnm rfl (by decide +kernel) rfl rfl (Nat.le_of_ble_eq_true rfl) dX2_init_9 (fun H locs hT hS => ?_)
  have hT : TX E K F G ((q1, .inl (E.2.1 0, 90, .inl (fun _ => 0))) :: (a, .inr (3, [.ref q1, .null, .null, .null, .int 0])) :: L) H := hT
  refine lv_aload_n hx hb dX2_init_12 rfl (lv_at hl 0 rfl) ?_
  refine lv_bipush (v := 90) hx hb dX2_init_13 (by decide) ?_
  refine tx_na0 S hK hz hT hS (N := 90) (by decide) (by decide) (Nat.le_of_ble_eq_true rfl) (Nat.le_of_ble_eq_true rfl) (Nat.le_of_ble_eq_true rfl) dX2_init_15 (fun q2 H hT hS => ?_)
  refine tx_putF (C := RX2) (T := TX2) (N := 5) (ci := 3) (ty := (.array .int)) S hK hT hS inX2 tyX2 tyX2_ok nmX2 2 rfl rfl 1 (by decide) kf_X2_15 rfl hnm rfl (by decide +kernel) rfl rfl (Nat.le_of_ble_eq_true rfl) dX2_init_17 (fun H locs hT hS => ?_)
  have hT : TX E K F G ((q2, .inl (E.2.1 0, 90, .inl (fun _ => 0))) :: (q1, .inl (E.2.1 0, 90, .inl (fun _ => 0))) :: (a, .inr (3, [.ref q1, .ref q2, .null, .null, .int 0])) :: L) H := hT
  refine lv_aload_n hx hb dX2_init_20 rfl (lv_at hl 0 rfl) ?_
  refine lv_bipush (v := 90) hx hb dX2_init_21 (by decide) ?_
  refine tx_na0 S hK hz hT hS (N := 90) (by decide) (by decide) (Nat.le_of_ble_eq_true rfl) (Nat.le_of_ble_eq_true rfl) (Nat.le_of_ble_eq_true rfl) dX2_init_23 (fun q3 H hT hS => ?_)
  refine tx_putF (C := RX2) (T := TX2) (N := 5) (ci := 3) (ty := (.array .int)) S hK hT hS inX2 tyX2 tyX2_ok nmX2 3 rfl rfl 2 (by decide) kf_X2_18 rfl hnm rfl (by decide +kernel) rfl rfl (Nat.le_of_ble_eq_true rfl) dX2_init_25 (fun H locs hT hS => ?_)
  have hT : TX E K F G ((q3, .inl (E.2.1 0, 90, .inl (fun _ => 0))) :: (q2, .inl (E.2.1 0, 90, .inl (fun _ => 0))) :: (q1, .inl (E.2.1 0, 90, .inl (fun _ => 0))) :: (a, .inr (3, [.ref q1, .ref q2, .ref q3, .null, .int 0])) :: L) H := hT
  refine lv_aload_n hx hb dX2_init_28 rfl (lv_at hl 0 rfl) ?_
  refine lv_bipush (v := 90) hx hb dX2_init_29 (by decide) ?_
  refine tx_na0 S hK hz hT hS (N := 90) (by decide) (by decide) (Nat.le_of_ble_eq_true rfl) (Nat.le_of_ble_eq_true rfl) (Nat.le_of_ble_eq_true rfl) dX2_init_31 (fun q4 H hT hS => ?_)
  refine tx_putF (C := RX2) (T := TX2) (N := 5) (ci := 3) (ty := (.array .int)) S hK hT hS inX2 tyX2 tyX2_ok nmX2 4 rfl rfl 3 (by decide) kf_X2_21 rfl hnm rfl (by decide +kernel) rfl rfl (Nat.le_of_ble_eq_true rfl) dX2_init_33 (fun H locs hT hS => ?_)
  have hT : TX E K F G ((q4, .inl (E.2.1 0, 90, .inl (fun _ => 0))) :: (q3, .inl (E.2.1 0, 90, .inl (fun _ => 0))) :: (q2, .inl (E.2.1 0, 90, .inl (fun _ => 0))) :: (q1, .inl (E.2.1 0, 90, .inl (fun _ => 0))) :: (a, .inr (3, [.ref q1, .ref q2, .ref q3, .ref q4, .int 0])) :: L) H := hT
  obtain ⟨K, F, G, g, hall, n1, hT⟩ := TX.cls (L := ((a, .inr (3, [.ref q1, .ref q2, .ref q3, .ref q4, .int 0])) :: L)) [(q4, 24, 3, 0, 90, (fun _ => 0)), (q3, 24, 2, 0, 90, (fun _ => 0)), (q2, 24, 1, 0, 90, (fun _ => 0)), (q1, 24, 0, 0, 90, (fun _ => 0))] hT (List.forall_mem_cons.mpr ⟨⟨(show (24 : Nat) ≠ 0 by decide), (show (24 : Nat) ≠ 11 by decide), fun _ _ _ _ _ => ⟨0, 90, rfl, rfl, (fun _ => trivial)⟩⟩, List.forall_mem_cons.mpr ⟨⟨(show (24 : Nat) ≠ 0 by decide), (show (24 : Nat) ≠ 11 by decide), fun _ _ _ _ _ => ⟨0, 90, rfl, rfl, (fun _ => trivial)⟩⟩, List.forall_mem_cons.mpr ⟨⟨(show (24 : Nat) ≠ 0 by decide), (show (24 : Nat) ≠ 11 by decide), fun _ _ _ _ _ => ⟨0, 90, rfl, rfl, (fun _ => trivial)⟩⟩, List.forall_mem_cons.mpr ⟨⟨(show (24 : Nat) ≠ 0 by decide), (show (24 : Nat) ≠ 11 by decide), fun _ _ _ _ _ => ⟨0, 90, rfl, rfl, (fun _ => trivial)⟩⟩, List.forall_mem_nil _⟩⟩⟩⟩)
  have hgr := hgr.tr g
  have hN : N11 K0 → N11 K := fun h => n1 (hN h)
  have a_q4 : K q4 = 24 ∧ F q4 99 = 3 ∧ G.2.1 q4 = (fun _ => 0) := hall _ (List.mem_of_getElem? (i := 0) rfl)
  have a_q3 : K q3 = 24 ∧ F q3 99 = 2 ∧ G.2.1 q3 = (fun _ => 0) := hall _ (List.mem_of_getElem? (i := 1) rfl)
  have a_q2 : K q2 = 24 ∧ F q2 99 = 1 ∧ G.2.1 q2 = (fun _ => 0) := hall _ (List.mem_of_getElem? (i := 2) rfl)
  have a_q1 : K q1 = 24 ∧ F q1 99 = 0 ∧ G.2.1 q1 = (fun _ => 0) := hall _ (List.mem_of_getElem? (i := 3) rfl)
  obtain ⟨K, F, G, g, hk, hFa, hd, -, -, n1, hT⟩ := TX.cl (a := a) hT 4 (fvx 0 [q1, q2, q3, q4, 0]) (fun _ => 0) (fun _ => 0) (fun _ => none) (by decide) (fun K1 F1 hM hFF hF => ⟨by rw [hF] <;> rfl, by rw [hF]; exact hM _ _ a_q1.1 (by decide), by rw [hF]; exact (congrFun (hFF q1 (by rw [a_q1.1]; decide)) 99).trans a_q1.2.1, by rw [hF]; exact hM _ _ a_q2.1 (by decide), by rw [hF]; exact (congrFun (hFF q2 (by rw [a_q2.1]; decide)) 99).trans a_q2.2.1, by rw [hF]; exact hM _ _ a_q3.1 (by decide), by rw [hF]; exact (congrFun (hFF q3 (by rw [a_q3.1]; decide)) 99).trans a_q3.2.1, by rw [hF]; exact hM _ _ a_q4.1 (by decide), by rw [hF]; exact (congrFun (hFF q4 (by rw [a_q4.1]; decide)) 99).trans a_q4.2.1⟩)
  have n1 := n1 (by decide)
  have hgr := hgr.tr g
  have a_q4 : K q4 = 24 ∧ F q4 99 = 3 ∧ G.2.1 q4 = (fun _ => 0) := ⟨g.k a_q4.1 (by decide), by rw [(g.at a_q4.1 (by decide)).1]; exact a_q4.2.1, (g.at a_q4.1 (by decide)).2.2.1.trans a_q4.2.2⟩
  have a_q3 : K q3 = 24 ∧ F q3 99 = 2 ∧ G.2.1 q3 = (fun _ => 0) := ⟨g.k a_q3.1 (by decide), by rw [(g.at a_q3.1 (by decide)).1]; exact a_q3.2.1, (g.at a_q3.1 (by decide)).2.2.1.trans a_q3.2.2⟩
  have a_q2 : K q2 = 24 ∧ F q2 99 = 1 ∧ G.2.1 q2 = (fun _ => 0) := ⟨g.k a_q2.1 (by decide), by rw [(g.at a_q2.1 (by decide)).1]; exact a_q2.2.1, (g.at a_q2.1 (by decide)).2.2.1.trans a_q2.2.2⟩
  have a_q1 : K q1 = 24 ∧ F q1 99 = 0 ∧ G.2.1 q1 = (fun _ => 0) := ⟨g.k a_q1.1 (by decide), by rw [(g.at a_q1.1 (by decide)).1]; exact a_q1.2.1, (g.at a_q1.1 (by decide)).2.2.1.trans a_q1.2.2⟩
  have hN : N11 K0 → N11 K := fun h => n1 (hN h)
  have hpo : KNo 4 0 K F a := ⟨hk, by rw [hFa]; rfl⟩
  exact x_rv hx hb hr hlk hQ (Nat.le_of_ble_eq_true rfl) (Nat.le_of_ble_eq_true rfl) hS dX2_init_36 (K, F, G) ⟨by rw [eK, eF, eG] at hgr; exact hgr, hpo, by rw [eK] at hN; exact hN⟩ hT

abbrev rm_X3_init : Room := { frames := 1, cells := 3, slots := 183, locals := 12 }
set_option maxHeartbeats 4000000 in
set_option maxRecDepth 100000 in
theorem c_X3_init (l : Launch) (E : XE) (K : Nat → Nat) (F : Nat → Nat → Nat) (G : XG) (L : va_W) (a : Nat) : Met l yX3_init (xw yX3_init cX3_init 1 none) rm_X3_init (va_Pc [.ref a] (XPx E K F G ((a, .inr (4, [.null, .null, .null, .int 0])) :: L))) (XQv E (fun (u : (Nat → Nat) × (Nat → Nat → Nat) × XG) => GR K F G u.1 u.2.1 u.2.2 ∧ (KNo 5 0 u.1 u.2.1 a) ∧ (N11 K → N11 u.1)) (fun u H => TX E u.1 u.2.1 u.2.2 L H)) 3 183 (xA E) := by
  refine x_enter (by decide) (Nat.le_of_ble_eq_true rfl) ?_
  intro p e s m args below meth c Q S hr hlk hnm hQ hP ls hl
  obtain ⟨hz, hK, hT⟩ := hP
  obtain ⟨hx, hb, -, -, -⟩ := id S
  obtain ⟨H, hT, hS, hgo⟩ : ∃ H : Heap, TX E K F G ((a, .inr (4, [.null, .null, .null, .int 0])) :: L) H ∧ va_S (xA E) s.heap H [] ∧ H = s.heap := ⟨_, hT, va_S.rf, rfl⟩
  rw [← hgo]
  have hl : lv_has ls 1 [(0, .ref a)] := hl
  obtain ⟨hK, hA⟩ := hK
  obtain ⟨K0, eK⟩ : ∃ K0 : Nat → Nat, K0 = K := ⟨_, rfl⟩
  obtain ⟨F9, eF⟩ : ∃ F9 : Nat → Nat → Nat, F9 = F := ⟨_, rfl⟩
  obtain ⟨G0, eG⟩ : ∃ G0 : XG, G0 = G := ⟨_, rfl⟩
  have hgr : GR K0 F9 G0 K F G := by rw [eK, eF, eG]; exact GR.rf
  have hN : N11 K0 → N11 K := by rw [eK]; exact id
  refine lv_aload_n hx hb dX3_init_0 rfl (lv_at hl 0 rfl) ?_
  refine W.objInit hx hb S.2.2.2.1 (S.2.2.2.2 _ (List.mem_cons_of_mem _ km_X3_3)) (S.2.2.2.2 _ (List.mem_cons_of_mem _ koi.1)) (S.2.2.2.2 _ (List.mem_cons_of_mem _ koi.2)) rfl (by rw [S.2.2.1]; exact hl.1) rfl dX3_init_1 (Nat.le_of_ble_eq_true rfl) (Nat.le_of_ble_eq_true rfl) ?_
  refine W.eq (g2 := F0 m 4 ls []) rfl ?_
  refine lv_aload_n hx hb dX3_init_4 rfl (lv_at hl 0 rfl) ?_
  refine lv_iconst (v := 3) hx hb dX3_init_5 (by decide) ?_
  refine tx_na0 S hK hz hT hS (N := 3) (by decide) (by decide) (Nat.le_of_ble_eq_true rfl) (Nat.le_of_ble_eq_true rfl) (Nat.le_of_ble_eq_true rfl) dX3_init_6 (fun q1 H hT hS => ?_)
  refine tx_putF (C := RX3) (T := TX3) (N := 4) (ci := 4) (ty := (.array .int)) S hK hT hS inX3 tyX3 tyX3_ok nmX3 1 rfl rfl 0 (by decide) kf_X3_9 rfl hnm rfl (by decide +kernel) rfl rfl (Nat.le_of_ble_eq_true rfl) dX3_init_8 (fun H locs hT hS => ?_)
  have hT : TX E K F G ((q1, .inl (E.2.1 0, 3, .inl (fun _ => 0))) :: (a, .inr (4, [.ref q1, .null, .null, .int 0])) :: L) H := hT
  refine lv_aload_n hx hb dX3_init_11 rfl (lv_at hl 0 rfl) ?_
  refine lv_bipush (v := 90) hx hb dX3_init_12 (by decide) ?_
  refine tx_na0 S hK hz hT hS (N := 90) (by decide) (by decide) (Nat.le_of_ble_eq_true rfl) (Nat.le_of_ble_eq_true rfl) (Nat.le_of_ble_eq_true rfl) dX3_init_14 (fun q2 H hT hS => ?_)
  refine tx_putF (C := RX3) (T := TX3) (N := 4) (ci := 4) (ty := (.array .int)) S hK hT hS inX3 tyX3 tyX3_ok nmX3 2 rfl rfl 1 (by decide) kf_X3_15 rfl hnm rfl (by decide +kernel) rfl rfl (Nat.le_of_ble_eq_true rfl) dX3_init_16 (fun H locs hT hS => ?_)
  have hT : TX E K F G ((q2, .inl (E.2.1 0, 90, .inl (fun _ => 0))) :: (q1, .inl (E.2.1 0, 3, .inl (fun _ => 0))) :: (a, .inr (4, [.ref q1, .ref q2, .null, .int 0])) :: L) H := hT
  refine lv_aload_n hx hb dX3_init_19 rfl (lv_at hl 0 rfl) ?_
  refine lv_bipush (v := 90) hx hb dX3_init_20 (by decide) ?_
  refine tx_na0 S hK hz hT hS (N := 90) (by decide) (by decide) (Nat.le_of_ble_eq_true rfl) (Nat.le_of_ble_eq_true rfl) (Nat.le_of_ble_eq_true rfl) dX3_init_22 (fun q3 H hT hS => ?_)
  refine tx_putF (C := RX3) (T := TX3) (N := 4) (ci := 4) (ty := (.array .int)) S hK hT hS inX3 tyX3 tyX3_ok nmX3 3 rfl rfl 2 (by decide) kf_X3_18 rfl hnm rfl (by decide +kernel) rfl rfl (Nat.le_of_ble_eq_true rfl) dX3_init_24 (fun H locs hT hS => ?_)
  have hT : TX E K F G ((q3, .inl (E.2.1 0, 90, .inl (fun _ => 0))) :: (q2, .inl (E.2.1 0, 90, .inl (fun _ => 0))) :: (q1, .inl (E.2.1 0, 3, .inl (fun _ => 0))) :: (a, .inr (4, [.ref q1, .ref q2, .ref q3, .int 0])) :: L) H := hT
  obtain ⟨K, F, G, g, hall, n1, hT⟩ := TX.cls (L := ((a, .inr (4, [.ref q1, .ref q2, .ref q3, .int 0])) :: L)) [(q3, 24, 6, 0, 90, (fun _ => 0)), (q2, 24, 5, 0, 90, (fun _ => 0)), (q1, 21, 102, 0, 3, (fun _ => 0))] hT (List.forall_mem_cons.mpr ⟨⟨(show (24 : Nat) ≠ 0 by decide), (show (24 : Nat) ≠ 11 by decide), fun _ _ _ _ _ => ⟨0, 90, rfl, rfl, (fun _ => trivial)⟩⟩, List.forall_mem_cons.mpr ⟨⟨(show (24 : Nat) ≠ 0 by decide), (show (24 : Nat) ≠ 11 by decide), fun _ _ _ _ _ => ⟨0, 90, rfl, rfl, (fun _ => trivial)⟩⟩, List.forall_mem_cons.mpr ⟨⟨(show (21 : Nat) ≠ 0 by decide), (show (21 : Nat) ≠ 11 by decide), fun _ _ _ _ _ => ⟨0, 3, rfl, rfl, (fun _ => trivial)⟩⟩, List.forall_mem_nil _⟩⟩⟩)
  have hgr := hgr.tr g
  have hN : N11 K0 → N11 K := fun h => n1 (hN h)
  have a_q3 : K q3 = 24 ∧ F q3 99 = 6 ∧ G.2.1 q3 = (fun _ => 0) := hall _ (List.mem_of_getElem? (i := 0) rfl)
  have a_q2 : K q2 = 24 ∧ F q2 99 = 5 ∧ G.2.1 q2 = (fun _ => 0) := hall _ (List.mem_of_getElem? (i := 1) rfl)
  have a_q1 : K q1 = 21 ∧ F q1 99 = 102 ∧ G.2.1 q1 = (fun _ => 0) := hall _ (List.mem_of_getElem? (i := 2) rfl)
  obtain ⟨K, F, G, g, hk, hFa, hd, -, -, n1, hT⟩ := TX.cl (a := a) hT 5 (fvx 0 [q1, q2, q3, 0]) (fun _ => 0) (fun _ => 0) (fun _ => none) (by decide) (fun K1 F1 hM hFF hF => ⟨by rw [hF] <;> rfl, by rw [hF]; exact hM _ _ a_q1.1 (by decide), by rw [hF]; exact (congrFun (hFF q1 (by rw [a_q1.1]; decide)) 99).trans a_q1.2.1, by rw [hF]; exact hM _ _ a_q2.1 (by decide), by rw [hF]; exact (congrFun (hFF q2 (by rw [a_q2.1]; decide)) 99).trans a_q2.2.1, by rw [hF]; exact hM _ _ a_q3.1 (by decide), by rw [hF]; exact (congrFun (hFF q3 (by rw [a_q3.1]; decide)) 99).trans a_q3.2.1⟩)
  have n1 := n1 (by decide)
  have hgr := hgr.tr g
  have a_q3 : K q3 = 24 ∧ F q3 99 = 6 ∧ G.2.1 q3 = (fun _ => 0) := ⟨g.k a_q3.1 (by decide), by rw [(g.at a_q3.1 (by decide)).1]; exact a_q3.2.1, (g.at a_q3.1 (by decide)).2.2.1.trans a_q3.2.2⟩
  have a_q2 : K q2 = 24 ∧ F q2 99 = 5 ∧ G.2.1 q2 = (fun _ => 0) := ⟨g.k a_q2.1 (by decide), by rw [(g.at a_q2.1 (by decide)).1]; exact a_q2.2.1, (g.at a_q2.1 (by decide)).2.2.1.trans a_q2.2.2⟩
  have a_q1 : K q1 = 21 ∧ F q1 99 = 102 ∧ G.2.1 q1 = (fun _ => 0) := ⟨g.k a_q1.1 (by decide), by rw [(g.at a_q1.1 (by decide)).1]; exact a_q1.2.1, (g.at a_q1.1 (by decide)).2.2.1.trans a_q1.2.2⟩
  have hN : N11 K0 → N11 K := fun h => n1 (hN h)
  have hpo : KNo 5 0 K F a := ⟨hk, by rw [hFa]; rfl⟩
  exact x_rv hx hb hr hlk hQ (Nat.le_of_ble_eq_true rfl) (Nat.le_of_ble_eq_true rfl) hS dX3_init_27 (K, F, G) ⟨by rw [eK, eF, eG] at hgr; exact hgr, hpo, by rw [eK] at hN; exact hN⟩ hT

abbrev rm_J5_init_d00df : Room := { frames := 1, cells := 1, slots := 16, locals := 12 }
set_option maxHeartbeats 4000000 in
set_option maxRecDepth 100000 in
theorem c_J5_init_d00df (l : Launch) (E : XE) (K : Nat → Nat) (F : Nat → Nat → Nat) (G : XG) (L : va_W) (a : Nat)  : Met l yJ5_init_d00df (xw yJ5_init_d00df cJ5_init_d00df 2 none) rm_J5_init_d00df (va_Pc [.ref a, .int 16] (XPx E K F G ((a, .inr (0, [.null, .int 0, .int 0, .int 0])) :: L))) (XQv E (fun (u : Nat) => True) (fun u H => TX E K F G ((a, .inr (0, [.ref u, .int 0, .int 0, .int 0])) :: (u, .inl (E.2.1 2, 16, .inl (fun _ => 0))) :: L) H)) 1 16 (xA E) := by
  refine x_enter (by decide) (Nat.le_of_ble_eq_true rfl) ?_
  intro p e s m args below meth c Q S hr hlk hnm hQ hP ls hl
  obtain ⟨hz, hK, hT⟩ := hP
  obtain ⟨hx, hb, -, -, -⟩ := id S
  obtain ⟨H, hT, hS, hgo⟩ : ∃ H : Heap, TX E K F G ((a, .inr (0, [.null, .int 0, .int 0, .int 0])) :: L) H ∧ va_S (xA E) s.heap H [] ∧ H = s.heap := ⟨_, hT, va_S.rf, rfl⟩
  rw [← hgo]
  have hl : lv_has ls 2 [(0, .ref a), (1, .int 16)] := hl
  obtain ⟨hK, hA⟩ := hK
  refine lv_aload_n hx hb dJ5_init_d00df_0 rfl (lv_at hl 0 rfl) ?_
  refine W.objInit hx hb S.2.2.2.1 (S.2.2.2.2 _ (List.mem_cons_of_mem _ km_J5_3)) (S.2.2.2.2 _ (List.mem_cons_of_mem _ koi.1)) (S.2.2.2.2 _ (List.mem_cons_of_mem _ koi.2)) rfl (by rw [S.2.2.1]; exact hl.1) rfl dJ5_init_d00df_1 (Nat.le_of_ble_eq_true rfl) (Nat.le_of_ble_eq_true rfl) ?_
  refine W.eq (g2 := F0 m 4 ls []) rfl ?_
  refine va_gets hx hb hK.2.2.2.2.1 hS S.2.2.2.1 (S.2.2.2.2 _ (List.mem_cons_of_mem _ kf_J5_18)) (fun _ h => h) dJ5_init_d00df_4 ?_
  refine xi_zeq (tgt := 25) hx hb ((by decide) : Int32.toInt 1 = (1 : Int)) dJ5_init_d00df_7 (by decide) (fun c => absurd c (show ¬ ((1 : Int) = 0) by decide)) (fun _ => ?_)
  refine lv_aload_n hx hb dJ5_init_d00df_10 rfl (lv_at hl 0 rfl) ?_
  refine lv_iload_n hx hb dJ5_init_d00df_11 rfl (lv_at hl 1 rfl) ?_
  refine tx_na2 S hK hz hT hS (N := 16) (by decide) (by decide) (Nat.le_of_ble_eq_true rfl) (Nat.le_of_ble_eq_true rfl) (Nat.le_of_ble_eq_true rfl) dJ5_init_d00df_12 (fun q1 H hT hS => ?_)
  refine tx_put (C := RJ4) (T := TJ4) (N := 4) (ci := 0) (ty := (.array .byte)) S hK hT hS inJ4 tyJ4 tyJ4_ok nmJ4 1 rfl rfl 0 (by decide) kf_J5_15 rfl (by decide +kernel) rfl rfl (Nat.le_of_ble_eq_true rfl) dJ5_init_d00df_14 (fun H locs hT hS => ?_)
  have hT : TX E K F G ((q1, .inl (E.2.1 2, 16, .inl (fun _ => 0))) :: (a, .inr (0, [.ref q1, .int 0, .int 0, .int 0])) :: L) H := hT
  refine lv_aload_n hx hb dJ5_init_d00df_17 rfl (lv_at hl 0 rfl) ?_
  refine lv_iconst (v := 0) hx hb dJ5_init_d00df_18 (by decide) ?_
  refine tx_put (C := RJ4) (T := TJ4) (N := 4) (ci := 0) (ty := .byte) S hK hT hS inJ4 tyJ4 tyJ4_ok nmJ4 1 rfl rfl 1 (by decide) kf_J5_22 rfl (by decide +kernel) rfl rfl (Nat.le_of_ble_eq_true rfl) dJ5_init_d00df_19 (fun H locs hT hS => ?_)
  have hT : TX E K F G ((q1, .inl (E.2.1 2, 16, .inl (fun _ => 0))) :: (a, .inr (0, [.ref q1, .int 0, .int 0, .int 0])) :: L) H := hT
  refine lv_goto (tgt := 38) hx hb dJ5_init_d00df_22 (by decide) ?_
  have hT := hT.sw
  exact x_rv hx hb hr hlk hQ (Nat.le_of_ble_eq_true rfl) (Nat.le_of_ble_eq_true rfl) hS dJ5_init_d00df_38 q1 trivial hT

abbrev rm_J4_init_da8c8 : Room := { frames := 2, cells := 1, slots := 16, locals := 33 }
set_option maxHeartbeats 4000000 in
set_option maxRecDepth 100000 in
theorem c_J4_init_da8c8 (l : Launch) (E : XE) (K : Nat → Nat) (F : Nat → Nat → Nat) (G : XG) (L : va_W) (a : Nat)  : Met l yJ4_init_da8c8 (xw yJ4_init_da8c8 cJ4_init_da8c8 1 none) rm_J4_init_da8c8 (va_Pc [.ref a] (XPx E K F G ((a, .inr (0, [.null, .int 0, .int 0, .int 0])) :: L))) (XQv E (fun (u : Nat) => True) (fun u H => TX E K F G ((a, .inr (0, [.ref u, .int 0, .int 0, .int 0])) :: (u, .inl (E.2.1 2, 16, .inl (fun _ => 0))) :: L) H)) 1 16 (xA E) := by
  refine x_enter (by decide) (Nat.le_of_ble_eq_true rfl) ?_
  intro p e s m args below meth c Q S hr hlk hnm hQ hP ls hl
  obtain ⟨hz, hK, hT⟩ := hP
  obtain ⟨hx, hb, -, -, -⟩ := id S
  obtain ⟨H, hT, hS, hgo⟩ : ∃ H : Heap, TX E K F G ((a, .inr (0, [.null, .int 0, .int 0, .int 0])) :: L) H ∧ va_S (xA E) s.heap H [] ∧ H = s.heap := ⟨_, hT, va_S.rf, rfl⟩
  rw [← hgo]
  have hl : lv_has ls 1 [(0, .ref a)] := hl
  obtain ⟨hK, hA⟩ := hK
  refine lv_aload_n hx hb dJ4_init_da8c8_0 rfl (lv_at hl 0 rfl) ?_
  refine lv_bipush (v := 16) hx hb dJ4_init_da8c8_1 (by decide) ?_
  refine x_cv (x_runI (b := a) (As := [.int 16]) (rest := []) S (c_J5_init_d00df l E K F G (L) a) mi_J5_init_d00df rfl km_J4_1 rfl rfl ⟨Nat.le_of_ble_eq_true rfl, Nat.le_of_ble_eq_true rfl⟩ hK (fun _ => XPx.blind) (fun U hU hW => XPx.at hK hA hz hS hT hU hW) rfl hl.1 (Nat.le_of_ble_eq_true rfl) dJ4_init_da8c8_3 ⟨Nat.le_of_ble_eq_true rfl, Nat.le_of_ble_eq_true rfl⟩) hS ?_
  rintro q1 H locs - hT hS
  have hT : TX E K F G ((a, .inr (0, [.ref q1, .int 0, .int 0, .int 0])) :: (q1, .inl (E.2.1 2, 16, .inl (fun _ => 0))) :: L) H := hT
  exact x_rv hx hb hr hlk hQ (Nat.le_of_ble_eq_true rfl) (Nat.le_of_ble_eq_true rfl) hS dJ4_init_da8c8_6 q1 trivial hT

abbrev rm_X9_init : Room := { frames := 3, cells := 2, slots := 20, locals := 53 }
set_option maxHeartbeats 4000000 in
set_option maxRecDepth 100000 in
theorem c_X9_init (l : Launch) (E : XE) (K : Nat → Nat) (F : Nat → Nat → Nat) (G : XG) (L : va_W) (a : Nat)  : Met l yX9_init (xw yX9_init cX9_init 1 none) rm_X9_init (va_Pc [.ref a] (XPx E K F G ((a, .inr (10, [.null, .int 0, .int 0, .int 0])) :: L))) (XQv E (fun (u : Nat × Nat) => True) (fun u H => TX E K F G ((a, .inr (10, [.ref u.1, .int 0, .int 0, .int 0])) :: (u.1, .inr (0, [.ref u.2, .int 0, .int 0, .int 0])) :: (u.2, .inl (E.2.1 2, 16, .inl (fun _ => 0))) :: L) H)) 2 20 (xA E) := by
  refine x_enter (by decide) (Nat.le_of_ble_eq_true rfl) ?_
  intro p e s m args below meth c Q S hr hlk hnm hQ hP ls hl
  obtain ⟨hz, hK, hT⟩ := hP
  obtain ⟨hx, hb, -, -, -⟩ := id S
  obtain ⟨H, hT, hS, hgo⟩ : ∃ H : Heap, TX E K F G ((a, .inr (10, [.null, .int 0, .int 0, .int 0])) :: L) H ∧ va_S (xA E) s.heap H [] ∧ H = s.heap := ⟨_, hT, va_S.rf, rfl⟩
  rw [← hgo]
  have hl : lv_has ls 1 [(0, .ref a)] := hl
  obtain ⟨hK, hA⟩ := hK
  refine lv_aload_n hx hb dX9_init_0 rfl (lv_at hl 0 rfl) ?_
  refine W.objInit hx hb S.2.2.2.1 (S.2.2.2.2 _ (List.mem_cons_of_mem _ km_X9_3)) (S.2.2.2.2 _ (List.mem_cons_of_mem _ koi.1)) (S.2.2.2.2 _ (List.mem_cons_of_mem _ koi.2)) rfl (by rw [S.2.2.1]; exact hl.1) rfl dX9_init_1 (Nat.le_of_ble_eq_true rfl) (Nat.le_of_ble_eq_true rfl) ?_
  refine W.eq (g2 := F0 m 4 ls []) rfl ?_
  refine lv_aload_n hx hb dX9_init_4 rfl (lv_at hl 0 rfl) ?_
  refine tx_new (ci := 0) (fs := [.null, .int 0, .int 0, .int 0]) S hK hz hT hS inJ4 tyJ4 tyJ4_ok kn_X9_9 kin_J4.1 kin_J4.2 rfl (by intro j hj; match j, hj with | 0, _ => rfl | 1, _ => rfl | 2, _ => rfl | 3, _ => rfl | j + 4, hj => exact absurd hj (by omega)) (Nat.le_of_ble_eq_true rfl) (Nat.le_of_ble_eq_true rfl) dX9_init_5 (fun q1 H hT hS => ?_)
  refine lv_dup hx hb dX9_init_8 rfl ?_
  refine x_cv (x_runI (b := q1) (As := []) (rest := [.ref q1, .ref a]) S (c_J4_init_da8c8 l E K F G ((a, .inr (10, [.null, .int 0, .int 0, .int 0])) :: L) q1) mi_J4_init_da8c8 rfl km_X9_11 rfl rfl ⟨Nat.le_of_ble_eq_true rfl, Nat.le_of_ble_eq_true rfl⟩ hK (fun _ => XPx.blind) (fun U hU hW => XPx.at hK hA hz hS hT hU hW) rfl hl.1 (Nat.le_of_ble_eq_true rfl) dX9_init_9 ⟨Nat.le_of_ble_eq_true rfl, Nat.le_of_ble_eq_true rfl⟩) hS ?_
  rintro q2 H locs - hT hS
  have hT : TX E K F G ((q1, .inr (0, [.ref q2, .int 0, .int 0, .int 0])) :: (q2, .inl (E.2.1 2, 16, .inl (fun _ => 0))) :: (a, .inr (10, [.null, .int 0, .int 0, .int 0])) :: L) H := hT
  refine tx_putF (C := RX9) (T := TX9) (N := 4) (ci := 10) (ty := (.object "java/lang/StringBuilder")) S hK hT hS inX9 tyX9 tyX9_ok nmX9 2 rfl rfl 0 (by decide) kf_X9_12 rfl hnm rfl (by decide +kernel) rfl rfl (Nat.le_of_ble_eq_true rfl) dX9_init_12 (fun H locs hT hS => ?_)
  have hT : TX E K F G ((q1, .inr (0, [.ref q2, .int 0, .int 0, .int 0])) :: (q2, .inl (E.2.1 2, 16, .inl (fun _ => 0))) :: (a, .inr (10, [.ref q1, .int 0, .int 0, .int 0])) :: L) H := hT
  have hT := hT.rot
  exact x_rv hx hb hr hlk hQ (Nat.le_of_ble_eq_true rfl) (Nat.le_of_ble_eq_true rfl) hS dX9_init_15 (q1, q2) trivial hT

