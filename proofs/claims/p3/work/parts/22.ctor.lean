theorem kin_X0 : Cond.instantiable RX0 3 ∈ GT ∧ Cond.initialized RX0 ∈ GT := ⟨GT_mem 167 (by decide +kernel) rfl, GT_mem 94 (by decide +kernel) rfl⟩
theorem kin_X1 : Cond.instantiable RX1 4 ∈ GT ∧ Cond.initialized RX1 ∈ GT := ⟨GT_mem 229 (by decide +kernel) rfl, GT_mem 97 (by decide +kernel) rfl⟩
theorem kin_X2 : Cond.instantiable RX2 5 ∈ GT ∧ Cond.initialized RX2 ∈ GT := ⟨GT_mem 248 (by decide +kernel) rfl, GT_mem 98 (by decide +kernel) rfl⟩
theorem kin_X3 : Cond.instantiable RX3 4 ∈ GT ∧ Cond.initialized RX3 ∈ GT := ⟨GT_mem 270 (by decide +kernel) rfl, GT_mem 99 (by decide +kernel) rfl⟩
theorem kin_X4 : Cond.instantiable RX4 7 ∈ GT ∧ Cond.initialized RX4 ∈ GT := ⟨GT_mem 200 (by decide +kernel) rfl, GT_mem 96 (by decide +kernel) rfl⟩
theorem kin_X5 : Cond.instantiable RX5 6 ∈ GT ∧ Cond.initialized RX5 ∈ GT := ⟨GT_mem 142 (by decide +kernel) rfl, GT_mem 93 (by decide +kernel) rfl⟩
theorem kin_X6 : Cond.instantiable RX6 2 ∈ GT ∧ Cond.initialized RX6 ∈ GT := ⟨GT_mem 185 (by decide +kernel) rfl, GT_mem 95 (by decide +kernel) rfl⟩
theorem kin_X7 : Cond.instantiable RX7 10 ∈ GT ∧ Cond.initialized RX7 ∈ GT := ⟨GT_mem 513 (by decide +kernel) rfl, GT_mem 111 (by decide +kernel) rfl⟩
theorem kin_X8 : Cond.instantiable RX8 2 ∈ GT ∧ Cond.initialized RX8 ∈ GT := ⟨GT_mem 128 (by decide +kernel) rfl, GT_mem 92 (by decide +kernel) rfl⟩
theorem kin_X9 : Cond.instantiable RX9 4 ∈ GT ∧ Cond.initialized RX9 ∈ GT := ⟨GT_mem 289 (by decide +kernel) rfl, GT_mem 100 (by decide +kernel) rfl⟩
theorem kin_X10 : Cond.instantiable RX10 19 ∈ GT ∧ Cond.initialized RX10 ∈ GT := ⟨GT_mem 120 (by decide +kernel) rfl, GT_mem 91 (by decide +kernel) rfl⟩
theorem kin_X11 : Cond.instantiable RX11 52 ∈ GT ∧ Cond.initialized RX11 ∈ GT := ⟨GT_mem 1395 (by decide +kernel) rfl, GT_mem 105 (by decide +kernel) rfl⟩
theorem kin_J4 : Cond.instantiable RJ4 4 ∈ GT ∧ Cond.initialized RJ4 ∈ GT := ⟨GT_mem 295 (by decide +kernel) rfl, GT_mem 102 (by decide +kernel) rfl⟩
theorem kn_X0_9 : Cond.classLink RX0 9 RX7 ∈ GT := GT_mem 172 (by decide +kernel) rfl
theorem TX.rot {E : XE} {K : Nat → Nat} {F : Nat → Nat → Nat} {G : XG} {L : va_W} {H : Heap} {x y z : Nat × va_E} (h : TX E K F G (x :: y :: z :: L) H) : TX E K F G (z :: x :: y :: L) H := by
  obtain ⟨ws, hw, hL, hl, hP, hD⟩ := h
  refine ⟨ws, hw, ?_, ?_, hP, hD⟩
  · intro q hq
    refine hL q ?_
    rcases List.mem_cons.mp hq with e | hq
    · rw [e]; exact List.mem_cons_of_mem _ (List.mem_cons_of_mem _ List.mem_cons_self)
    · rcases List.mem_cons.mp hq with e | hq
      · rw [e]; exact List.mem_cons_self
      · rcases List.mem_cons.mp hq with e | hq
        · rw [e]; exact List.mem_cons_of_mem _ List.mem_cons_self
        · exact List.mem_cons_of_mem _ (List.mem_cons_of_mem _ (List.mem_cons_of_mem _ hq))
  · have h1 := hl.tl.tl.tl.cons (x := y) (fun q hq => hl.tl.nx q (List.mem_cons_of_mem _ hq))
    have h2 := h1.cons (x := x) (fun q hq => by
      rcases List.mem_cons.mp hq with e | hq
      · rw [e]; exact hl.nx y List.mem_cons_self
      · exact hl.nx q (List.mem_cons_of_mem _ (List.mem_cons_of_mem _ hq)))
    refine h2.cons (fun q hq => ?_)
    rcases List.mem_cons.mp hq with e | hq
    · rw [e]; exact fun t => hl.nx z (List.mem_cons_of_mem _ List.mem_cons_self) t.symm
    · rcases List.mem_cons.mp hq with e | hq
      · rw [e]; exact fun t => hl.tl.nx z List.mem_cons_self t.symm
      · exact hl.tl.tl.nx q hq
theorem RV0 : RV (fun _ => 0) := fun r _ _ => by
  have h : ∀ z : Int, aI (fun _ => 0) z = 0 := fun _ => rfl
  unfold RVr
  simp only [h]
  omega
abbrev rm_X8_init : Room := { frames := 1, cells := 1, slots := 80, locals := 12 }
set_option maxHeartbeats 4000000 in
set_option maxRecDepth 100000 in
theorem c_X8_init (l : Launch) (E : XE) (K : Nat → Nat) (F : Nat → Nat → Nat) (G : XG) (L : va_W) (a : Nat) (hG : G.1 = 0) (hN : ∀ k ∈ [10], ∀ b, K b ≠ k) : Met l yX8_init (xw yX8_init cX8_init 1 none) rm_X8_init (va_Pc [.ref a] (XPx E K F G ((a, .inr (9, [.null, .int 0])) :: L))) (XQv E (fun (u : (Nat → Nat) × (Nat → Nat → Nat)) => KM K u.1 ∧ u.1 a = 10 ∧ NU [25, 10] K u.1) (fun u H => TX E u.1 u.2 G L H)) 1 80 (xA E) := by
  refine x_enter (by decide) (Nat.le_of_ble_eq_true rfl) ?_
  intro p e s m args below meth c Q S hr hlk hnm hQ hP ls hl
  obtain ⟨hz, hK, hT⟩ := hP
  obtain ⟨hx, hb, -, -, -⟩ := id S
  obtain ⟨H, hT, hS, hgo⟩ : ∃ H : Heap, TX E K F G ((a, .inr (9, [.null, .int 0])) :: L) H ∧ va_S (xA E) s.heap H [] ∧ H = s.heap := ⟨_, hT, va_S.rf, rfl⟩
  rw [← hgo]
  have hl : lv_has ls 1 [(0, .ref a)] := hl
  obtain ⟨hK, hA⟩ := hK
  have hM0 : KM K K := KM.rf
  have hU : NU [] K K := NU.rf
  refine lv_aload_n hx hb dX8_init_0 rfl (lv_at hl 0 rfl) ?_
  refine W.objInit hx hb S.2.2.2.1 (S.2.2.2.2 _ (List.mem_cons_of_mem _ km_X8_1)) (S.2.2.2.2 _ (List.mem_cons_of_mem _ koi.1)) (S.2.2.2.2 _ (List.mem_cons_of_mem _ koi.2)) rfl (by rw [S.2.2.1]; exact hl.1) rfl dX8_init_1 (Nat.le_of_ble_eq_true rfl) (Nat.le_of_ble_eq_true rfl) ?_
  refine W.eq (g2 := F0 m 4 ls []) rfl ?_
  refine lv_aload_n hx hb dX8_init_4 rfl (lv_at hl 0 rfl) ?_
  refine lv_bipush (v := 80) hx hb dX8_init_5 (by decide) ?_
  refine tx_na1 S hK hz hT hS (N := 80) (by decide) (by decide) (Nat.le_of_ble_eq_true rfl) (Nat.le_of_ble_eq_true rfl) (Nat.le_of_ble_eq_true rfl) dX8_init_7 (fun q1 H hT hS => ?_)
  obtain ⟨K, F, hM, hk2, hU9, hT⟩ := hT.cl 25 (fun j => 0) (by decide) (fun hq => absurd hq (by decide)) (fun K1 F1 hM hF => aw_25 _ (fun _ => rfl))
  have hM0 := KM.tr hM0 hM
  have hU := NU.tr hU hU9
  refine tx_putF (C := RX8) (T := TX8) (N := 2) (ci := 9) (ty := (.array .char)) S hK hT hS inX8 tyX8 tyX8_ok nmX8 0 rfl rfl 0 (by decide) kf_X8_9 rfl hnm rfl (by decide +kernel) rfl rfl (Nat.le_of_ble_eq_true rfl) dX8_init_9 (fun H locs hT hS => ?_)
  have hT : TX E K F G ((a, .inr (9, [.ref q1, .int 0])) :: L) H := hT
  obtain ⟨K, F, hM, hk3, hU9, hT⟩ := hT.cl 10 (fun j => ([q1, 0] : List Nat).getD j 0) (by decide) (fun _ => NU.no hU (hN 10 (by decide)) (by decide) (by decide)) (fun K1 F1 hM hF => ⟨by rw [hF 0, hG]; rfl, by rw [hF 0]; exact hM _ _ hk2 (by decide)⟩)
  have hM0 := KM.tr hM0 hM
  have hU := NU.tr hU hU9
  exact x_rv hx hb hr hlk hQ (Nat.le_of_ble_eq_true rfl) (Nat.le_of_ble_eq_true rfl) hS dX8_init_12 (K, F) ⟨hM0, hk3, NU.sub hU (by decide)⟩ hT

abbrev rm_X5_init : Room := { frames := 1, cells := 0, slots := 0, locals := 12 }
set_option maxHeartbeats 4000000 in
set_option maxRecDepth 100000 in
theorem c_X5_init (l : Launch) (E : XE) (K : Nat → Nat) (F : Nat → Nat → Nat) (G : XG) (L : va_W) (a : Nat) (p0 : Nat) (hp0 : K p0 = 10) (hG : G.2.1.getD 16 0 = 0 ∧ G.2.1.getD 17 0 = 0 ∧ G.2.1.getD 18 0 = 0 ∧ G.2.1.getD 19 0 = 0 ∧ G.2.1.getD 20 0 = 0) (hN : ∀ k ∈ [7], ∀ b, K b ≠ k) : Met l yX5_init (xw yX5_init cX5_init 2 none) rm_X5_init (va_Pc [.ref a, .ref p0] (XPx E K F G ((a, .inr (6, [.null, .int 0, .int 0, .int 0, .int 0, .int 0])) :: L))) (XQv E (fun (u : (Nat → Nat) × (Nat → Nat → Nat)) => KM K u.1 ∧ u.1 a = 7 ∧ NU [7] K u.1) (fun u H => TX E u.1 u.2 G L H)) 0 0 (xA E) := by
  refine x_enter (by decide) (Nat.le_of_ble_eq_true rfl) ?_
  intro p e s m args below meth c Q S hr hlk hnm hQ hP ls hl
  obtain ⟨hz, hK, hT⟩ := hP
  obtain ⟨hx, hb, -, -, -⟩ := id S
  obtain ⟨H, hT, hS, hgo⟩ : ∃ H : Heap, TX E K F G ((a, .inr (6, [.null, .int 0, .int 0, .int 0, .int 0, .int 0])) :: L) H ∧ va_S (xA E) s.heap H [] ∧ H = s.heap := ⟨_, hT, va_S.rf, rfl⟩
  rw [← hgo]
  have hl : lv_has ls 2 [(0, .ref a), (1, .ref p0)] := hl
  obtain ⟨hK, hA⟩ := hK
  have hM0 : KM K K := KM.rf
  have hU : NU [] K K := NU.rf
  refine lv_aload_n hx hb dX5_init_0 rfl (lv_at hl 0 rfl) ?_
  refine W.objInit hx hb S.2.2.2.1 (S.2.2.2.2 _ (List.mem_cons_of_mem _ km_X5_3)) (S.2.2.2.2 _ (List.mem_cons_of_mem _ koi.1)) (S.2.2.2.2 _ (List.mem_cons_of_mem _ koi.2)) rfl (by rw [S.2.2.1]; exact hl.1) rfl dX5_init_1 (Nat.le_of_ble_eq_true rfl) (Nat.le_of_ble_eq_true rfl) ?_
  refine W.eq (g2 := F0 m 4 ls []) rfl ?_
  refine lv_aload_n hx hb dX5_init_4 rfl (lv_at hl 0 rfl) ?_
  refine lv_aload_n hx hb dX5_init_5 rfl (lv_at hl 1 rfl) ?_
  refine tx_putF (C := RX5) (T := TX5) (N := 6) (ci := 6) (ty := (.object "LateRules$Text")) S hK hT hS inX5 tyX5 tyX5_ok nmX5 0 rfl rfl 0 (by decide) kf_X5_9 rfl hnm rfl (by decide +kernel) rfl rfl (Nat.le_of_ble_eq_true rfl) dX5_init_6 (fun H locs hT hS => ?_)
  have hT : TX E K F G ((a, .inr (6, [.ref p0, .int 0, .int 0, .int 0, .int 0, .int 0])) :: L) H := hT
  obtain ⟨K, F, hM, hk1, hU9, hT⟩ := hT.cl 7 (fun j => ([p0, 0, 0, 0, 0, 0] : List Nat).getD j 0) (by decide) (fun _ => NU.no hU (hN 7 (by decide)) (by decide) (by decide)) (fun K1 F1 hM hF => ⟨by rw [hF 0, hG.1, hG.2.1, hG.2.2.1, hG.2.2.2.1, hG.2.2.2.2]; rfl, by rw [hF 0]; exact hM _ _ hp0 (by decide)⟩)
  have hk2 : K p0 = 10 := hM _ _ hp0 (by decide)
  have hM0 := KM.tr hM0 hM
  have hU := NU.tr hU hU9
  exact x_rv hx hb hr hlk hQ (Nat.le_of_ble_eq_true rfl) (Nat.le_of_ble_eq_true rfl) hS dX5_init_9 (K, F) ⟨hM0, hk1, NU.sub hU (by decide)⟩ hT

abbrev rm_X0_init : Room := { frames := 1, cells := 2, slots := 24, locals := 12 }
set_option maxHeartbeats 4000000 in
set_option maxRecDepth 100000 in
theorem c_X0_init (l : Launch) (E : XE) (K : Nat → Nat) (F : Nat → Nat → Nat) (G : XG) (L : va_W) (a : Nat)  : Met l yX0_init (xw yX0_init cX0_init 1 none) rm_X0_init (va_Pc [.ref a] (XPx E K F G ((a, .inr (1, [.null, .null, .int 0])) :: L))) (XQv E (fun (u : (Nat → Nat) × (Nat → Nat → Nat)) => KM K u.1 ∧ u.1 a = 2 ∧ NU [15, 2] K u.1) (fun u H => TX E u.1 u.2 G L H)) 2 24 (xA E) := by
  refine x_enter (by decide) (Nat.le_of_ble_eq_true rfl) ?_
  intro p e s m args below meth c Q S hr hlk hnm hQ hP ls hl
  obtain ⟨hz, hK, hT⟩ := hP
  obtain ⟨hx, hb, -, -, -⟩ := id S
  obtain ⟨H, hT, hS, hgo⟩ : ∃ H : Heap, TX E K F G ((a, .inr (1, [.null, .null, .int 0])) :: L) H ∧ va_S (xA E) s.heap H [] ∧ H = s.heap := ⟨_, hT, va_S.rf, rfl⟩
  rw [← hgo]
  have hl : lv_has ls 1 [(0, .ref a)] := hl
  obtain ⟨hK, hA⟩ := hK
  have hM0 : KM K K := KM.rf
  have hU : NU [] K K := NU.rf
  refine lv_aload_n hx hb dX0_init_0 rfl (lv_at hl 0 rfl) ?_
  refine W.objInit hx hb S.2.2.2.1 (S.2.2.2.2 _ (List.mem_cons_of_mem _ km_X0_3)) (S.2.2.2.2 _ (List.mem_cons_of_mem _ koi.1)) (S.2.2.2.2 _ (List.mem_cons_of_mem _ koi.2)) rfl (by rw [S.2.2.1]; exact hl.1) rfl dX0_init_1 (Nat.le_of_ble_eq_true rfl) (Nat.le_of_ble_eq_true rfl) ?_
  refine W.eq (g2 := F0 m 4 ls []) rfl ?_
  refine lv_aload_n hx hb dX0_init_4 rfl (lv_at hl 0 rfl) ?_
  refine lv_bipush (v := 12) hx hb dX0_init_5 (by decide) ?_
  refine tx_nq4 S hK hA.1 hz hT hS kn_X0_9 (N := 12) (by decide) (by decide) (Nat.le_of_ble_eq_true rfl) (Nat.le_of_ble_eq_true rfl) (Nat.le_of_ble_eq_true rfl) dX0_init_7 (fun q1 H hT hS => ?_)
  obtain ⟨K, F, hM, hk2, hU9, hT⟩ := hT.cl 15 (fun j => 0) (by decide) (fun hq => absurd hq (by decide)) (fun K1 F1 hM hF => ⟨fun _ => none, rfl, fun _ _ h => by cases h⟩)
  have hM0 := KM.tr hM0 hM
  have hU := NU.tr hU hU9
  refine tx_putF (C := RX0) (T := TX0) (N := 3) (ci := 1) (ty := (.array (.object "LateRules$Rule"))) S hK hT hS inX0 tyX0 tyX0_ok nmX0 0 rfl rfl 0 (by decide) kf_X0_11 rfl hnm rfl (by decide +kernel) rfl rfl (Nat.le_of_ble_eq_true rfl) dX0_init_10 (fun H locs hT hS => ?_)
  have hT : TX E K F G ((a, .inr (1, [.ref q1, .null, .int 0])) :: L) H := hT
  refine lv_aload_n hx hb dX0_init_13 rfl (lv_at hl 0 rfl) ?_
  refine lv_bipush (v := 12) hx hb dX0_init_14 (by decide) ?_
  refine tx_nq4 S hK hA.1 hz hT hS kn_X0_9 (N := 12) (by decide) (by decide) (Nat.le_of_ble_eq_true rfl) (Nat.le_of_ble_eq_true rfl) (Nat.le_of_ble_eq_true rfl) dX0_init_16 (fun q3 H hT hS => ?_)
  obtain ⟨K, F, hM, hk4, hU9, hT⟩ := hT.cl 15 (fun j => 0) (by decide) (fun hq => absurd hq (by decide)) (fun K1 F1 hM hF => ⟨fun _ => none, rfl, fun _ _ h => by cases h⟩)
  have hk5 : K q1 = 15 := hM _ _ hk2 (by decide)
  have hM0 := KM.tr hM0 hM
  have hU := NU.tr hU hU9
  refine tx_putF (C := RX0) (T := TX0) (N := 3) (ci := 1) (ty := (.array (.object "LateRules$Rule"))) S hK hT hS inX0 tyX0 tyX0_ok nmX0 0 rfl rfl 1 (by decide) kf_X0_17 rfl hnm rfl (by decide +kernel) rfl rfl (Nat.le_of_ble_eq_true rfl) dX0_init_19 (fun H locs hT hS => ?_)
  have hT : TX E K F G ((a, .inr (1, [.ref q1, .ref q3, .int 0])) :: L) H := hT
  obtain ⟨K, F, hM, hk6, hU9, hT⟩ := hT.cl 2 (fun j => ([q1, q3, 0] : List Nat).getD j 0) (by decide) (fun hq => absurd hq (by decide)) (fun K1 F1 hM hF => ⟨0, by rw [hF 0, hF 1]; rfl, by rw [hF 0]; exact hM _ _ hk5 (by decide), by rw [hF 1]; exact hM _ _ hk4 (by decide)⟩)
  have hM0 := KM.tr hM0 hM
  have hU := NU.tr hU hU9
  exact x_rv hx hb hr hlk hQ (Nat.le_of_ble_eq_true rfl) (Nat.le_of_ble_eq_true rfl) hS dX0_init_22 (K, F) ⟨hM0, hk6, NU.sub hU (by decide)⟩ hT

theorem z_X6_init_1 (a0 : Int) (h0 : (0 : Int) ≤ a0) (r0 : -2147483648 ≤ a0 ∧ a0 < 2147483648) : ¬ (2147483648 - a0 < ((0 : Nat) : Int)) := by omega
theorem z_X6_init_2 (a0 : Int) (a1 : Nat) (h0 : (0 : Int) ≤ a0) (h1 : 2147483648 - a0 < ((a1 + 1 : Nat) : Int)) (h2 : ¬ ((270 : Int) ≤ a0)) (r0 : -2147483648 ≤ a0 ∧ a0 < 2147483648) : 0 ≤ a0 ∧ a0 < ((270 : Nat) : Int) := by omega
theorem z_X6_init_3 (a0 : Int) (a1 : Int) (a2 : Nat) (h0 : (0 : Int) ≤ a1) (h1 : 2147483648 - a1 < ((a2 + 1 : Nat) : Int)) (h2 : ¬ ((270 : Int) ≤ a1)) (h3 : a0 = a1 + 1 ∨ a1 + 1 < -2147483648 ∨ 2147483648 ≤ a1 + 1) (r0 : -2147483648 ≤ a0 ∧ a0 < 2147483648) (r1 : -2147483648 ≤ a1 ∧ a1 < 2147483648) : (0 : Int) ≤ a0 := by omega
theorem z_X6_init_4 (a0 : Int) (a1 : Int) (a2 : Nat) (h0 : (0 : Int) ≤ a1) (h1 : 2147483648 - a1 < ((a2 + 1 : Nat) : Int)) (h2 : ¬ ((270 : Int) ≤ a1)) (h3 : a0 = a1 + 1 ∨ a1 + 1 < -2147483648 ∨ 2147483648 ≤ a1 + 1) (r0 : -2147483648 ≤ a0 ∧ a0 < 2147483648) (r1 : -2147483648 ≤ a1 ∧ a1 < 2147483648) : 2147483648 - a0 < ((a2 : Nat) : Int) := by omega
abbrev rm_X6_init : Room := { frames := 1, cells := 2, slots := 273, locals := 12 }
set_option maxHeartbeats 4000000 in
set_option maxRecDepth 100000 in
theorem c_X6_init (l : Launch) (E : XE) (K : Nat → Nat) (F : Nat → Nat → Nat) (G : XG) (L : va_W) (a : Nat)  : Met l yX6_init (xw yX6_init cX6_init 2 none) rm_X6_init (va_Pc [.ref a] (XPx E K F G ((a, .inr (7, [.null, .null])) :: L))) (XQv E (fun (u : (Nat → Nat) × (Nat → Nat → Nat)) => KM K u.1 ∧ u.1 a = 8 ∧ NU [20, 21, 8] K u.1) (fun u H => TX E u.1 u.2 G L H)) 2 273 (xA E) := by
  refine x_enter (by decide) (Nat.le_of_ble_eq_true rfl) ?_
  intro p e s m args below meth c Q S hr hlk hnm hQ hP ls hl
  obtain ⟨hz, hK, hT⟩ := hP
  obtain ⟨hx, hb, -, -, -⟩ := id S
  obtain ⟨H, hT, hS, hgo⟩ : ∃ H : Heap, TX E K F G ((a, .inr (7, [.null, .null])) :: L) H ∧ va_S (xA E) s.heap H [] ∧ H = s.heap := ⟨_, hT, va_S.rf, rfl⟩
  rw [← hgo]
  have hl : lv_has ls 2 [(0, .ref a)] := hl
  obtain ⟨hK, hA⟩ := hK
  have hM0 : KM K K := KM.rf
  have hU : NU [] K K := NU.rf
  refine lv_aload_n hx hb dX6_init_0 rfl (lv_at hl 0 rfl) ?_
  refine W.objInit hx hb S.2.2.2.1 (S.2.2.2.2 _ (List.mem_cons_of_mem _ km_X6_3)) (S.2.2.2.2 _ (List.mem_cons_of_mem _ koi.1)) (S.2.2.2.2 _ (List.mem_cons_of_mem _ koi.2)) rfl (by rw [S.2.2.1]; exact hl.1) rfl dX6_init_1 (Nat.le_of_ble_eq_true rfl) (Nat.le_of_ble_eq_true rfl) ?_
  refine W.eq (g2 := F0 m 4 ls []) rfl ?_
  refine lv_aload_n hx hb dX6_init_4 rfl (lv_at hl 0 rfl) ?_
  refine lv_sipush (v := 270) hx hb dX6_init_5 (by decide) ?_
  refine tx_na0 S hK hz hT hS (N := 270) (by decide) (by decide) (Nat.le_of_ble_eq_true rfl) (Nat.le_of_ble_eq_true rfl) (Nat.le_of_ble_eq_true rfl) dX6_init_8 (fun q1 H hT hS => ?_)
  obtain ⟨K, F, hM, hk2, hU9, hT⟩ := hT.cl 20 (fun j => 0) (by decide) (fun hq => absurd hq (by decide)) (fun K1 F1 hM hF => aw_20 _ (fun _ => trivial))
  have hM0 := KM.tr hM0 hM
  have hU := NU.tr hU hU9
  refine tx_putF (C := RX6) (T := TX6) (N := 2) (ci := 7) (ty := (.array .int)) S hK hT hS inX6 tyX6 tyX6_ok nmX6 0 rfl rfl 0 (by decide) kf_X6_9 rfl hnm rfl (by decide +kernel) rfl rfl (Nat.le_of_ble_eq_true rfl) dX6_init_10 (fun H locs hT hS => ?_)
  have hT : TX E K F G ((a, .inr (7, [.ref q1, .null])) :: L) H := hT
  refine lv_aload_n hx hb dX6_init_13 rfl (lv_at hl 0 rfl) ?_
  refine lv_iconst (v := 3) hx hb dX6_init_14 (by decide) ?_
  refine tx_na0 S hK hz hT hS (N := 3) (by decide) (by decide) (Nat.le_of_ble_eq_true rfl) (Nat.le_of_ble_eq_true rfl) (Nat.le_of_ble_eq_true rfl) dX6_init_15 (fun q3 H hT hS => ?_)
  obtain ⟨K, F, hM, hk4, hU9, hT⟩ := hT.cl 21 (fun j => 0) (by decide) (fun hq => absurd hq (by decide)) (fun K1 F1 hM hF => aw_21 _ (fun _ => trivial))
  have hk5 : K q1 = 20 := hM _ _ hk2 (by decide)
  have hM0 := KM.tr hM0 hM
  have hU := NU.tr hU hU9
  refine tx_putF (C := RX6) (T := TX6) (N := 2) (ci := 7) (ty := (.array .int)) S hK hT hS inX6 tyX6 tyX6_ok nmX6 0 rfl rfl 1 (by decide) kf_X6_15 rfl hnm rfl (by decide +kernel) rfl rfl (Nat.le_of_ble_eq_true rfl) dX6_init_17 (fun H locs hT hS => ?_)
  have hT : TX E K F G ((a, .inr (7, [.ref q1, .ref q3])) :: L) H := hT
  refine lv_iconst (v := 0) hx hb dX6_init_20 (by decide) ?_
  refine lv_istore_n (lv' := [(1, .int 0), (0, .ref a)]) hx hb dX6_init_21 rfl hl (by decide) rfl (fun ls hl => ?_)
  have L22 : ∀ (N7 : Nat) (x6 : Int32) (H : Heap) (locs : List Loc) (ls : Array Slot), (0 : Int) ≤ x6.toInt → 2147483648 - x6.toInt < ((N7 : Nat) : Int) → TX E K F G ((a, .inr (7, [.ref q1, .ref q3])) :: L) H → va_S (xA E) s.heap H locs → lv_has ls 2 [(0, .ref a), (1, .int x6)] → W p l e rm_X6_init s m args below meth c H locs 2 273 Q (F0 m 22 ls []) := by
    intro N7
    induction N7 with
    | zero =>
      intro x6 H locs ls hf8 hm9
      exact absurd hm9 (z_X6_init_1 x6.toInt hf8 (xr x6))
    | succ N7 ih10 =>
      intro x6 H locs ls hf8 hm9 hT hS hl
      refine lv_iload_n hx hb dX6_init_22 rfl (lv_at hl 1 rfl) ?_
      refine lv_aload_n hx hb dX6_init_23 rfl (lv_at hl 0 rfl) ?_
      refine tx_get (C := RX6) (T := TX6) (N := 2) (ci := 7) S hK hT inX6 0 rfl rfl 0 (by decide) kf_X6_9 rfl dX6_init_24 ?_
      refine tx_len S hK hT hk5 ar_20 (by decide) rfl dX6_init_27 ?_
      refine xi_cge (tgt := 46) hx hb (rfl : Int32.toInt x6 = x6.toInt) ((by decide) : Int32.toInt 270 = (270 : Int)) dX6_init_28 (by decide) (fun c11 => ?_) (fun c11 => ?_)
      · obtain ⟨K, F, hM, hk12, hU9, hT⟩ := hT.cl 8 (fun j => ([q1, q3] : List Nat).getD j 0) (by decide) (fun hq => absurd hq (by decide)) (fun K1 F1 hM hF => ⟨by rw [hF 0, hF 1]; rfl, by rw [hF 0]; exact hM _ _ hk5 (by decide), by rw [hF 1]; exact hM _ _ hk4 (by decide)⟩)
        have hM0 := KM.tr hM0 hM
        have hU := NU.tr hU hU9
        exact x_rv hx hb hr hlk hQ (Nat.le_of_ble_eq_true rfl) (Nat.le_of_ble_eq_true rfl) hS dX6_init_46 (K, F) ⟨hM0, hk12, NU.sub hU (by decide)⟩ hT
      · refine lv_aload_n hx hb dX6_init_31 rfl (lv_at hl 0 rfl) ?_
        refine tx_get (C := RX6) (T := TX6) (N := 2) (ci := 7) S hK hT inX6 0 rfl rfl 0 (by decide) kf_X6_9 rfl dX6_init_32 ?_
        refine lv_iload_n hx hb dX6_init_35 rfl (lv_at hl 1 rfl) ?_
        refine lv_sipush (v := (-2000)) hx hb dX6_init_36 (by decide) ?_
        refine tx_as0 S hK hT hS hk5 ar_20 aw_20 (by decide) (z_X6_init_2 x6.toInt N7 hf8 hm9 c11 (xr x6)) dX6_init_39 (fun H locs hT hS => ?_)
        refine xi_iinc (n := 1) (lv' := fun z9 => [(1, .int z9), (0, .ref a)]) (k := 1) hx hb (rfl : Int32.toInt x6 = x6.toInt) (by decide) dX6_init_40 hl rfl (by decide) (fun _ => rfl) (fun x13 ls t14 hl => ?_)
        have hl : lv_has ls 2 [(1, .int x13), (0, .ref a)] := hl
        refine lv_goto (tgt := 22) hx hb dX6_init_43 (by decide) ?_
        exact ih10 x13 _ _ _ (z_X6_init_3 x13.toInt x6.toInt N7 hf8 hm9 c11 t14 (xr x13) (xr x6)) (z_X6_init_4 x13.toInt x6.toInt N7 hf8 hm9 c11 t14 (xr x13) (xr x6)) hT hS (lv_sub hl [1, 0] rfl)
  exact L22 4294967297 0 _ _ _ (by decide) (by decide) hT hS (lv_sub hl [1, 0] rfl)

abbrev rm_X4_init : Room := { frames := 1, cells := 6, slots := 6480, locals := 12 }
set_option maxHeartbeats 4000000 in
set_option maxRecDepth 100000 in
theorem c_X4_init (l : Launch) (E : XE) (K : Nat → Nat) (F : Nat → Nat → Nat) (G : XG) (L : va_W) (a : Nat)  : Met l yX4_init (xw yX4_init cX4_init 1 none) rm_X4_init (va_Pc [.ref a] (XPx E K F G ((a, .inr (5, [.null, .null, .null, .null, .null, .null, .int 0])) :: L))) (XQv E (fun (u : (Nat → Nat) × (Nat → Nat → Nat)) => KM K u.1 ∧ u.1 a = 6 ∧ NU [22, 23, 6] K u.1) (fun u H => TX E u.1 u.2 G L H)) 6 6480 (xA E) := by
  refine x_enter (by decide) (Nat.le_of_ble_eq_true rfl) ?_
  intro p e s m args below meth c Q S hr hlk hnm hQ hP ls hl
  obtain ⟨hz, hK, hT⟩ := hP
  obtain ⟨hx, hb, -, -, -⟩ := id S
  obtain ⟨H, hT, hS, hgo⟩ : ∃ H : Heap, TX E K F G ((a, .inr (5, [.null, .null, .null, .null, .null, .null, .int 0])) :: L) H ∧ va_S (xA E) s.heap H [] ∧ H = s.heap := ⟨_, hT, va_S.rf, rfl⟩
  rw [← hgo]
  have hl : lv_has ls 1 [(0, .ref a)] := hl
  obtain ⟨hK, hA⟩ := hK
  have hM0 : KM K K := KM.rf
  have hU : NU [] K K := NU.rf
  refine lv_aload_n hx hb dX4_init_0 rfl (lv_at hl 0 rfl) ?_
  refine W.objInit hx hb S.2.2.2.1 (S.2.2.2.2 _ (List.mem_cons_of_mem _ km_X4_5)) (S.2.2.2.2 _ (List.mem_cons_of_mem _ koi.1)) (S.2.2.2.2 _ (List.mem_cons_of_mem _ koi.2)) rfl (by rw [S.2.2.1]; exact hl.1) rfl dX4_init_1 (Nat.le_of_ble_eq_true rfl) (Nat.le_of_ble_eq_true rfl) ?_
  refine W.eq (g2 := F0 m 4 ls []) rfl ?_
  refine lv_aload_n hx hb dX4_init_4 rfl (lv_at hl 0 rfl) ?_
  refine lv_sipush (v := 1080) hx hb dX4_init_5 (by decide) ?_
  refine tx_na0 S hK hz hT hS (N := 1080) (by decide) (by decide) (Nat.le_of_ble_eq_true rfl) (Nat.le_of_ble_eq_true rfl) (Nat.le_of_ble_eq_true rfl) dX4_init_8 (fun q1 H hT hS => ?_)
  obtain ⟨K, F, hM, hk2, hU9, hT⟩ := hT.cl 22 (fun j => 0) (by decide) (fun hq => absurd hq (by decide)) (fun K1 F1 hM hF => aw_22 _ (fun _ => trivial))
  have hM0 := KM.tr hM0 hM
  have hU := NU.tr hU hU9
  refine tx_putF (C := RX4) (T := TX4) (N := 7) (ci := 5) (ty := (.array .int)) S hK hT hS inX4 tyX4 tyX4_ok nmX4 0 rfl rfl 0 (by decide) kf_X4_13 rfl hnm rfl (by decide +kernel) rfl rfl (Nat.le_of_ble_eq_true rfl) dX4_init_10 (fun H locs hT hS => ?_)
  have hT : TX E K F G ((a, .inr (5, [.ref q1, .null, .null, .null, .null, .null, .int 0])) :: L) H := hT
  refine lv_aload_n hx hb dX4_init_13 rfl (lv_at hl 0 rfl) ?_
  refine lv_sipush (v := 1080) hx hb dX4_init_14 (by decide) ?_
  refine tx_na0 S hK hz hT hS (N := 1080) (by decide) (by decide) (Nat.le_of_ble_eq_true rfl) (Nat.le_of_ble_eq_true rfl) (Nat.le_of_ble_eq_true rfl) dX4_init_17 (fun q3 H hT hS => ?_)
  obtain ⟨K, F, hM, hk4, hU9, hT⟩ := hT.cl 22 (fun j => 0) (by decide) (fun hq => absurd hq (by decide)) (fun K1 F1 hM hF => aw_22 _ (fun _ => trivial))
  have hk5 : K q1 = 22 := hM _ _ hk2 (by decide)
  have hM0 := KM.tr hM0 hM
  have hU := NU.tr hU hU9
  refine tx_putF (C := RX4) (T := TX4) (N := 7) (ci := 5) (ty := (.array .int)) S hK hT hS inX4 tyX4 tyX4_ok nmX4 0 rfl rfl 1 (by decide) kf_X4_17 rfl hnm rfl (by decide +kernel) rfl rfl (Nat.le_of_ble_eq_true rfl) dX4_init_19 (fun H locs hT hS => ?_)
  have hT : TX E K F G ((a, .inr (5, [.ref q1, .ref q3, .null, .null, .null, .null, .int 0])) :: L) H := hT
  refine lv_aload_n hx hb dX4_init_22 rfl (lv_at hl 0 rfl) ?_
  refine lv_sipush (v := 1080) hx hb dX4_init_23 (by decide) ?_
  refine tx_na0 S hK hz hT hS (N := 1080) (by decide) (by decide) (Nat.le_of_ble_eq_true rfl) (Nat.le_of_ble_eq_true rfl) (Nat.le_of_ble_eq_true rfl) dX4_init_26 (fun q6 H hT hS => ?_)
  obtain ⟨K, F, hM, hk7, hU9, hT⟩ := hT.cl 22 (fun j => 0) (by decide) (fun hq => absurd hq (by decide)) (fun K1 F1 hM hF => aw_22 _ (fun _ => trivial))
  have hk8 : K q1 = 22 := hM _ _ hk5 (by decide)
  have hk9 : K q3 = 22 := hM _ _ hk4 (by decide)
  have hM0 := KM.tr hM0 hM
  have hU := NU.tr hU hU9
  refine tx_putF (C := RX4) (T := TX4) (N := 7) (ci := 5) (ty := (.array .int)) S hK hT hS inX4 tyX4 tyX4_ok nmX4 0 rfl rfl 2 (by decide) kf_X4_20 rfl hnm rfl (by decide +kernel) rfl rfl (Nat.le_of_ble_eq_true rfl) dX4_init_28 (fun H locs hT hS => ?_)
  have hT : TX E K F G ((a, .inr (5, [.ref q1, .ref q3, .ref q6, .null, .null, .null, .int 0])) :: L) H := hT
  refine lv_aload_n hx hb dX4_init_31 rfl (lv_at hl 0 rfl) ?_
  refine lv_sipush (v := 1080) hx hb dX4_init_32 (by decide) ?_
  refine tx_na0 S hK hz hT hS (N := 1080) (by decide) (by decide) (Nat.le_of_ble_eq_true rfl) (Nat.le_of_ble_eq_true rfl) (Nat.le_of_ble_eq_true rfl) dX4_init_35 (fun q10 H hT hS => ?_)
  obtain ⟨K, F, hM, hk11, hU9, hT⟩ := hT.cl 22 (fun j => 0) (by decide) (fun hq => absurd hq (by decide)) (fun K1 F1 hM hF => aw_22 _ (fun _ => trivial))
  have hk12 : K q1 = 22 := hM _ _ hk8 (by decide)
  have hk13 : K q3 = 22 := hM _ _ hk9 (by decide)
  have hk14 : K q6 = 22 := hM _ _ hk7 (by decide)
  have hM0 := KM.tr hM0 hM
  have hU := NU.tr hU hU9
  refine tx_putF (C := RX4) (T := TX4) (N := 7) (ci := 5) (ty := (.array .int)) S hK hT hS inX4 tyX4 tyX4_ok nmX4 0 rfl rfl 3 (by decide) kf_X4_23 rfl hnm rfl (by decide +kernel) rfl rfl (Nat.le_of_ble_eq_true rfl) dX4_init_37 (fun H locs hT hS => ?_)
  have hT : TX E K F G ((a, .inr (5, [.ref q1, .ref q3, .ref q6, .ref q10, .null, .null, .int 0])) :: L) H := hT
  refine lv_aload_n hx hb dX4_init_40 rfl (lv_at hl 0 rfl) ?_
  refine lv_sipush (v := 1080) hx hb dX4_init_41 (by decide) ?_
  refine tx_na3 S hK hz hT hS (N := 1080) (by decide) (by decide) (Nat.le_of_ble_eq_true rfl) (Nat.le_of_ble_eq_true rfl) (Nat.le_of_ble_eq_true rfl) dX4_init_44 (fun q15 H hT hS => ?_)
  obtain ⟨K, F, hM, hk16, hU9, hT⟩ := hT.cl 23 (fun j => 0) (by decide) (fun hq => absurd hq (by decide)) (fun K1 F1 hM hF => aw_23 _ (fun _ => rfl))
  have hk17 : K q1 = 22 := hM _ _ hk12 (by decide)
  have hk18 : K q3 = 22 := hM _ _ hk13 (by decide)
  have hk19 : K q6 = 22 := hM _ _ hk14 (by decide)
  have hk20 : K q10 = 22 := hM _ _ hk11 (by decide)
  have hM0 := KM.tr hM0 hM
  have hU := NU.tr hU hU9
  refine tx_putF (C := RX4) (T := TX4) (N := 7) (ci := 5) (ty := (.array .boolean)) S hK hT hS inX4 tyX4 tyX4_ok nmX4 0 rfl rfl 4 (by decide) kf_X4_26 rfl hnm rfl (by decide +kernel) rfl rfl (Nat.le_of_ble_eq_true rfl) dX4_init_46 (fun H locs hT hS => ?_)
  have hT : TX E K F G ((a, .inr (5, [.ref q1, .ref q3, .ref q6, .ref q10, .ref q15, .null, .int 0])) :: L) H := hT
  refine lv_aload_n hx hb dX4_init_49 rfl (lv_at hl 0 rfl) ?_
  refine lv_sipush (v := 1080) hx hb dX4_init_50 (by decide) ?_
  refine tx_na3 S hK hz hT hS (N := 1080) (by decide) (by decide) (Nat.le_of_ble_eq_true rfl) (Nat.le_of_ble_eq_true rfl) (Nat.le_of_ble_eq_true rfl) dX4_init_53 (fun q21 H hT hS => ?_)
  obtain ⟨K, F, hM, hk22, hU9, hT⟩ := hT.cl 23 (fun j => 0) (by decide) (fun hq => absurd hq (by decide)) (fun K1 F1 hM hF => aw_23 _ (fun _ => rfl))
  have hk23 : K q1 = 22 := hM _ _ hk17 (by decide)
  have hk24 : K q3 = 22 := hM _ _ hk18 (by decide)
  have hk25 : K q6 = 22 := hM _ _ hk19 (by decide)
  have hk26 : K q10 = 22 := hM _ _ hk20 (by decide)
  have hk27 : K q15 = 23 := hM _ _ hk16 (by decide)
  have hM0 := KM.tr hM0 hM
  have hU := NU.tr hU hU9
  refine tx_putF (C := RX4) (T := TX4) (N := 7) (ci := 5) (ty := (.array .boolean)) S hK hT hS inX4 tyX4 tyX4_ok nmX4 0 rfl rfl 5 (by decide) kf_X4_30 rfl hnm rfl (by decide +kernel) rfl rfl (Nat.le_of_ble_eq_true rfl) dX4_init_55 (fun H locs hT hS => ?_)
  have hT : TX E K F G ((a, .inr (5, [.ref q1, .ref q3, .ref q6, .ref q10, .ref q15, .ref q21, .int 0])) :: L) H := hT
  obtain ⟨K, F, hM, hk28, hU9, hT⟩ := hT.cl 6 (fun j => ([q1, q3, q6, q10, q15, q21, 0] : List Nat).getD j 0) (by decide) (fun hq => absurd hq (by decide)) (fun K1 F1 hM hF => ⟨0, by rw [hF 0, hF 1, hF 2, hF 3, hF 4, hF 5]; rfl, by rw [hF 0]; exact hM _ _ hk23 (by decide), by rw [hF 1]; exact hM _ _ hk24 (by decide), by rw [hF 2]; exact hM _ _ hk25 (by decide), by rw [hF 3]; exact hM _ _ hk26 (by decide), by rw [hF 4]; exact hM _ _ hk27 (by decide), by rw [hF 5]; exact hM _ _ hk22 (by decide)⟩)
  have hM0 := KM.tr hM0 hM
  have hU := NU.tr hU hU9
  exact x_rv hx hb hr hlk hQ (Nat.le_of_ble_eq_true rfl) (Nat.le_of_ble_eq_true rfl) hS dX4_init_58 (K, F) ⟨hM0, hk28, NU.sub hU (by decide)⟩ hT

abbrev rm_X1_init : Room := { frames := 1, cells := 3, slots := 96, locals := 12 }
set_option maxHeartbeats 4000000 in
set_option maxRecDepth 100000 in
theorem c_X1_init (l : Launch) (E : XE) (K : Nat → Nat) (F : Nat → Nat → Nat) (G : XG) (L : va_W) (a : Nat)  : Met l yX1_init (xw yX1_init cX1_init 1 none) rm_X1_init (va_Pc [.ref a] (XPx E K F G ((a, .inr (2, [.null, .null, .null, .int 0])) :: L))) (XQv E (fun (u : (Nat → Nat) × (Nat → Nat → Nat)) => KM K u.1 ∧ u.1 a = 3 ∧ NU [21, 24, 3] K u.1) (fun u H => TX E u.1 u.2 G L H)) 3 96 (xA E) := by
  refine x_enter (by decide) (Nat.le_of_ble_eq_true rfl) ?_
  intro p e s m args below meth c Q S hr hlk hnm hQ hP ls hl
  obtain ⟨hz, hK, hT⟩ := hP
  obtain ⟨hx, hb, -, -, -⟩ := id S
  obtain ⟨H, hT, hS, hgo⟩ : ∃ H : Heap, TX E K F G ((a, .inr (2, [.null, .null, .null, .int 0])) :: L) H ∧ va_S (xA E) s.heap H [] ∧ H = s.heap := ⟨_, hT, va_S.rf, rfl⟩
  rw [← hgo]
  have hl : lv_has ls 1 [(0, .ref a)] := hl
  obtain ⟨hK, hA⟩ := hK
  have hM0 : KM K K := KM.rf
  have hU : NU [] K K := NU.rf
  refine lv_aload_n hx hb dX1_init_0 rfl (lv_at hl 0 rfl) ?_
  refine W.objInit hx hb S.2.2.2.1 (S.2.2.2.2 _ (List.mem_cons_of_mem _ km_X1_3)) (S.2.2.2.2 _ (List.mem_cons_of_mem _ koi.1)) (S.2.2.2.2 _ (List.mem_cons_of_mem _ koi.2)) rfl (by rw [S.2.2.1]; exact hl.1) rfl dX1_init_1 (Nat.le_of_ble_eq_true rfl) (Nat.le_of_ble_eq_true rfl) ?_
  refine W.eq (g2 := F0 m 4 ls []) rfl ?_
  refine lv_aload_n hx hb dX1_init_4 rfl (lv_at hl 0 rfl) ?_
  refine lv_iconst (v := 3) hx hb dX1_init_5 (by decide) ?_
  refine tx_na0 S hK hz hT hS (N := 3) (by decide) (by decide) (Nat.le_of_ble_eq_true rfl) (Nat.le_of_ble_eq_true rfl) (Nat.le_of_ble_eq_true rfl) dX1_init_6 (fun q1 H hT hS => ?_)
  obtain ⟨K, F, hM, hk2, hU9, hT⟩ := hT.cl 21 (fun j => 0) (by decide) (fun hq => absurd hq (by decide)) (fun K1 F1 hM hF => aw_21 _ (fun _ => trivial))
  have hM0 := KM.tr hM0 hM
  have hU := NU.tr hU hU9
  refine tx_putF (C := RX1) (T := TX1) (N := 4) (ci := 2) (ty := (.array .int)) S hK hT hS inX1 tyX1 tyX1_ok nmX1 0 rfl rfl 0 (by decide) kf_X1_9 rfl hnm rfl (by decide +kernel) rfl rfl (Nat.le_of_ble_eq_true rfl) dX1_init_8 (fun H locs hT hS => ?_)
  have hT : TX E K F G ((a, .inr (2, [.ref q1, .null, .null, .int 0])) :: L) H := hT
  refine lv_aload_n hx hb dX1_init_11 rfl (lv_at hl 0 rfl) ?_
  refine lv_iconst (v := 3) hx hb dX1_init_12 (by decide) ?_
  refine tx_na0 S hK hz hT hS (N := 3) (by decide) (by decide) (Nat.le_of_ble_eq_true rfl) (Nat.le_of_ble_eq_true rfl) (Nat.le_of_ble_eq_true rfl) dX1_init_13 (fun q3 H hT hS => ?_)
  obtain ⟨K, F, hM, hk4, hU9, hT⟩ := hT.cl 21 (fun j => 0) (by decide) (fun hq => absurd hq (by decide)) (fun K1 F1 hM hF => aw_21 _ (fun _ => trivial))
  have hk5 : K q1 = 21 := hM _ _ hk2 (by decide)
  have hM0 := KM.tr hM0 hM
  have hU := NU.tr hU hU9
  refine tx_putF (C := RX1) (T := TX1) (N := 4) (ci := 2) (ty := (.array .int)) S hK hT hS inX1 tyX1 tyX1_ok nmX1 0 rfl rfl 1 (by decide) kf_X1_15 rfl hnm rfl (by decide +kernel) rfl rfl (Nat.le_of_ble_eq_true rfl) dX1_init_15 (fun H locs hT hS => ?_)
  have hT : TX E K F G ((a, .inr (2, [.ref q1, .ref q3, .null, .int 0])) :: L) H := hT
  refine lv_aload_n hx hb dX1_init_18 rfl (lv_at hl 0 rfl) ?_
  refine lv_bipush (v := 90) hx hb dX1_init_19 (by decide) ?_
  refine tx_na0 S hK hz hT hS (N := 90) (by decide) (by decide) (Nat.le_of_ble_eq_true rfl) (Nat.le_of_ble_eq_true rfl) (Nat.le_of_ble_eq_true rfl) dX1_init_21 (fun q6 H hT hS => ?_)
  obtain ⟨K, F, hM, hk7, hU9, hT⟩ := hT.cl 24 (fun j => 0) (by decide) (fun hq => absurd hq (by decide)) (fun K1 F1 hM hF => aw_24 _ (fun _ => trivial))
  have hk8 : K q1 = 21 := hM _ _ hk5 (by decide)
  have hk9 : K q3 = 21 := hM _ _ hk4 (by decide)
  have hM0 := KM.tr hM0 hM
  have hU := NU.tr hU hU9
  refine tx_putF (C := RX1) (T := TX1) (N := 4) (ci := 2) (ty := (.array .int)) S hK hT hS inX1 tyX1 tyX1_ok nmX1 0 rfl rfl 2 (by decide) kf_X1_18 rfl hnm rfl (by decide +kernel) rfl rfl (Nat.le_of_ble_eq_true rfl) dX1_init_23 (fun H locs hT hS => ?_)
  have hT : TX E K F G ((a, .inr (2, [.ref q1, .ref q3, .ref q6, .int 0])) :: L) H := hT
  obtain ⟨K, F, hM, hk10, hU9, hT⟩ := hT.cl 3 (fun j => ([q1, q3, q6, 0] : List Nat).getD j 0) (by decide) (fun hq => absurd hq (by decide)) (fun K1 F1 hM hF => ⟨0, by rw [hF 0, hF 1, hF 2]; rfl, by rw [hF 0]; exact hM _ _ hk8 (by decide), by rw [hF 1]; exact hM _ _ hk9 (by decide), by rw [hF 2]; exact hM _ _ hk7 (by decide)⟩)
  have hM0 := KM.tr hM0 hM
  have hU := NU.tr hU hU9
  exact x_rv hx hb hr hlk hQ (Nat.le_of_ble_eq_true rfl) (Nat.le_of_ble_eq_true rfl) hS dX1_init_26 (K, F) ⟨hM0, hk10, NU.sub hU (by decide)⟩ hT

abbrev rm_X2_init : Room := { frames := 1, cells := 4, slots := 360, locals := 12 }
set_option maxHeartbeats 4000000 in
set_option maxRecDepth 100000 in
theorem c_X2_init (l : Launch) (E : XE) (K : Nat → Nat) (F : Nat → Nat → Nat) (G : XG) (L : va_W) (a : Nat)  : Met l yX2_init (xw yX2_init cX2_init 1 none) rm_X2_init (va_Pc [.ref a] (XPx E K F G ((a, .inr (3, [.null, .null, .null, .null, .int 0])) :: L))) (XQv E (fun (u : (Nat → Nat) × (Nat → Nat → Nat)) => KM K u.1 ∧ u.1 a = 4 ∧ NU [24, 4] K u.1) (fun u H => TX E u.1 u.2 G L H)) 4 360 (xA E) := by
  refine x_enter (by decide) (Nat.le_of_ble_eq_true rfl) ?_
  intro p e s m args below meth c Q S hr hlk hnm hQ hP ls hl
  obtain ⟨hz, hK, hT⟩ := hP
  obtain ⟨hx, hb, -, -, -⟩ := id S
  obtain ⟨H, hT, hS, hgo⟩ : ∃ H : Heap, TX E K F G ((a, .inr (3, [.null, .null, .null, .null, .int 0])) :: L) H ∧ va_S (xA E) s.heap H [] ∧ H = s.heap := ⟨_, hT, va_S.rf, rfl⟩
  rw [← hgo]
  have hl : lv_has ls 1 [(0, .ref a)] := hl
  obtain ⟨hK, hA⟩ := hK
  have hM0 : KM K K := KM.rf
  have hU : NU [] K K := NU.rf
  refine lv_aload_n hx hb dX2_init_0 rfl (lv_at hl 0 rfl) ?_
  refine W.objInit hx hb S.2.2.2.1 (S.2.2.2.2 _ (List.mem_cons_of_mem _ km_X2_5)) (S.2.2.2.2 _ (List.mem_cons_of_mem _ koi.1)) (S.2.2.2.2 _ (List.mem_cons_of_mem _ koi.2)) rfl (by rw [S.2.2.1]; exact hl.1) rfl dX2_init_1 (Nat.le_of_ble_eq_true rfl) (Nat.le_of_ble_eq_true rfl) ?_
  refine W.eq (g2 := F0 m 4 ls []) rfl ?_
  refine lv_aload_n hx hb dX2_init_4 rfl (lv_at hl 0 rfl) ?_
  refine lv_bipush (v := 90) hx hb dX2_init_5 (by decide) ?_
  refine tx_na0 S hK hz hT hS (N := 90) (by decide) (by decide) (Nat.le_of_ble_eq_true rfl) (Nat.le_of_ble_eq_true rfl) (Nat.le_of_ble_eq_true rfl) dX2_init_7 (fun q1 H hT hS => ?_)
  obtain ⟨K, F, hM, hk2, hU9, hT⟩ := hT.cl 24 (fun j => 0) (by decide) (fun hq => absurd hq (by decide)) (fun K1 F1 hM hF => aw_24 _ (fun _ => trivial))
  have hM0 := KM.tr hM0 hM
  have hU := NU.tr hU hU9
  refine tx_putF (C := RX2) (T := TX2) (N := 5) (ci := 3) (ty := (.array .int)) S hK hT hS inX2 tyX2 tyX2_ok nmX2 0 rfl rfl 0 (by decide) kf_X2_11 rfl hnm rfl (by decide +kernel) rfl rfl (Nat.le_of_ble_eq_true rfl) dX2_init_9 (fun H locs hT hS => ?_)
  have hT : TX E K F G ((a, .inr (3, [.ref q1, .null, .null, .null, .int 0])) :: L) H := hT
  refine lv_aload_n hx hb dX2_init_12 rfl (lv_at hl 0 rfl) ?_
  refine lv_bipush (v := 90) hx hb dX2_init_13 (by decide) ?_
  refine tx_na0 S hK hz hT hS (N := 90) (by decide) (by decide) (Nat.le_of_ble_eq_true rfl) (Nat.le_of_ble_eq_true rfl) (Nat.le_of_ble_eq_true rfl) dX2_init_15 (fun q3 H hT hS => ?_)
  obtain ⟨K, F, hM, hk4, hU9, hT⟩ := hT.cl 24 (fun j => 0) (by decide) (fun hq => absurd hq (by decide)) (fun K1 F1 hM hF => aw_24 _ (fun _ => trivial))
  have hk5 : K q1 = 24 := hM _ _ hk2 (by decide)
  have hM0 := KM.tr hM0 hM
  have hU := NU.tr hU hU9
  refine tx_putF (C := RX2) (T := TX2) (N := 5) (ci := 3) (ty := (.array .int)) S hK hT hS inX2 tyX2 tyX2_ok nmX2 0 rfl rfl 1 (by decide) kf_X2_15 rfl hnm rfl (by decide +kernel) rfl rfl (Nat.le_of_ble_eq_true rfl) dX2_init_17 (fun H locs hT hS => ?_)
  have hT : TX E K F G ((a, .inr (3, [.ref q1, .ref q3, .null, .null, .int 0])) :: L) H := hT
  refine lv_aload_n hx hb dX2_init_20 rfl (lv_at hl 0 rfl) ?_
  refine lv_bipush (v := 90) hx hb dX2_init_21 (by decide) ?_
  refine tx_na0 S hK hz hT hS (N := 90) (by decide) (by decide) (Nat.le_of_ble_eq_true rfl) (Nat.le_of_ble_eq_true rfl) (Nat.le_of_ble_eq_true rfl) dX2_init_23 (fun q6 H hT hS => ?_)
  obtain ⟨K, F, hM, hk7, hU9, hT⟩ := hT.cl 24 (fun j => 0) (by decide) (fun hq => absurd hq (by decide)) (fun K1 F1 hM hF => aw_24 _ (fun _ => trivial))
  have hk8 : K q1 = 24 := hM _ _ hk5 (by decide)
  have hk9 : K q3 = 24 := hM _ _ hk4 (by decide)
  have hM0 := KM.tr hM0 hM
  have hU := NU.tr hU hU9
  refine tx_putF (C := RX2) (T := TX2) (N := 5) (ci := 3) (ty := (.array .int)) S hK hT hS inX2 tyX2 tyX2_ok nmX2 0 rfl rfl 2 (by decide) kf_X2_18 rfl hnm rfl (by decide +kernel) rfl rfl (Nat.le_of_ble_eq_true rfl) dX2_init_25 (fun H locs hT hS => ?_)
  have hT : TX E K F G ((a, .inr (3, [.ref q1, .ref q3, .ref q6, .null, .int 0])) :: L) H := hT
  refine lv_aload_n hx hb dX2_init_28 rfl (lv_at hl 0 rfl) ?_
  refine lv_bipush (v := 90) hx hb dX2_init_29 (by decide) ?_
  refine tx_na0 S hK hz hT hS (N := 90) (by decide) (by decide) (Nat.le_of_ble_eq_true rfl) (Nat.le_of_ble_eq_true rfl) (Nat.le_of_ble_eq_true rfl) dX2_init_31 (fun q10 H hT hS => ?_)
  obtain ⟨K, F, hM, hk11, hU9, hT⟩ := hT.cl 24 (fun j => 0) (by decide) (fun hq => absurd hq (by decide)) (fun K1 F1 hM hF => aw_24 _ (fun _ => trivial))
  have hk12 : K q1 = 24 := hM _ _ hk8 (by decide)
  have hk13 : K q3 = 24 := hM _ _ hk9 (by decide)
  have hk14 : K q6 = 24 := hM _ _ hk7 (by decide)
  have hM0 := KM.tr hM0 hM
  have hU := NU.tr hU hU9
  refine tx_putF (C := RX2) (T := TX2) (N := 5) (ci := 3) (ty := (.array .int)) S hK hT hS inX2 tyX2 tyX2_ok nmX2 0 rfl rfl 3 (by decide) kf_X2_21 rfl hnm rfl (by decide +kernel) rfl rfl (Nat.le_of_ble_eq_true rfl) dX2_init_33 (fun H locs hT hS => ?_)
  have hT : TX E K F G ((a, .inr (3, [.ref q1, .ref q3, .ref q6, .ref q10, .int 0])) :: L) H := hT
  obtain ⟨K, F, hM, hk15, hU9, hT⟩ := hT.cl 4 (fun j => ([q1, q3, q6, q10, 0] : List Nat).getD j 0) (by decide) (fun hq => absurd hq (by decide)) (fun K1 F1 hM hF => ⟨0, by rw [hF 0, hF 1, hF 2, hF 3]; rfl, by rw [hF 0]; exact hM _ _ hk12 (by decide), by rw [hF 1]; exact hM _ _ hk13 (by decide), by rw [hF 2]; exact hM _ _ hk14 (by decide), by rw [hF 3]; exact hM _ _ hk11 (by decide)⟩)
  have hM0 := KM.tr hM0 hM
  have hU := NU.tr hU hU9
  exact x_rv hx hb hr hlk hQ (Nat.le_of_ble_eq_true rfl) (Nat.le_of_ble_eq_true rfl) hS dX2_init_36 (K, F) ⟨hM0, hk15, NU.sub hU (by decide)⟩ hT

abbrev rm_X3_init : Room := { frames := 1, cells := 3, slots := 183, locals := 12 }
set_option maxHeartbeats 4000000 in
set_option maxRecDepth 100000 in
theorem c_X3_init (l : Launch) (E : XE) (K : Nat → Nat) (F : Nat → Nat → Nat) (G : XG) (L : va_W) (a : Nat)  : Met l yX3_init (xw yX3_init cX3_init 1 none) rm_X3_init (va_Pc [.ref a] (XPx E K F G ((a, .inr (4, [.null, .null, .null, .int 0])) :: L))) (XQv E (fun (u : (Nat → Nat) × (Nat → Nat → Nat)) => KM K u.1 ∧ u.1 a = 5 ∧ NU [21, 24, 5] K u.1) (fun u H => TX E u.1 u.2 G L H)) 3 183 (xA E) := by
  refine x_enter (by decide) (Nat.le_of_ble_eq_true rfl) ?_
  intro p e s m args below meth c Q S hr hlk hnm hQ hP ls hl
  obtain ⟨hz, hK, hT⟩ := hP
  obtain ⟨hx, hb, -, -, -⟩ := id S
  obtain ⟨H, hT, hS, hgo⟩ : ∃ H : Heap, TX E K F G ((a, .inr (4, [.null, .null, .null, .int 0])) :: L) H ∧ va_S (xA E) s.heap H [] ∧ H = s.heap := ⟨_, hT, va_S.rf, rfl⟩
  rw [← hgo]
  have hl : lv_has ls 1 [(0, .ref a)] := hl
  obtain ⟨hK, hA⟩ := hK
  have hM0 : KM K K := KM.rf
  have hU : NU [] K K := NU.rf
  refine lv_aload_n hx hb dX3_init_0 rfl (lv_at hl 0 rfl) ?_
  refine W.objInit hx hb S.2.2.2.1 (S.2.2.2.2 _ (List.mem_cons_of_mem _ km_X3_3)) (S.2.2.2.2 _ (List.mem_cons_of_mem _ koi.1)) (S.2.2.2.2 _ (List.mem_cons_of_mem _ koi.2)) rfl (by rw [S.2.2.1]; exact hl.1) rfl dX3_init_1 (Nat.le_of_ble_eq_true rfl) (Nat.le_of_ble_eq_true rfl) ?_
  refine W.eq (g2 := F0 m 4 ls []) rfl ?_
  refine lv_aload_n hx hb dX3_init_4 rfl (lv_at hl 0 rfl) ?_
  refine lv_iconst (v := 3) hx hb dX3_init_5 (by decide) ?_
  refine tx_na0 S hK hz hT hS (N := 3) (by decide) (by decide) (Nat.le_of_ble_eq_true rfl) (Nat.le_of_ble_eq_true rfl) (Nat.le_of_ble_eq_true rfl) dX3_init_6 (fun q1 H hT hS => ?_)
  obtain ⟨K, F, hM, hk2, hU9, hT⟩ := hT.cl 21 (fun j => 0) (by decide) (fun hq => absurd hq (by decide)) (fun K1 F1 hM hF => aw_21 _ (fun _ => trivial))
  have hM0 := KM.tr hM0 hM
  have hU := NU.tr hU hU9
  refine tx_putF (C := RX3) (T := TX3) (N := 4) (ci := 4) (ty := (.array .int)) S hK hT hS inX3 tyX3 tyX3_ok nmX3 0 rfl rfl 0 (by decide) kf_X3_9 rfl hnm rfl (by decide +kernel) rfl rfl (Nat.le_of_ble_eq_true rfl) dX3_init_8 (fun H locs hT hS => ?_)
  have hT : TX E K F G ((a, .inr (4, [.ref q1, .null, .null, .int 0])) :: L) H := hT
  refine lv_aload_n hx hb dX3_init_11 rfl (lv_at hl 0 rfl) ?_
  refine lv_bipush (v := 90) hx hb dX3_init_12 (by decide) ?_
  refine tx_na0 S hK hz hT hS (N := 90) (by decide) (by decide) (Nat.le_of_ble_eq_true rfl) (Nat.le_of_ble_eq_true rfl) (Nat.le_of_ble_eq_true rfl) dX3_init_14 (fun q3 H hT hS => ?_)
  obtain ⟨K, F, hM, hk4, hU9, hT⟩ := hT.cl 24 (fun j => 0) (by decide) (fun hq => absurd hq (by decide)) (fun K1 F1 hM hF => aw_24 _ (fun _ => trivial))
  have hk5 : K q1 = 21 := hM _ _ hk2 (by decide)
  have hM0 := KM.tr hM0 hM
  have hU := NU.tr hU hU9
  refine tx_putF (C := RX3) (T := TX3) (N := 4) (ci := 4) (ty := (.array .int)) S hK hT hS inX3 tyX3 tyX3_ok nmX3 0 rfl rfl 1 (by decide) kf_X3_15 rfl hnm rfl (by decide +kernel) rfl rfl (Nat.le_of_ble_eq_true rfl) dX3_init_16 (fun H locs hT hS => ?_)
  have hT : TX E K F G ((a, .inr (4, [.ref q1, .ref q3, .null, .int 0])) :: L) H := hT
  refine lv_aload_n hx hb dX3_init_19 rfl (lv_at hl 0 rfl) ?_
  refine lv_bipush (v := 90) hx hb dX3_init_20 (by decide) ?_
  refine tx_na0 S hK hz hT hS (N := 90) (by decide) (by decide) (Nat.le_of_ble_eq_true rfl) (Nat.le_of_ble_eq_true rfl) (Nat.le_of_ble_eq_true rfl) dX3_init_22 (fun q6 H hT hS => ?_)
  obtain ⟨K, F, hM, hk7, hU9, hT⟩ := hT.cl 24 (fun j => 0) (by decide) (fun hq => absurd hq (by decide)) (fun K1 F1 hM hF => aw_24 _ (fun _ => trivial))
  have hk8 : K q1 = 21 := hM _ _ hk5 (by decide)
  have hk9 : K q3 = 24 := hM _ _ hk4 (by decide)
  have hM0 := KM.tr hM0 hM
  have hU := NU.tr hU hU9
  refine tx_putF (C := RX3) (T := TX3) (N := 4) (ci := 4) (ty := (.array .int)) S hK hT hS inX3 tyX3 tyX3_ok nmX3 0 rfl rfl 2 (by decide) kf_X3_18 rfl hnm rfl (by decide +kernel) rfl rfl (Nat.le_of_ble_eq_true rfl) dX3_init_24 (fun H locs hT hS => ?_)
  have hT : TX E K F G ((a, .inr (4, [.ref q1, .ref q3, .ref q6, .int 0])) :: L) H := hT
  obtain ⟨K, F, hM, hk10, hU9, hT⟩ := hT.cl 5 (fun j => ([q1, q3, q6, 0] : List Nat).getD j 0) (by decide) (fun hq => absurd hq (by decide)) (fun K1 F1 hM hF => ⟨0, by rw [hF 0, hF 1, hF 2]; rfl, by rw [hF 0]; exact hM _ _ hk8 (by decide), by rw [hF 1]; exact hM _ _ hk9 (by decide), by rw [hF 2]; exact hM _ _ hk7 (by decide)⟩)
  have hM0 := KM.tr hM0 hM
  have hU := NU.tr hU hU9
  exact x_rv hx hb hr hlk hQ (Nat.le_of_ble_eq_true rfl) (Nat.le_of_ble_eq_true rfl) hS dX3_init_27 (K, F) ⟨hM0, hk10, NU.sub hU (by decide)⟩ hT

abbrev rm_J5_init_d00df : Room := { frames := 1, cells := 1, slots := 16, locals := 12 }
set_option maxHeartbeats 4000000 in
set_option maxRecDepth 100000 in
theorem c_J5_init_d00df (l : Launch) (E : XE) (K : Nat → Nat) (F : Nat → Nat → Nat) (G : XG) (L : va_W) (a : Nat)  : Met l yJ5_init_d00df (xw yJ5_init_d00df cJ5_init_d00df 2 none) rm_J5_init_d00df (va_Pc [.ref a, .int 16] (XPx E K F G ((a, .inr (0, [.null, .int 0, .int 0, .int 0])) :: L))) (XQv E (fun (u : Nat) => True) (fun u H => TX E K F G ((a, .inr (0, [.ref u, .int 0, .int 0, .int 0])) :: (u, .inl (E.2.1 2, 16, .inl (fun _ => 0))) :: L) H)) 1 16 (xA E) := by
  refine x_enter (by decide) (Nat.le_of_ble_eq_true rfl) ?_
  intro p e s m args below meth c Q S hr hlk hnm hQ hP ls hl
  obtain ⟨hz, hK, hT⟩ := hP
  obtain ⟨hx, hb, -, -, -⟩ := id S
  obtain ⟨H, hT, hS, hgo⟩ : ∃ H : Heap, TX E K F G ((a, .inr (0, [.null, .int 0, .int 0, .int 0])) :: L) H ∧ va_S (xA E) s.heap H [] ∧ H = s.heap := ⟨_, hT, va_S.rf, rfl⟩
  rw [← hgo]
  have hl : lv_has ls 2 [(0, .ref a), (1, .int 16)] := hl
  obtain ⟨hK, hA⟩ := hK
  have hM0 : KM K K := KM.rf
  have hU : NU [] K K := NU.rf
  refine lv_aload_n hx hb dJ5_init_d00df_0 rfl (lv_at hl 0 rfl) ?_
  refine W.objInit hx hb S.2.2.2.1 (S.2.2.2.2 _ (List.mem_cons_of_mem _ km_J5_3)) (S.2.2.2.2 _ (List.mem_cons_of_mem _ koi.1)) (S.2.2.2.2 _ (List.mem_cons_of_mem _ koi.2)) rfl (by rw [S.2.2.1]; exact hl.1) rfl dJ5_init_d00df_1 (Nat.le_of_ble_eq_true rfl) (Nat.le_of_ble_eq_true rfl) ?_
  refine W.eq (g2 := F0 m 4 ls []) rfl ?_
  refine va_gets hx hb hK.2.2.2.2.1 hS S.2.2.2.1 (S.2.2.2.2 _ (List.mem_cons_of_mem _ kf_J5_18)) (fun _ h => h) dJ5_init_d00df_4 ?_
  refine xi_zeq (tgt := 25) hx hb ((by decide) : Int32.toInt 1 = (1 : Int)) dJ5_init_d00df_7 (by decide) (fun c => absurd c (show ¬ ((1 : Int) = 0) by decide)) (fun _ => ?_)
  refine lv_aload_n hx hb dJ5_init_d00df_10 rfl (lv_at hl 0 rfl) ?_
  refine lv_iload_n hx hb dJ5_init_d00df_11 rfl (lv_at hl 1 rfl) ?_
  refine tx_na2 S hK hz hT hS (N := 16) (by decide) (by decide) (Nat.le_of_ble_eq_true rfl) (Nat.le_of_ble_eq_true rfl) (Nat.le_of_ble_eq_true rfl) dJ5_init_d00df_12 (fun q1 H hT hS => ?_)
  refine tx_put (C := RJ4) (T := TJ4) (N := 4) (ci := 0) (ty := (.array .byte)) S hK hT hS inJ4 tyJ4 tyJ4_ok nmJ4 1 rfl rfl 0 (by decide) kf_J5_15 rfl (by decide +kernel) rfl rfl (Nat.le_of_ble_eq_true rfl) dJ5_init_d00df_14 (fun H locs hT hS => ?_)
  have hT : TX E K F G ((q1, .inl (E.2.1 2, 16, .inl (fun _ => 0))) :: (a, .inr (0, [.ref q1, .int 0, .int 0, .int 0])) :: L) H := hT
  refine lv_aload_n hx hb dJ5_init_d00df_17 rfl (lv_at hl 0 rfl) ?_
  refine lv_iconst (v := 0) hx hb dJ5_init_d00df_18 (by decide) ?_
  refine tx_put (C := RJ4) (T := TJ4) (N := 4) (ci := 0) (ty := .byte) S hK hT hS inJ4 tyJ4 tyJ4_ok nmJ4 1 rfl rfl 1 (by decide) kf_J5_22 rfl (by decide +kernel) rfl rfl (Nat.le_of_ble_eq_true rfl) dJ5_init_d00df_19 (fun H locs hT hS => ?_)
  have hT : TX E K F G ((q1, .inl (E.2.1 2, 16, .inl (fun _ => 0))) :: (a, .inr (0, [.ref q1, .int 0, .int 0, .int 0])) :: L) H := hT
  refine lv_goto (tgt := 38) hx hb dJ5_init_d00df_22 (by decide) ?_
  have hT := hT.sw
  exact x_rv hx hb hr hlk hQ (Nat.le_of_ble_eq_true rfl) (Nat.le_of_ble_eq_true rfl) hS dJ5_init_d00df_38 q1 trivial hT

abbrev rm_J4_init_da8c8 : Room := { frames := 2, cells := 1, slots := 16, locals := 33 }
set_option maxHeartbeats 4000000 in
set_option maxRecDepth 100000 in
theorem c_J4_init_da8c8 (l : Launch) (E : XE) (K : Nat → Nat) (F : Nat → Nat → Nat) (G : XG) (L : va_W) (a : Nat)  : Met l yJ4_init_da8c8 (xw yJ4_init_da8c8 cJ4_init_da8c8 1 none) rm_J4_init_da8c8 (va_Pc [.ref a] (XPx E K F G ((a, .inr (0, [.null, .int 0, .int 0, .int 0])) :: L))) (XQv E (fun (u : Nat) => True) (fun u H => TX E K F G ((a, .inr (0, [.ref u, .int 0, .int 0, .int 0])) :: (u, .inl (E.2.1 2, 16, .inl (fun _ => 0))) :: L) H)) 1 16 (xA E) := by
  refine x_enter (by decide) (Nat.le_of_ble_eq_true rfl) ?_
  intro p e s m args below meth c Q S hr hlk hnm hQ hP ls hl
  obtain ⟨hz, hK, hT⟩ := hP
  obtain ⟨hx, hb, -, -, -⟩ := id S
  obtain ⟨H, hT, hS, hgo⟩ : ∃ H : Heap, TX E K F G ((a, .inr (0, [.null, .int 0, .int 0, .int 0])) :: L) H ∧ va_S (xA E) s.heap H [] ∧ H = s.heap := ⟨_, hT, va_S.rf, rfl⟩
  rw [← hgo]
  have hl : lv_has ls 1 [(0, .ref a)] := hl
  obtain ⟨hK, hA⟩ := hK
  have hM0 : KM K K := KM.rf
  have hU : NU [] K K := NU.rf
  refine lv_aload_n hx hb dJ4_init_da8c8_0 rfl (lv_at hl 0 rfl) ?_
  refine lv_bipush (v := 16) hx hb dJ4_init_da8c8_1 (by decide) ?_
  refine x_cv (x_runI (b := a) (As := [.int 16]) (rest := []) S (c_J5_init_d00df l E K F G (L) a) mi_J5_init_d00df rfl km_J4_1 rfl rfl ⟨Nat.le_of_ble_eq_true rfl, Nat.le_of_ble_eq_true rfl⟩ hK (fun _ => XPx.blind) (fun U hU hW => XPx.at hK hA hz hS hT hU hW) rfl hl.1 (Nat.le_of_ble_eq_true rfl) dJ4_init_da8c8_3 ⟨Nat.le_of_ble_eq_true rfl, Nat.le_of_ble_eq_true rfl⟩) hS ?_
  rintro q1 H locs - hT hS
  have hT : TX E K F G ((a, .inr (0, [.ref q1, .int 0, .int 0, .int 0])) :: (q1, .inl (E.2.1 2, 16, .inl (fun _ => 0))) :: L) H := hT
  exact x_rv hx hb hr hlk hQ (Nat.le_of_ble_eq_true rfl) (Nat.le_of_ble_eq_true rfl) hS dJ4_init_da8c8_6 q1 trivial hT

abbrev rm_X9_init : Room := { frames := 3, cells := 2, slots := 20, locals := 53 }
set_option maxHeartbeats 4000000 in
set_option maxRecDepth 100000 in
theorem c_X9_init (l : Launch) (E : XE) (K : Nat → Nat) (F : Nat → Nat → Nat) (G : XG) (L : va_W) (a : Nat)  : Met l yX9_init (xw yX9_init cX9_init 1 none) rm_X9_init (va_Pc [.ref a] (XPx E K F G ((a, .inr (10, [.null, .int 0, .int 0, .int 0])) :: L))) (XQv E (fun (u : Nat × Nat) => True) (fun u H => TX E K F G ((a, .inr (10, [.ref u.1, .int 0, .int 0, .int 0])) :: (u.1, .inr (0, [.ref u.2, .int 0, .int 0, .int 0])) :: (u.2, .inl (E.2.1 2, 16, .inl (fun _ => 0))) :: L) H)) 2 20 (xA E) := by
  refine x_enter (by decide) (Nat.le_of_ble_eq_true rfl) ?_
  intro p e s m args below meth c Q S hr hlk hnm hQ hP ls hl
  obtain ⟨hz, hK, hT⟩ := hP
  obtain ⟨hx, hb, -, -, -⟩ := id S
  obtain ⟨H, hT, hS, hgo⟩ : ∃ H : Heap, TX E K F G ((a, .inr (10, [.null, .int 0, .int 0, .int 0])) :: L) H ∧ va_S (xA E) s.heap H [] ∧ H = s.heap := ⟨_, hT, va_S.rf, rfl⟩
  rw [← hgo]
  have hl : lv_has ls 1 [(0, .ref a)] := hl
  obtain ⟨hK, hA⟩ := hK
  have hM0 : KM K K := KM.rf
  have hU : NU [] K K := NU.rf
  refine lv_aload_n hx hb dX9_init_0 rfl (lv_at hl 0 rfl) ?_
  refine W.objInit hx hb S.2.2.2.1 (S.2.2.2.2 _ (List.mem_cons_of_mem _ km_X9_3)) (S.2.2.2.2 _ (List.mem_cons_of_mem _ koi.1)) (S.2.2.2.2 _ (List.mem_cons_of_mem _ koi.2)) rfl (by rw [S.2.2.1]; exact hl.1) rfl dX9_init_1 (Nat.le_of_ble_eq_true rfl) (Nat.le_of_ble_eq_true rfl) ?_
  refine W.eq (g2 := F0 m 4 ls []) rfl ?_
  refine lv_aload_n hx hb dX9_init_4 rfl (lv_at hl 0 rfl) ?_
  refine tx_new (ci := 0) (fs := [.null, .int 0, .int 0, .int 0]) S hK hz hT hS inJ4 tyJ4 tyJ4_ok kn_X9_9 kin_J4.1 kin_J4.2 rfl (by intro j hj; match j, hj with | 0, _ => rfl | 1, _ => rfl | 2, _ => rfl | 3, _ => rfl | j + 4, hj => exact absurd hj (by omega)) (Nat.le_of_ble_eq_true rfl) (Nat.le_of_ble_eq_true rfl) dX9_init_5 (fun q1 H hT hS => ?_)
  refine lv_dup hx hb dX9_init_8 rfl ?_
  refine x_cv (x_runI (b := q1) (As := []) (rest := [.ref q1, .ref a]) S (c_J4_init_da8c8 l E K F G ((a, .inr (10, [.null, .int 0, .int 0, .int 0])) :: L) q1) mi_J4_init_da8c8 rfl km_X9_11 rfl rfl ⟨Nat.le_of_ble_eq_true rfl, Nat.le_of_ble_eq_true rfl⟩ hK (fun _ => XPx.blind) (fun U hU hW => XPx.at hK hA hz hS hT hU hW) rfl hl.1 (Nat.le_of_ble_eq_true rfl) dX9_init_9 ⟨Nat.le_of_ble_eq_true rfl, Nat.le_of_ble_eq_true rfl⟩) hS ?_
  rintro q2 H locs - hT hS
  have hT : TX E K F G ((q1, .inr (0, [.ref q2, .int 0, .int 0, .int 0])) :: (q2, .inl (E.2.1 2, 16, .inl (fun _ => 0))) :: (a, .inr (10, [.null, .int 0, .int 0, .int 0])) :: L) H := hT
  refine tx_putF (C := RX9) (T := TX9) (N := 4) (ci := 10) (ty := (.object "java/lang/StringBuilder")) S hK hT hS inX9 tyX9 tyX9_ok nmX9 2 rfl rfl 0 (by decide) kf_X9_12 rfl hnm rfl (by decide +kernel) rfl rfl (Nat.le_of_ble_eq_true rfl) dX9_init_12 (fun H locs hT hS => ?_)
  have hT : TX E K F G ((q1, .inr (0, [.ref q2, .int 0, .int 0, .int 0])) :: (q2, .inl (E.2.1 2, 16, .inl (fun _ => 0))) :: (a, .inr (10, [.ref q1, .int 0, .int 0, .int 0])) :: L) H := hT
  have hT := hT.rot
  exact x_rv hx hb hr hlk hQ (Nat.le_of_ble_eq_true rfl) (Nat.le_of_ble_eq_true rfl) hS dX9_init_15 (q1, q2) trivial hT
