theorem z_X11_init_1 (a0 : Int) (h0 : a0 ≤ 12) (h1 : (0 : Int) ≤ a0) (r0 : -2147483648 ≤ a0 ∧ a0 < 2147483648) : ¬ (2147483648 - a0 < ((0 : Nat) : Int)) := by omega
theorem z_X11_init_2 (a0 : Int) (a1 : Int) (a2 : Nat) (h0 : a0 ≤ 12) (h1 : (0 : Int) ≤ a0) (h2 : 2147483648 - a0 < ((a2 + 1 : Nat) : Int)) (h3 : ¬ ((12 : Int) ≤ a0)) (h4 : a1 = (10 : Int) * a0 ∨ (10 : Int) * a0 < -2147483648 ∨ 2147483648 ≤ (10 : Int) * a0) (r0 : -2147483648 ≤ a0 ∧ a0 < 2147483648) (r1 : -2147483648 ≤ a1 ∧ a1 < 2147483648) : 0 ≤ a1 ∧ a1 < ((120 : Nat) : Int) := by omega
theorem z_X11_init_3 (a0 : Int) (a1 : Int) (a2 : Nat) (h0 : a0 ≤ 12) (h1 : (0 : Int) ≤ a0) (h2 : 2147483648 - a0 < ((a2 + 1 : Nat) : Int)) (h3 : ¬ ((12 : Int) ≤ a0)) (h4 : a1 = (10 : Int) * a0 ∨ (10 : Int) * a0 < -2147483648 ∨ 2147483648 ≤ (10 : Int) * a0) (r0 : -2147483648 ≤ a0 ∧ a0 < 2147483648) (r1 : -2147483648 ≤ a1 ∧ a1 < 2147483648) : 0 ≤ a0 ∧ a0 ≤ 11 := by omega
theorem z_X11_init_4 (a0 : Int) (a1 : Int) (a2 : Nat) (h0 : a0 ≤ 12) (h1 : (0 : Int) ≤ a0) (h2 : 2147483648 - a0 < ((a2 + 1 : Nat) : Int)) (h3 : ¬ ((12 : Int) ≤ a0)) (h4 : a1 = (10 : Int) * a0 ∨ (10 : Int) * a0 < -2147483648 ∨ 2147483648 ≤ (10 : Int) * a0) (r0 : -2147483648 ≤ a0 ∧ a0 < 2147483648) (r1 : -2147483648 ≤ a1 ∧ a1 < 2147483648) : 0 ≤ 10 * a0 + (0 : Int) := by omega
theorem z_X11_init_5 (a0 : Int) (a1 : Int) (a2 : Nat) (h0 : a0 ≤ 12) (h1 : (0 : Int) ≤ a0) (h2 : 2147483648 - a0 < ((a2 + 1 : Nat) : Int)) (h3 : ¬ ((12 : Int) ≤ a0)) (h4 : a1 = (10 : Int) * a0 ∨ (10 : Int) * a0 < -2147483648 ∨ 2147483648 ≤ (10 : Int) * a0) (r0 : -2147483648 ≤ a0 ∧ a0 < 2147483648) (r1 : -2147483648 ≤ a1 ∧ a1 < 2147483648) : 10 * a0 + (0 : Int) = a1 := by omega
theorem z_X11_init_6 (a0 : Int) (a1 : Int) (a2 : Nat) (h0 : a0 ≤ 12) (h1 : (0 : Int) ≤ a0) (h2 : 2147483648 - a0 < ((a2 + 1 : Nat) : Int)) (h3 : ¬ ((12 : Int) ≤ a0)) (h4 : a1 = (10 : Int) * a0 ∨ (10 : Int) * a0 < -2147483648 ∨ 2147483648 ≤ (10 : Int) * a0) (r0 : -2147483648 ≤ a0 ∧ a0 < 2147483648) (r1 : -2147483648 ≤ a1 ∧ a1 < 2147483648) : 0 ≤ 10 * a0 + (1 : Int) := by omega
theorem z_X11_init_7 (a0 : Int) (a1 : Int) (a2 : Nat) (h0 : a0 ≤ 12) (h1 : (0 : Int) ≤ a0) (h2 : 2147483648 - a0 < ((a2 + 1 : Nat) : Int)) (h3 : ¬ ((12 : Int) ≤ a0)) (h4 : a1 = (10 : Int) * a0 ∨ (10 : Int) * a0 < -2147483648 ∨ 2147483648 ≤ (10 : Int) * a0) (r0 : -2147483648 ≤ a0 ∧ a0 < 2147483648) (r1 : -2147483648 ≤ a1 ∧ a1 < 2147483648) : 10 * a0 + (1 : Int) ≠ a1 := by omega
theorem z_X11_init_8 (a0 : Int) (a1 : Int) (a2 : Nat) (h0 : a0 ≤ 12) (h1 : (0 : Int) ≤ a0) (h2 : 2147483648 - a0 < ((a2 + 1 : Nat) : Int)) (h3 : ¬ ((12 : Int) ≤ a0)) (h4 : a1 = (10 : Int) * a0 ∨ (10 : Int) * a0 < -2147483648 ∨ 2147483648 ≤ (10 : Int) * a0) (r0 : -2147483648 ≤ a0 ∧ a0 < 2147483648) (r1 : -2147483648 ≤ a1 ∧ a1 < 2147483648) : 0 ≤ 10 * a0 + (2 : Int) := by omega
theorem z_X11_init_9 (a0 : Int) (a1 : Int) (a2 : Nat) (h0 : a0 ≤ 12) (h1 : (0 : Int) ≤ a0) (h2 : 2147483648 - a0 < ((a2 + 1 : Nat) : Int)) (h3 : ¬ ((12 : Int) ≤ a0)) (h4 : a1 = (10 : Int) * a0 ∨ (10 : Int) * a0 < -2147483648 ∨ 2147483648 ≤ (10 : Int) * a0) (r0 : -2147483648 ≤ a0 ∧ a0 < 2147483648) (r1 : -2147483648 ≤ a1 ∧ a1 < 2147483648) : 10 * a0 + (2 : Int) ≠ a1 := by omega
theorem z_X11_init_10 (a0 : Int) (a1 : Int) (a2 : Nat) (h0 : a0 ≤ 12) (h1 : (0 : Int) ≤ a0) (h2 : 2147483648 - a0 < ((a2 + 1 : Nat) : Int)) (h3 : ¬ ((12 : Int) ≤ a0)) (h4 : a1 = (10 : Int) * a0 ∨ (10 : Int) * a0 < -2147483648 ∨ 2147483648 ≤ (10 : Int) * a0) (r0 : -2147483648 ≤ a0 ∧ a0 < 2147483648) (r1 : -2147483648 ≤ a1 ∧ a1 < 2147483648) : 0 ≤ 10 * a0 + (3 : Int) := by omega
theorem z_X11_init_11 (a0 : Int) (a1 : Int) (a2 : Nat) (h0 : a0 ≤ 12) (h1 : (0 : Int) ≤ a0) (h2 : 2147483648 - a0 < ((a2 + 1 : Nat) : Int)) (h3 : ¬ ((12 : Int) ≤ a0)) (h4 : a1 = (10 : Int) * a0 ∨ (10 : Int) * a0 < -2147483648 ∨ 2147483648 ≤ (10 : Int) * a0) (r0 : -2147483648 ≤ a0 ∧ a0 < 2147483648) (r1 : -2147483648 ≤ a1 ∧ a1 < 2147483648) : 10 * a0 + (3 : Int) ≠ a1 := by omega
theorem z_X11_init_12 (a0 : Int) (a1 : Int) (a2 : Nat) (h0 : a0 ≤ 12) (h1 : (0 : Int) ≤ a0) (h2 : 2147483648 - a0 < ((a2 + 1 : Nat) : Int)) (h3 : ¬ ((12 : Int) ≤ a0)) (h4 : a1 = (10 : Int) * a0 ∨ (10 : Int) * a0 < -2147483648 ∨ 2147483648 ≤ (10 : Int) * a0) (r0 : -2147483648 ≤ a0 ∧ a0 < 2147483648) (r1 : -2147483648 ≤ a1 ∧ a1 < 2147483648) : 0 ≤ a0 ∧ a0 ≤ 11 := by omega
theorem z_X11_init_13 (a0 : Int) (a1 : Int) (a2 : Nat) (h0 : a0 ≤ 12) (h1 : (0 : Int) ≤ a0) (h2 : 2147483648 - a0 < ((a2 + 1 : Nat) : Int)) (h3 : ¬ ((12 : Int) ≤ a0)) (h4 : a1 = (10 : Int) * a0 ∨ (10 : Int) * a0 < -2147483648 ∨ 2147483648 ≤ (10 : Int) * a0) (r0 : -2147483648 ≤ a0 ∧ a0 < 2147483648) (r1 : -2147483648 ≤ a1 ∧ a1 < 2147483648) : 10 * a0 ≤ a1 ∧ a1 ≤ 10 * a0 + 9 := by omega
theorem z_X11_init_14 (a0 : Int) (a1 : Int) (a2 : Int) (a3 : Int) (a4 : Int) (a5 : Int) (a6 : Int) (a7 : Int) (h0 : (-1 ≤ a0 ∧ a0 ≤ 5) ∧ (0 ≤ a1 ∧ a1 ≤ 2) ∧ (0 ≤ a2 ∧ a2 ≤ 2) ∧ (-1 ≤ a3 ∧ a3 ≤ 2) ∧ (a0 = 1 ∨ a0 = 3 ∨ a0 = 4 → 0 ≤ a3)) (h1 : a4 = (-1 : Int)) (h2 : a5 = a1) (h3 : a6 = a2) (h4 : a7 = a3) : (-1 ≤ a4 ∧ a4 ≤ 5) ∧ (0 ≤ a5 ∧ a5 ≤ 2) ∧ (0 ≤ a6 ∧ a6 ≤ 2) ∧ (-1 ≤ a7 ∧ a7 ≤ 2) ∧ (a4 = 1 ∨ a4 = 3 ∨ a4 = 4 → 0 ≤ a7) := by omega
theorem z_X11_init_15 (a0 : Int) (a1 : Int) (a2 : Int) (a3 : Nat) (h0 : a0 ≤ 12) (h1 : (0 : Int) ≤ a0) (h2 : 2147483648 - a0 < ((a3 + 1 : Nat) : Int)) (h3 : ¬ ((12 : Int) ≤ a0)) (h4 : a1 = (10 : Int) * a0 ∨ (10 : Int) * a0 < -2147483648 ∨ 2147483648 ≤ (10 : Int) * a0) (h5 : a2 = a0 + 1 ∨ a0 + 1 < -2147483648 ∨ 2147483648 ≤ a0 + 1) (r0 : -2147483648 ≤ a0 ∧ a0 < 2147483648) (r1 : -2147483648 ≤ a1 ∧ a1 < 2147483648) (r2 : -2147483648 ≤ a2 ∧ a2 < 2147483648) : a2 ≤ 12 := by omega
theorem z_X11_init_16 (a0 : Int) (a1 : Int) (a2 : Int) (a3 : Nat) (h0 : a0 ≤ 12) (h1 : (0 : Int) ≤ a0) (h2 : 2147483648 - a0 < ((a3 + 1 : Nat) : Int)) (h3 : ¬ ((12 : Int) ≤ a0)) (h4 : a1 = (10 : Int) * a0 ∨ (10 : Int) * a0 < -2147483648 ∨ 2147483648 ≤ (10 : Int) * a0) (h5 : a2 = a0 + 1 ∨ a0 + 1 < -2147483648 ∨ 2147483648 ≤ a0 + 1) (r0 : -2147483648 ≤ a0 ∧ a0 < 2147483648) (r1 : -2147483648 ≤ a1 ∧ a1 < 2147483648) (r2 : -2147483648 ≤ a2 ∧ a2 < 2147483648) : (0 : Int) ≤ a2 := by omega
theorem z_X11_init_17 (a0 : Int) (a1 : Int) (a2 : Int) (a3 : Nat) (h0 : a0 ≤ 12) (h1 : (0 : Int) ≤ a0) (h2 : 2147483648 - a0 < ((a3 + 1 : Nat) : Int)) (h3 : ¬ ((12 : Int) ≤ a0)) (h4 : a1 = (10 : Int) * a0 ∨ (10 : Int) * a0 < -2147483648 ∨ 2147483648 ≤ (10 : Int) * a0) (h5 : a2 = a0 + 1 ∨ a0 + 1 < -2147483648 ∨ 2147483648 ≤ a0 + 1) (r0 : -2147483648 ≤ a0 ∧ a0 < 2147483648) (r1 : -2147483648 ≤ a1 ∧ a1 < 2147483648) (r2 : -2147483648 ≤ a2 ∧ a2 < 2147483648) : 2147483648 - a2 < ((a3 : Nat) : Int) := by omega
abbrev rm_X11_init : Room := { frames := 1, cells := 36, slots := 24231, locals := 12 }
set_option maxHeartbeats 4000000 in
set_option maxRecDepth 100000 in
theorem c_X11_init (l : Launch) (E : XE) (K : Nat → Nat) (F : Nat → Nat → Nat) (L : va_W) (a : Nat) (hN : ∀ k ∈ [13, 30, 37, 42, 43, 44, 52, 55, 56, 57, 58, 59], ∀ b, K b ≠ k) : Met l yX11_init (xw yX11_init cX11_init 2 none) rm_X11_init (va_Pc [.ref a] (XPx E K F (0, [0, 0, 0, 0, 0, (-2147483648), (-2147483648), 0, 0, 0, 0, 0, 0, (-1), 0, 0, 0, 0, 0, 0, 0], [(fun _ => 0), (fun _ => 0), (fun _ => 0), (fun _ => 0), (fun _ => 0), (fun _ => 0), (fun _ => 0), (fun _ => 0), (fun _ => 0), (fun _ => 0), (fun _ => 0)]) ((a, .inr (12, [.int 0, .null, .null, .null, .null, .null, .int 0, .int 0, .null, .null, .null, .null, .null, .null, .null, .null, .int 0, .null, .null, .int 0, .int 0, .int 0, .null, .int 0, .null, .null, .null, .null, .null, .null, .null, .null, .null, .null, .null, .null, .int 0, .int 0, .int 0, .int 0, .null, .null, .null, .int 0, .int 0, .int 0, .int 0, .null, .null, .null, .null, .null])) :: L))) (XQv E (fun (u : (Nat → Int32) × (Nat → Nat) × (Nat → Nat → Nat)) => (KM K u.2.1 ∧ u.2.1 a = 13 ∧ NU [30, 31, 32, 34, 35, 36, 37, 38, 42, 43, 44, 45, 46, 47, 48, 49, 50, 51, 52, 53, 54, 55, 56, 57, 58, 59, 13] K u.2.1) ∧ RV u.1) (fun u H => TX E u.2.1 u.2.2 (0, [0, 0, 0, 0, 0, (-2147483648), (-2147483648), 0, 0, 0, 0, 0, 0, (-1), 0, 0, 0, 0, 0, 0, 0], [(fun _ => 0), u.1, (fun _ => 0), (fun _ => 0), (fun _ => 0), (fun _ => 0), (fun _ => 0), (fun _ => 0), (fun _ => 0), (fun _ => 0), (fun _ => 0)]) L H)) 36 24231 (xA E) := by
  refine x_enter (by decide) (Nat.le_of_ble_eq_true rfl) ?_
  intro p e s m args below meth c Q S hr hlk hnm hQ hP ls hl
  obtain ⟨hz, hK, hT⟩ := hP
  obtain ⟨hx, hb, -, -, -⟩ := id S
  obtain ⟨H, hT, hS, hgo⟩ : ∃ H : Heap, TX E K F (0, [0, 0, 0, 0, 0, (-2147483648), (-2147483648), 0, 0, 0, 0, 0, 0, (-1), 0, 0, 0, 0, 0, 0, 0], [(fun _ => 0), (fun _ => 0), (fun _ => 0), (fun _ => 0), (fun _ => 0), (fun _ => 0), (fun _ => 0), (fun _ => 0), (fun _ => 0), (fun _ => 0), (fun _ => 0)]) ((a, .inr (12, [.int 0, .null, .null, .null, .null, .null, .int 0, .int 0, .null, .null, .null, .null, .null, .null, .null, .null, .int 0, .null, .null, .int 0, .int 0, .int 0, .null, .int 0, .null, .null, .null, .null, .null, .null, .null, .null, .null, .null, .null, .null, .int 0, .int 0, .int 0, .int 0, .null, .null, .null, .int 0, .int 0, .int 0, .int 0, .null, .null, .null, .null, .null])) :: L) H ∧ va_S (xA E) s.heap H [] ∧ H = s.heap := ⟨_, hT, va_S.rf, rfl⟩
  rw [← hgo]
  have hl : lv_has ls 2 [(0, .ref a)] := hl
  obtain ⟨hK, hA⟩ := hK
  have hM0 : KM K K := KM.rf
  have hU : NU [] K K := NU.rf
  refine lv_aload_n hx hb dX11_init_0 rfl (lv_at hl 0 rfl) ?_
  refine W.objInit hx hb S.2.2.2.1 (S.2.2.2.2 _ (List.mem_cons_of_mem _ km_X11_3)) (S.2.2.2.2 _ (List.mem_cons_of_mem _ koi.1)) (S.2.2.2.2 _ (List.mem_cons_of_mem _ koi.2)) rfl (by rw [S.2.2.1]; exact hl.1) rfl dX11_init_1 (Nat.le_of_ble_eq_true rfl) (Nat.le_of_ble_eq_true rfl) ?_
  refine W.eq (g2 := F0 m 4 ls []) rfl ?_
  refine lv_aload_n hx hb dX11_init_4 rfl (lv_at hl 0 rfl) ?_
  refine lv_sipush (v := 360) hx hb dX11_init_5 (by decide) ?_
  refine tx_na0 S hK hz hT hS (N := 360) (by decide) (by decide) (Nat.le_of_ble_eq_true rfl) (Nat.le_of_ble_eq_true rfl) (Nat.le_of_ble_eq_true rfl) dX11_init_8 (fun q1 H hT hS => ?_)
  obtain ⟨K, F, hM, hk2, hU9, hT⟩ := hT.cl 30 (fun j => 0) (by decide) (fun _ => NU.no hU (hN 30 (by decide)) (by decide) (by decide)) (fun K1 F1 hM hF => ⟨0, 360, fun _ => 0, rfl, rfl, fun _ => trivial, fun j9 hj => by cases hj; rfl⟩)
  have hM0 := KM.tr hM0 hM
  have hU := NU.tr hU hU9
  refine tx_putF (C := RX11) (T := TX11) (N := 52) (ci := 12) (ty := (.array .int)) S hK hT hS inX11 tyX11 tyX11_ok nmX11 0 rfl rfl 1 (by decide) kf_X11_9 rfl hnm rfl (by decide +kernel) rfl rfl (Nat.le_of_ble_eq_true rfl) dX11_init_10 (fun H locs hT hS => ?_)
  have hT : TX E K F (0, [0, 0, 0, 0, 0, (-2147483648), (-2147483648), 0, 0, 0, 0, 0, 0, (-1), 0, 0, 0, 0, 0, 0, 0], [(fun _ => 0), (fun _ => 0), (fun _ => 0), (fun _ => 0), (fun _ => 0), (fun _ => 0), (fun _ => 0), (fun _ => 0), (fun _ => 0), (fun _ => 0), (fun _ => 0)]) ((a, .inr (12, [.int 0, .ref q1, .null, .null, .null, .null, .int 0, .int 0, .null, .null, .null, .null, .null, .null, .null, .null, .int 0, .null, .null, .int 0, .int 0, .int 0, .null, .int 0, .null, .null, .null, .null, .null, .null, .null, .null, .null, .null, .null, .null, .int 0, .int 0, .int 0, .int 0, .null, .null, .null, .int 0, .int 0, .int 0, .int 0, .null, .null, .null, .null, .null])) :: L) H := hT
  refine lv_aload_n hx hb dX11_init_13 rfl (lv_at hl 0 rfl) ?_
  refine lv_sipush (v := 360) hx hb dX11_init_14 (by decide) ?_
  refine tx_na0 S hK hz hT hS (N := 360) (by decide) (by decide) (Nat.le_of_ble_eq_true rfl) (Nat.le_of_ble_eq_true rfl) (Nat.le_of_ble_eq_true rfl) dX11_init_17 (fun q3 H hT hS => ?_)
  obtain ⟨K, F, hM, hk4, hU9, hT⟩ := hT.cl 31 (fun j => 0) (by decide) (fun hq => absurd hq (by decide)) (fun K1 F1 hM hF => aw_31 _ (fun _ => trivial))
  have hk5 : K q1 = 30 := hM _ _ hk2 (by decide)
  have hM0 := KM.tr hM0 hM
  have hU := NU.tr hU hU9
  refine tx_putF (C := RX11) (T := TX11) (N := 52) (ci := 12) (ty := (.array .int)) S hK hT hS inX11 tyX11 tyX11_ok nmX11 0 rfl rfl 2 (by decide) kf_X11_15 rfl hnm rfl (by decide +kernel) rfl rfl (Nat.le_of_ble_eq_true rfl) dX11_init_19 (fun H locs hT hS => ?_)
  have hT : TX E K F (0, [0, 0, 0, 0, 0, (-2147483648), (-2147483648), 0, 0, 0, 0, 0, 0, (-1), 0, 0, 0, 0, 0, 0, 0], [(fun _ => 0), (fun _ => 0), (fun _ => 0), (fun _ => 0), (fun _ => 0), (fun _ => 0), (fun _ => 0), (fun _ => 0), (fun _ => 0), (fun _ => 0), (fun _ => 0)]) ((a, .inr (12, [.int 0, .ref q1, .ref q3, .null, .null, .null, .int 0, .int 0, .null, .null, .null, .null, .null, .null, .null, .null, .int 0, .null, .null, .int 0, .int 0, .int 0, .null, .int 0, .null, .null, .null, .null, .null, .null, .null, .null, .null, .null, .null, .null, .int 0, .int 0, .int 0, .int 0, .null, .null, .null, .int 0, .int 0, .int 0, .int 0, .null, .null, .null, .null, .null])) :: L) H := hT
  refine lv_aload_n hx hb dX11_init_22 rfl (lv_at hl 0 rfl) ?_
  refine lv_sipush (v := 2880) hx hb dX11_init_23 (by decide) ?_
  refine tx_na0 S hK hz hT hS (N := 2880) (by decide) (by decide) (Nat.le_of_ble_eq_true rfl) (Nat.le_of_ble_eq_true rfl) (Nat.le_of_ble_eq_true rfl) dX11_init_26 (fun q6 H hT hS => ?_)
  obtain ⟨K, F, hM, hk7, hU9, hT⟩ := hT.cl 32 (fun j => 0) (by decide) (fun hq => absurd hq (by decide)) (fun K1 F1 hM hF => aw_32 _ (fun _ => trivial))
  have hk8 : K q1 = 30 := hM _ _ hk5 (by decide)
  have hk9 : K q3 = 31 := hM _ _ hk4 (by decide)
  have hM0 := KM.tr hM0 hM
  have hU := NU.tr hU hU9
  refine tx_putF (C := RX11) (T := TX11) (N := 52) (ci := 12) (ty := (.array .int)) S hK hT hS inX11 tyX11 tyX11_ok nmX11 0 rfl rfl 3 (by decide) kf_X11_18 rfl hnm rfl (by decide +kernel) rfl rfl (Nat.le_of_ble_eq_true rfl) dX11_init_28 (fun H locs hT hS => ?_)
  have hT : TX E K F (0, [0, 0, 0, 0, 0, (-2147483648), (-2147483648), 0, 0, 0, 0, 0, 0, (-1), 0, 0, 0, 0, 0, 0, 0], [(fun _ => 0), (fun _ => 0), (fun _ => 0), (fun _ => 0), (fun _ => 0), (fun _ => 0), (fun _ => 0), (fun _ => 0), (fun _ => 0), (fun _ => 0), (fun _ => 0)]) ((a, .inr (12, [.int 0, .ref q1, .ref q3, .ref q6, .null, .null, .int 0, .int 0, .null, .null, .null, .null, .null, .null, .null, .null, .int 0, .null, .null, .int 0, .int 0, .int 0, .null, .int 0, .null, .null, .null, .null, .null, .null, .null, .null, .null, .null, .null, .null, .int 0, .int 0, .int 0, .int 0, .null, .null, .null, .int 0, .int 0, .int 0, .int 0, .null, .null, .null, .null, .null])) :: L) H := hT
  refine lv_aload_n hx hb dX11_init_31 rfl (lv_at hl 0 rfl) ?_
  refine lv_sipush (v := 360) hx hb dX11_init_32 (by decide) ?_
  refine tx_na0 S hK hz hT hS (N := 360) (by decide) (by decide) (Nat.le_of_ble_eq_true rfl) (Nat.le_of_ble_eq_true rfl) (Nat.le_of_ble_eq_true rfl) dX11_init_35 (fun q10 H hT hS => ?_)
  obtain ⟨K, F, hM, hk11, hU9, hT⟩ := hT.cl 31 (fun j => 0) (by decide) (fun hq => absurd hq (by decide)) (fun K1 F1 hM hF => aw_31 _ (fun _ => trivial))
  have hk12 : K q1 = 30 := hM _ _ hk8 (by decide)
  have hk13 : K q3 = 31 := hM _ _ hk9 (by decide)
  have hk14 : K q6 = 32 := hM _ _ hk7 (by decide)
  have hM0 := KM.tr hM0 hM
  have hU := NU.tr hU hU9
  refine tx_putF (C := RX11) (T := TX11) (N := 52) (ci := 12) (ty := (.array .int)) S hK hT hS inX11 tyX11 tyX11_ok nmX11 0 rfl rfl 4 (by decide) kf_X11_21 rfl hnm rfl (by decide +kernel) rfl rfl (Nat.le_of_ble_eq_true rfl) dX11_init_37 (fun H locs hT hS => ?_)
  have hT : TX E K F (0, [0, 0, 0, 0, 0, (-2147483648), (-2147483648), 0, 0, 0, 0, 0, 0, (-1), 0, 0, 0, 0, 0, 0, 0], [(fun _ => 0), (fun _ => 0), (fun _ => 0), (fun _ => 0), (fun _ => 0), (fun _ => 0), (fun _ => 0), (fun _ => 0), (fun _ => 0), (fun _ => 0), (fun _ => 0)]) ((a, .inr (12, [.int 0, .ref q1, .ref q3, .ref q6, .ref q10, .null, .int 0, .int 0, .null, .null, .null, .null, .null, .null, .null, .null, .int 0, .null, .null, .int 0, .int 0, .int 0, .null, .int 0, .null, .null, .null, .null, .null, .null, .null, .null, .null, .null, .null, .null, .int 0, .int 0, .int 0, .int 0, .null, .null, .null, .int 0, .int 0, .int 0, .int 0, .null, .null, .null, .null, .null])) :: L) H := hT
  refine lv_aload_n hx hb dX11_init_40 rfl (lv_at hl 0 rfl) ?_
  refine lv_sipush (v := 360) hx hb dX11_init_41 (by decide) ?_
  refine tx_na0 S hK hz hT hS (N := 360) (by decide) (by decide) (Nat.le_of_ble_eq_true rfl) (Nat.le_of_ble_eq_true rfl) (Nat.le_of_ble_eq_true rfl) dX11_init_44 (fun q15 H hT hS => ?_)
  obtain ⟨K, F, hM, hk16, hU9, hT⟩ := hT.cl 34 (fun j => 0) (by decide) (fun hq => absurd hq (by decide)) (fun K1 F1 hM hF => aw_34 _ (fun _ => trivial))
  have hk17 : K q1 = 30 := hM _ _ hk12 (by decide)
  have hk18 : K q3 = 31 := hM _ _ hk13 (by decide)
  have hk19 : K q6 = 32 := hM _ _ hk14 (by decide)
  have hk20 : K q10 = 31 := hM _ _ hk11 (by decide)
  have hM0 := KM.tr hM0 hM
  have hU := NU.tr hU hU9
  refine tx_putF (C := RX11) (T := TX11) (N := 52) (ci := 12) (ty := (.array .int)) S hK hT hS inX11 tyX11 tyX11_ok nmX11 0 rfl rfl 5 (by decide) kf_X11_24 rfl hnm rfl (by decide +kernel) rfl rfl (Nat.le_of_ble_eq_true rfl) dX11_init_46 (fun H locs hT hS => ?_)
  have hT : TX E K F (0, [0, 0, 0, 0, 0, (-2147483648), (-2147483648), 0, 0, 0, 0, 0, 0, (-1), 0, 0, 0, 0, 0, 0, 0], [(fun _ => 0), (fun _ => 0), (fun _ => 0), (fun _ => 0), (fun _ => 0), (fun _ => 0), (fun _ => 0), (fun _ => 0), (fun _ => 0), (fun _ => 0), (fun _ => 0)]) ((a, .inr (12, [.int 0, .ref q1, .ref q3, .ref q6, .ref q10, .ref q15, .int 0, .int 0, .null, .null, .null, .null, .null, .null, .null, .null, .int 0, .null, .null, .int 0, .int 0, .int 0, .null, .int 0, .null, .null, .null, .null, .null, .null, .null, .null, .null, .null, .null, .null, .int 0, .int 0, .int 0, .int 0, .null, .null, .null, .int 0, .int 0, .int 0, .int 0, .null, .null, .null, .null, .null])) :: L) H := hT
  refine lv_aload_n hx hb dX11_init_49 rfl (lv_at hl 0 rfl) ?_
  refine lv_bipush (v := 6) hx hb dX11_init_50 (by decide) ?_
  refine tx_na0 S hK hz hT hS (N := 6) (by decide) (by decide) (Nat.le_of_ble_eq_true rfl) (Nat.le_of_ble_eq_true rfl) (Nat.le_of_ble_eq_true rfl) dX11_init_52 (fun q21 H hT hS => ?_)
  obtain ⟨K, F, hM, hk22, hU9, hT⟩ := hT.cl 35 (fun j => 0) (by decide) (fun hq => absurd hq (by decide)) (fun K1 F1 hM hF => aw_35 _ (fun _ => trivial))
  have hk23 : K q1 = 30 := hM _ _ hk17 (by decide)
  have hk24 : K q3 = 31 := hM _ _ hk18 (by decide)
  have hk25 : K q6 = 32 := hM _ _ hk19 (by decide)
  have hk26 : K q10 = 31 := hM _ _ hk20 (by decide)
  have hk27 : K q15 = 34 := hM _ _ hk16 (by decide)
  have hM0 := KM.tr hM0 hM
  have hU := NU.tr hU hU9
  refine tx_putF (C := RX11) (T := TX11) (N := 52) (ci := 12) (ty := (.array .int)) S hK hT hS inX11 tyX11 tyX11_ok nmX11 0 rfl rfl 8 (by decide) kf_X11_27 rfl hnm rfl (by decide +kernel) rfl rfl (Nat.le_of_ble_eq_true rfl) dX11_init_54 (fun H locs hT hS => ?_)
  have hT : TX E K F (0, [0, 0, 0, 0, 0, (-2147483648), (-2147483648), 0, 0, 0, 0, 0, 0, (-1), 0, 0, 0, 0, 0, 0, 0], [(fun _ => 0), (fun _ => 0), (fun _ => 0), (fun _ => 0), (fun _ => 0), (fun _ => 0), (fun _ => 0), (fun _ => 0), (fun _ => 0), (fun _ => 0), (fun _ => 0)]) ((a, .inr (12, [.int 0, .ref q1, .ref q3, .ref q6, .ref q10, .ref q15, .int 0, .int 0, .ref q21, .null, .null, .null, .null, .null, .null, .null, .int 0, .null, .null, .int 0, .int 0, .int 0, .null, .int 0, .null, .null, .null, .null, .null, .null, .null, .null, .null, .null, .null, .null, .int 0, .int 0, .int 0, .int 0, .null, .null, .null, .int 0, .int 0, .int 0, .int 0, .null, .null, .null, .null, .null])) :: L) H := hT
  refine lv_aload_n hx hb dX11_init_57 rfl (lv_at hl 0 rfl) ?_
  refine lv_iconst (v := 4) hx hb dX11_init_58 (by decide) ?_
  refine tx_na0 S hK hz hT hS (N := 4) (by decide) (by decide) (Nat.le_of_ble_eq_true rfl) (Nat.le_of_ble_eq_true rfl) (Nat.le_of_ble_eq_true rfl) dX11_init_59 (fun q28 H hT hS => ?_)
  obtain ⟨K, F, hM, hk29, hU9, hT⟩ := hT.cl 36 (fun j => 0) (by decide) (fun hq => absurd hq (by decide)) (fun K1 F1 hM hF => aw_36 _ (fun _ => trivial))
  have hk30 : K q1 = 30 := hM _ _ hk23 (by decide)
  have hk31 : K q3 = 31 := hM _ _ hk24 (by decide)
  have hk32 : K q6 = 32 := hM _ _ hk25 (by decide)
  have hk33 : K q10 = 31 := hM _ _ hk26 (by decide)
  have hk34 : K q15 = 34 := hM _ _ hk27 (by decide)
  have hk35 : K q21 = 35 := hM _ _ hk22 (by decide)
  have hM0 := KM.tr hM0 hM
  have hU := NU.tr hU hU9
  refine tx_putF (C := RX11) (T := TX11) (N := 52) (ci := 12) (ty := (.array .int)) S hK hT hS inX11 tyX11 tyX11_ok nmX11 0 rfl rfl 9 (by decide) kf_X11_30 rfl hnm rfl (by decide +kernel) rfl rfl (Nat.le_of_ble_eq_true rfl) dX11_init_61 (fun H locs hT hS => ?_)
  have hT : TX E K F (0, [0, 0, 0, 0, 0, (-2147483648), (-2147483648), 0, 0, 0, 0, 0, 0, (-1), 0, 0, 0, 0, 0, 0, 0], [(fun _ => 0), (fun _ => 0), (fun _ => 0), (fun _ => 0), (fun _ => 0), (fun _ => 0), (fun _ => 0), (fun _ => 0), (fun _ => 0), (fun _ => 0), (fun _ => 0)]) ((a, .inr (12, [.int 0, .ref q1, .ref q3, .ref q6, .ref q10, .ref q15, .int 0, .int 0, .ref q21, .ref q28, .null, .null, .null, .null, .null, .null, .int 0, .null, .null, .int 0, .int 0, .int 0, .null, .int 0, .null, .null, .null, .null, .null, .null, .null, .null, .null, .null, .null, .null, .int 0, .int 0, .int 0, .int 0, .null, .null, .null, .int 0, .int 0, .int 0, .int 0, .null, .null, .null, .null, .null])) :: L) H := hT
  refine lv_aload_n hx hb dX11_init_64 rfl (lv_at hl 0 rfl) ?_
  refine lv_bipush (v := 120) hx hb dX11_init_65 (by decide) ?_
  refine tx_na0 S hK hz hT hS (N := 120) (by decide) (by decide) (Nat.le_of_ble_eq_true rfl) (Nat.le_of_ble_eq_true rfl) (Nat.le_of_ble_eq_true rfl) dX11_init_67 (fun q36 H hT hS => ?_)
  obtain ⟨K, F, hM, hk37, hU9, hT⟩ := hT.cl 37 (fun j => 0) (by decide) (fun _ => NU.no hU (hN 37 (by decide)) (by decide) (by decide)) (fun K1 F1 hM hF => ⟨0, 120, fun _ => 0, rfl, rfl, fun _ => trivial, fun j9 hj => by cases hj; rfl⟩)
  have hk38 : K q1 = 30 := hM _ _ hk30 (by decide)
  have hk39 : K q3 = 31 := hM _ _ hk31 (by decide)
  have hk40 : K q6 = 32 := hM _ _ hk32 (by decide)
  have hk41 : K q10 = 31 := hM _ _ hk33 (by decide)
  have hk42 : K q15 = 34 := hM _ _ hk34 (by decide)
  have hk43 : K q21 = 35 := hM _ _ hk35 (by decide)
  have hk44 : K q28 = 36 := hM _ _ hk29 (by decide)
  have hM0 := KM.tr hM0 hM
  have hU := NU.tr hU hU9
  refine tx_putF (C := RX11) (T := TX11) (N := 52) (ci := 12) (ty := (.array .int)) S hK hT hS inX11 tyX11 tyX11_ok nmX11 0 rfl rfl 10 (by decide) kf_X11_33 rfl hnm rfl (by decide +kernel) rfl rfl (Nat.le_of_ble_eq_true rfl) dX11_init_69 (fun H locs hT hS => ?_)
  have hT : TX E K F (0, [0, 0, 0, 0, 0, (-2147483648), (-2147483648), 0, 0, 0, 0, 0, 0, (-1), 0, 0, 0, 0, 0, 0, 0], [(fun _ => 0), (fun _ => 0), (fun _ => 0), (fun _ => 0), (fun _ => 0), (fun _ => 0), (fun _ => 0), (fun _ => 0), (fun _ => 0), (fun _ => 0), (fun _ => 0)]) ((a, .inr (12, [.int 0, .ref q1, .ref q3, .ref q6, .ref q10, .ref q15, .int 0, .int 0, .ref q21, .ref q28, .ref q36, .null, .null, .null, .null, .null, .int 0, .null, .null, .int 0, .int 0, .int 0, .null, .int 0, .null, .null, .null, .null, .null, .null, .null, .null, .null, .null, .null, .null, .int 0, .int 0, .int 0, .int 0, .null, .null, .null, .int 0, .int 0, .int 0, .int 0, .null, .null, .null, .null, .null])) :: L) H := hT
  refine lv_aload_n hx hb dX11_init_72 rfl (lv_at hl 0 rfl) ?_
  refine lv_sipush (v := 2388) hx hb dX11_init_73 (by decide) ?_
  refine tx_na0 S hK hz hT hS (N := 2388) (by decide) (by decide) (Nat.le_of_ble_eq_true rfl) (Nat.le_of_ble_eq_true rfl) (Nat.le_of_ble_eq_true rfl) dX11_init_76 (fun q45 H hT hS => ?_)
  obtain ⟨K, F, hM, hk46, hU9, hT⟩ := hT.cl 38 (fun j => 0) (by decide) (fun hq => absurd hq (by decide)) (fun K1 F1 hM hF => aw_38 _ (fun _ => trivial))
  have hk47 : K q1 = 30 := hM _ _ hk38 (by decide)
  have hk48 : K q3 = 31 := hM _ _ hk39 (by decide)
  have hk49 : K q6 = 32 := hM _ _ hk40 (by decide)
  have hk50 : K q10 = 31 := hM _ _ hk41 (by decide)
  have hk51 : K q15 = 34 := hM _ _ hk42 (by decide)
  have hk52 : K q21 = 35 := hM _ _ hk43 (by decide)
  have hk53 : K q28 = 36 := hM _ _ hk44 (by decide)
  have hk54 : K q36 = 37 := hM _ _ hk37 (by decide)
  have hM0 := KM.tr hM0 hM
  have hU := NU.tr hU hU9
  refine tx_putF (C := RX11) (T := TX11) (N := 52) (ci := 12) (ty := (.array .int)) S hK hT hS inX11 tyX11 tyX11_ok nmX11 0 rfl rfl 11 (by decide) kf_X11_36 rfl hnm rfl (by decide +kernel) rfl rfl (Nat.le_of_ble_eq_true rfl) dX11_init_78 (fun H locs hT hS => ?_)
  have hT : TX E K F (0, [0, 0, 0, 0, 0, (-2147483648), (-2147483648), 0, 0, 0, 0, 0, 0, (-1), 0, 0, 0, 0, 0, 0, 0], [(fun _ => 0), (fun _ => 0), (fun _ => 0), (fun _ => 0), (fun _ => 0), (fun _ => 0), (fun _ => 0), (fun _ => 0), (fun _ => 0), (fun _ => 0), (fun _ => 0)]) ((a, .inr (12, [.int 0, .ref q1, .ref q3, .ref q6, .ref q10, .ref q15, .int 0, .int 0, .ref q21, .ref q28, .ref q36, .ref q45, .null, .null, .null, .null, .int 0, .null, .null, .int 0, .int 0, .int 0, .null, .int 0, .null, .null, .null, .null, .null, .null, .null, .null, .null, .null, .null, .null, .int 0, .int 0, .int 0, .int 0, .null, .null, .null, .int 0, .int 0, .int 0, .int 0, .null, .null, .null, .null, .null])) :: L) H := hT
  refine lv_aload_n hx hb dX11_init_81 rfl (lv_at hl 0 rfl) ?_
  refine lv_sipush (v := 2388) hx hb dX11_init_82 (by decide) ?_
  refine tx_na0 S hK hz hT hS (N := 2388) (by decide) (by decide) (Nat.le_of_ble_eq_true rfl) (Nat.le_of_ble_eq_true rfl) (Nat.le_of_ble_eq_true rfl) dX11_init_85 (fun q55 H hT hS => ?_)
  obtain ⟨K, F, hM, hk56, hU9, hT⟩ := hT.cl 38 (fun j => 0) (by decide) (fun hq => absurd hq (by decide)) (fun K1 F1 hM hF => aw_38 _ (fun _ => trivial))
  have hk57 : K q1 = 30 := hM _ _ hk47 (by decide)
  have hk58 : K q3 = 31 := hM _ _ hk48 (by decide)
  have hk59 : K q6 = 32 := hM _ _ hk49 (by decide)
  have hk60 : K q10 = 31 := hM _ _ hk50 (by decide)
  have hk61 : K q15 = 34 := hM _ _ hk51 (by decide)
  have hk62 : K q21 = 35 := hM _ _ hk52 (by decide)
  have hk63 : K q28 = 36 := hM _ _ hk53 (by decide)
  have hk64 : K q36 = 37 := hM _ _ hk54 (by decide)
  have hk65 : K q45 = 38 := hM _ _ hk46 (by decide)
  have hM0 := KM.tr hM0 hM
  have hU := NU.tr hU hU9
  refine tx_putF (C := RX11) (T := TX11) (N := 52) (ci := 12) (ty := (.array .int)) S hK hT hS inX11 tyX11 tyX11_ok nmX11 0 rfl rfl 12 (by decide) kf_X11_39 rfl hnm rfl (by decide +kernel) rfl rfl (Nat.le_of_ble_eq_true rfl) dX11_init_87 (fun H locs hT hS => ?_)
  have hT : TX E K F (0, [0, 0, 0, 0, 0, (-2147483648), (-2147483648), 0, 0, 0, 0, 0, 0, (-1), 0, 0, 0, 0, 0, 0, 0], [(fun _ => 0), (fun _ => 0), (fun _ => 0), (fun _ => 0), (fun _ => 0), (fun _ => 0), (fun _ => 0), (fun _ => 0), (fun _ => 0), (fun _ => 0), (fun _ => 0)]) ((a, .inr (12, [.int 0, .ref q1, .ref q3, .ref q6, .ref q10, .ref q15, .int 0, .int 0, .ref q21, .ref q28, .ref q36, .ref q45, .ref q55, .null, .null, .null, .int 0, .null, .null, .int 0, .int 0, .int 0, .null, .int 0, .null, .null, .null, .null, .null, .null, .null, .null, .null, .null, .null, .null, .int 0, .int 0, .int 0, .int 0, .null, .null, .null, .int 0, .int 0, .int 0, .int 0, .null, .null, .null, .null, .null])) :: L) H := hT
  refine lv_aload_n hx hb dX11_init_90 rfl (lv_at hl 0 rfl) ?_
  refine lv_sipush (v := 2388) hx hb dX11_init_91 (by decide) ?_
  refine tx_na0 S hK hz hT hS (N := 2388) (by decide) (by decide) (Nat.le_of_ble_eq_true rfl) (Nat.le_of_ble_eq_true rfl) (Nat.le_of_ble_eq_true rfl) dX11_init_94 (fun q66 H hT hS => ?_)
  obtain ⟨K, F, hM, hk67, hU9, hT⟩ := hT.cl 38 (fun j => 0) (by decide) (fun hq => absurd hq (by decide)) (fun K1 F1 hM hF => aw_38 _ (fun _ => trivial))
  have hk68 : K q1 = 30 := hM _ _ hk57 (by decide)
  have hk69 : K q3 = 31 := hM _ _ hk58 (by decide)
  have hk70 : K q6 = 32 := hM _ _ hk59 (by decide)
  have hk71 : K q10 = 31 := hM _ _ hk60 (by decide)
  have hk72 : K q15 = 34 := hM _ _ hk61 (by decide)
  have hk73 : K q21 = 35 := hM _ _ hk62 (by decide)
  have hk74 : K q28 = 36 := hM _ _ hk63 (by decide)
  have hk75 : K q36 = 37 := hM _ _ hk64 (by decide)
  have hk76 : K q45 = 38 := hM _ _ hk65 (by decide)
  have hk77 : K q55 = 38 := hM _ _ hk56 (by decide)
  have hM0 := KM.tr hM0 hM
  have hU := NU.tr hU hU9
  refine tx_putF (C := RX11) (T := TX11) (N := 52) (ci := 12) (ty := (.array .int)) S hK hT hS inX11 tyX11 tyX11_ok nmX11 0 rfl rfl 13 (by decide) kf_X11_42 rfl hnm rfl (by decide +kernel) rfl rfl (Nat.le_of_ble_eq_true rfl) dX11_init_96 (fun H locs hT hS => ?_)
  have hT : TX E K F (0, [0, 0, 0, 0, 0, (-2147483648), (-2147483648), 0, 0, 0, 0, 0, 0, (-1), 0, 0, 0, 0, 0, 0, 0], [(fun _ => 0), (fun _ => 0), (fun _ => 0), (fun _ => 0), (fun _ => 0), (fun _ => 0), (fun _ => 0), (fun _ => 0), (fun _ => 0), (fun _ => 0), (fun _ => 0)]) ((a, .inr (12, [.int 0, .ref q1, .ref q3, .ref q6, .ref q10, .ref q15, .int 0, .int 0, .ref q21, .ref q28, .ref q36, .ref q45, .ref q55, .ref q66, .null, .null, .int 0, .null, .null, .int 0, .int 0, .int 0, .null, .int 0, .null, .null, .null, .null, .null, .null, .null, .null, .null, .null, .null, .null, .int 0, .int 0, .int 0, .int 0, .null, .null, .null, .int 0, .int 0, .int 0, .int 0, .null, .null, .null, .null, .null])) :: L) H := hT
  refine lv_aload_n hx hb dX11_init_99 rfl (lv_at hl 0 rfl) ?_
  refine lv_sipush (v := 2388) hx hb dX11_init_100 (by decide) ?_
  refine tx_na0 S hK hz hT hS (N := 2388) (by decide) (by decide) (Nat.le_of_ble_eq_true rfl) (Nat.le_of_ble_eq_true rfl) (Nat.le_of_ble_eq_true rfl) dX11_init_103 (fun q78 H hT hS => ?_)
  obtain ⟨K, F, hM, hk79, hU9, hT⟩ := hT.cl 38 (fun j => 0) (by decide) (fun hq => absurd hq (by decide)) (fun K1 F1 hM hF => aw_38 _ (fun _ => trivial))
  have hk80 : K q1 = 30 := hM _ _ hk68 (by decide)
  have hk81 : K q3 = 31 := hM _ _ hk69 (by decide)
  have hk82 : K q6 = 32 := hM _ _ hk70 (by decide)
  have hk83 : K q10 = 31 := hM _ _ hk71 (by decide)
  have hk84 : K q15 = 34 := hM _ _ hk72 (by decide)
  have hk85 : K q21 = 35 := hM _ _ hk73 (by decide)
  have hk86 : K q28 = 36 := hM _ _ hk74 (by decide)
  have hk87 : K q36 = 37 := hM _ _ hk75 (by decide)
  have hk88 : K q45 = 38 := hM _ _ hk76 (by decide)
  have hk89 : K q55 = 38 := hM _ _ hk77 (by decide)
  have hk90 : K q66 = 38 := hM _ _ hk67 (by decide)
  have hM0 := KM.tr hM0 hM
  have hU := NU.tr hU hU9
  refine tx_putF (C := RX11) (T := TX11) (N := 52) (ci := 12) (ty := (.array .int)) S hK hT hS inX11 tyX11 tyX11_ok nmX11 0 rfl rfl 14 (by decide) kf_X11_45 rfl hnm rfl (by decide +kernel) rfl rfl (Nat.le_of_ble_eq_true rfl) dX11_init_105 (fun H locs hT hS => ?_)
  have hT : TX E K F (0, [0, 0, 0, 0, 0, (-2147483648), (-2147483648), 0, 0, 0, 0, 0, 0, (-1), 0, 0, 0, 0, 0, 0, 0], [(fun _ => 0), (fun _ => 0), (fun _ => 0), (fun _ => 0), (fun _ => 0), (fun _ => 0), (fun _ => 0), (fun _ => 0), (fun _ => 0), (fun _ => 0), (fun _ => 0)]) ((a, .inr (12, [.int 0, .ref q1, .ref q3, .ref q6, .ref q10, .ref q15, .int 0, .int 0, .ref q21, .ref q28, .ref q36, .ref q45, .ref q55, .ref q66, .ref q78, .null, .int 0, .null, .null, .int 0, .int 0, .int 0, .null, .int 0, .null, .null, .null, .null, .null, .null, .null, .null, .null, .null, .null, .null, .int 0, .int 0, .int 0, .int 0, .null, .null, .null, .int 0, .int 0, .int 0, .int 0, .null, .null, .null, .null, .null])) :: L) H := hT
  refine lv_aload_n hx hb dX11_init_108 rfl (lv_at hl 0 rfl) ?_
  refine lv_bipush (v := 12) hx hb dX11_init_109 (by decide) ?_
  refine tx_na0 S hK hz hT hS (N := 12) (by decide) (by decide) (Nat.le_of_ble_eq_true rfl) (Nat.le_of_ble_eq_true rfl) (Nat.le_of_ble_eq_true rfl) dX11_init_111 (fun q91 H hT hS => ?_)
  obtain ⟨K, F, hM, hk92, hU9, hT⟩ := hT.cl 42 (fun j => 0) (by decide) (fun _ => NU.no hU (hN 42 (by decide)) (by decide) (by decide)) (fun K1 F1 hM hF => ⟨0, 12, fun _ => 0, rfl, rfl, fun _ => trivial, fun j9 hj => by cases hj; rfl⟩)
  have hk93 : K q1 = 30 := hM _ _ hk80 (by decide)
  have hk94 : K q3 = 31 := hM _ _ hk81 (by decide)
  have hk95 : K q6 = 32 := hM _ _ hk82 (by decide)
  have hk96 : K q10 = 31 := hM _ _ hk83 (by decide)
  have hk97 : K q15 = 34 := hM _ _ hk84 (by decide)
  have hk98 : K q21 = 35 := hM _ _ hk85 (by decide)
  have hk99 : K q28 = 36 := hM _ _ hk86 (by decide)
  have hk100 : K q36 = 37 := hM _ _ hk87 (by decide)
  have hk101 : K q45 = 38 := hM _ _ hk88 (by decide)
  have hk102 : K q55 = 38 := hM _ _ hk89 (by decide)
  have hk103 : K q66 = 38 := hM _ _ hk90 (by decide)
  have hk104 : K q78 = 38 := hM _ _ hk79 (by decide)
  have hM0 := KM.tr hM0 hM
  have hU := NU.tr hU hU9
  refine tx_putF (C := RX11) (T := TX11) (N := 52) (ci := 12) (ty := (.array .int)) S hK hT hS inX11 tyX11 tyX11_ok nmX11 0 rfl rfl 15 (by decide) kf_X11_48 rfl hnm rfl (by decide +kernel) rfl rfl (Nat.le_of_ble_eq_true rfl) dX11_init_113 (fun H locs hT hS => ?_)
  have hT : TX E K F (0, [0, 0, 0, 0, 0, (-2147483648), (-2147483648), 0, 0, 0, 0, 0, 0, (-1), 0, 0, 0, 0, 0, 0, 0], [(fun _ => 0), (fun _ => 0), (fun _ => 0), (fun _ => 0), (fun _ => 0), (fun _ => 0), (fun _ => 0), (fun _ => 0), (fun _ => 0), (fun _ => 0), (fun _ => 0)]) ((a, .inr (12, [.int 0, .ref q1, .ref q3, .ref q6, .ref q10, .ref q15, .int 0, .int 0, .ref q21, .ref q28, .ref q36, .ref q45, .ref q55, .ref q66, .ref q78, .ref q91, .int 0, .null, .null, .int 0, .int 0, .int 0, .null, .int 0, .null, .null, .null, .null, .null, .null, .null, .null, .null, .null, .null, .null, .int 0, .int 0, .int 0, .int 0, .null, .null, .null, .int 0, .int 0, .int 0, .int 0, .null, .null, .null, .null, .null])) :: L) H := hT
  refine lv_aload_n hx hb dX11_init_116 rfl (lv_at hl 0 rfl) ?_
  refine lv_sipush (v := 2400) hx hb dX11_init_117 (by decide) ?_
  refine tx_na0 S hK hz hT hS (N := 2400) (by decide) (by decide) (Nat.le_of_ble_eq_true rfl) (Nat.le_of_ble_eq_true rfl) (Nat.le_of_ble_eq_true rfl) dX11_init_120 (fun q105 H hT hS => ?_)
  obtain ⟨K, F, hM, hk106, hU9, hT⟩ := hT.cl 43 (fun j => 0) (by decide) (fun _ => NU.no hU (hN 43 (by decide)) (by decide) (by decide)) (fun K1 F1 hM hF => ⟨0, 2400, fun _ => 0, rfl, rfl, fun _ => trivial, fun j9 hj => by cases hj; rfl⟩)
  have hk107 : K q1 = 30 := hM _ _ hk93 (by decide)
  have hk108 : K q3 = 31 := hM _ _ hk94 (by decide)
  have hk109 : K q6 = 32 := hM _ _ hk95 (by decide)
  have hk110 : K q10 = 31 := hM _ _ hk96 (by decide)
  have hk111 : K q15 = 34 := hM _ _ hk97 (by decide)
  have hk112 : K q21 = 35 := hM _ _ hk98 (by decide)
  have hk113 : K q28 = 36 := hM _ _ hk99 (by decide)
  have hk114 : K q36 = 37 := hM _ _ hk100 (by decide)
  have hk115 : K q45 = 38 := hM _ _ hk101 (by decide)
  have hk116 : K q55 = 38 := hM _ _ hk102 (by decide)
  have hk117 : K q66 = 38 := hM _ _ hk103 (by decide)
  have hk118 : K q78 = 38 := hM _ _ hk104 (by decide)
  have hk119 : K q91 = 42 := hM _ _ hk92 (by decide)
  have hM0 := KM.tr hM0 hM
  have hU := NU.tr hU hU9
  refine tx_putF (C := RX11) (T := TX11) (N := 52) (ci := 12) (ty := (.array .int)) S hK hT hS inX11 tyX11 tyX11_ok nmX11 0 rfl rfl 17 (by decide) kf_X11_51 rfl hnm rfl (by decide +kernel) rfl rfl (Nat.le_of_ble_eq_true rfl) dX11_init_122 (fun H locs hT hS => ?_)
  have hT : TX E K F (0, [0, 0, 0, 0, 0, (-2147483648), (-2147483648), 0, 0, 0, 0, 0, 0, (-1), 0, 0, 0, 0, 0, 0, 0], [(fun _ => 0), (fun _ => 0), (fun _ => 0), (fun _ => 0), (fun _ => 0), (fun _ => 0), (fun _ => 0), (fun _ => 0), (fun _ => 0), (fun _ => 0), (fun _ => 0)]) ((a, .inr (12, [.int 0, .ref q1, .ref q3, .ref q6, .ref q10, .ref q15, .int 0, .int 0, .ref q21, .ref q28, .ref q36, .ref q45, .ref q55, .ref q66, .ref q78, .ref q91, .int 0, .ref q105, .null, .int 0, .int 0, .int 0, .null, .int 0, .null, .null, .null, .null, .null, .null, .null, .null, .null, .null, .null, .null, .int 0, .int 0, .int 0, .int 0, .null, .null, .null, .int 0, .int 0, .int 0, .int 0, .null, .null, .null, .null, .null])) :: L) H := hT
  refine lv_aload_n hx hb dX11_init_125 rfl (lv_at hl 0 rfl) ?_
  refine lv_sipush (v := 2400) hx hb dX11_init_126 (by decide) ?_
  refine tx_na0 S hK hz hT hS (N := 2400) (by decide) (by decide) (Nat.le_of_ble_eq_true rfl) (Nat.le_of_ble_eq_true rfl) (Nat.le_of_ble_eq_true rfl) dX11_init_129 (fun q120 H hT hS => ?_)
  obtain ⟨K, F, hM, hk121, hU9, hT⟩ := hT.cl 44 (fun j => 0) (by decide) (fun _ => NU.no hU (hN 44 (by decide)) (by decide) (by decide)) (fun K1 F1 hM hF => ⟨0, 2400, fun _ => 0, rfl, rfl, fun _ => trivial, fun j9 hj => by cases hj; rfl⟩)
  have hk122 : K q1 = 30 := hM _ _ hk107 (by decide)
  have hk123 : K q3 = 31 := hM _ _ hk108 (by decide)
  have hk124 : K q6 = 32 := hM _ _ hk109 (by decide)
  have hk125 : K q10 = 31 := hM _ _ hk110 (by decide)
  have hk126 : K q15 = 34 := hM _ _ hk111 (by decide)
  have hk127 : K q21 = 35 := hM _ _ hk112 (by decide)
  have hk128 : K q28 = 36 := hM _ _ hk113 (by decide)
  have hk129 : K q36 = 37 := hM _ _ hk114 (by decide)
  have hk130 : K q45 = 38 := hM _ _ hk115 (by decide)
  have hk131 : K q55 = 38 := hM _ _ hk116 (by decide)
  have hk132 : K q66 = 38 := hM _ _ hk117 (by decide)
  have hk133 : K q78 = 38 := hM _ _ hk118 (by decide)
  have hk134 : K q91 = 42 := hM _ _ hk119 (by decide)
  have hk135 : K q105 = 43 := hM _ _ hk106 (by decide)
  have hM0 := KM.tr hM0 hM
  have hU := NU.tr hU hU9
  refine tx_putF (C := RX11) (T := TX11) (N := 52) (ci := 12) (ty := (.array .int)) S hK hT hS inX11 tyX11 tyX11_ok nmX11 0 rfl rfl 18 (by decide) kf_X11_54 rfl hnm rfl (by decide +kernel) rfl rfl (Nat.le_of_ble_eq_true rfl) dX11_init_131 (fun H locs hT hS => ?_)
  have hT : TX E K F (0, [0, 0, 0, 0, 0, (-2147483648), (-2147483648), 0, 0, 0, 0, 0, 0, (-1), 0, 0, 0, 0, 0, 0, 0], [(fun _ => 0), (fun _ => 0), (fun _ => 0), (fun _ => 0), (fun _ => 0), (fun _ => 0), (fun _ => 0), (fun _ => 0), (fun _ => 0), (fun _ => 0), (fun _ => 0)]) ((a, .inr (12, [.int 0, .ref q1, .ref q3, .ref q6, .ref q10, .ref q15, .int 0, .int 0, .ref q21, .ref q28, .ref q36, .ref q45, .ref q55, .ref q66, .ref q78, .ref q91, .int 0, .ref q105, .ref q120, .int 0, .int 0, .int 0, .null, .int 0, .null, .null, .null, .null, .null, .null, .null, .null, .null, .null, .null, .null, .int 0, .int 0, .int 0, .int 0, .null, .null, .null, .int 0, .int 0, .int 0, .int 0, .null, .null, .null, .null, .null])) :: L) H := hT
  refine lv_aload_n hx hb dX11_init_134 rfl (lv_at hl 0 rfl) ?_
  refine lv_ldc (v := (-2147483648)) hx hb S.2.2.2.1 (S.2.2.2.2 _ (List.mem_cons_of_mem _ kc_X11_57)) dX11_init_135 ?_
  refine tx_put (C := RX11) (T := TX11) (N := 52) (ci := 12) (ty := .int) S hK hT hS inX11 tyX11 tyX11_ok nmX11 0 rfl rfl 20 (by decide) kf_X11_58 rfl (by decide +kernel) rfl rfl (Nat.le_of_ble_eq_true rfl) dX11_init_137 (fun H locs hT hS => ?_)
  have hT : TX E K F (0, [0, 0, 0, 0, 0, (-2147483648), (-2147483648), 0, 0, 0, 0, 0, 0, (-1), 0, 0, 0, 0, 0, 0, 0], [(fun _ => 0), (fun _ => 0), (fun _ => 0), (fun _ => 0), (fun _ => 0), (fun _ => 0), (fun _ => 0), (fun _ => 0), (fun _ => 0), (fun _ => 0), (fun _ => 0)]) ((a, .inr (12, [.int 0, .ref q1, .ref q3, .ref q6, .ref q10, .ref q15, .int 0, .int 0, .ref q21, .ref q28, .ref q36, .ref q45, .ref q55, .ref q66, .ref q78, .ref q91, .int 0, .ref q105, .ref q120, .int 0, .int (-2147483648), .int 0, .null, .int 0, .null, .null, .null, .null, .null, .null, .null, .null, .null, .null, .null, .null, .int 0, .int 0, .int 0, .int 0, .null, .null, .null, .int 0, .int 0, .int 0, .int 0, .null, .null, .null, .null, .null])) :: L) H := hT
  refine lv_aload_n hx hb dX11_init_140 rfl (lv_at hl 0 rfl) ?_
  refine lv_ldc (v := (-2147483648)) hx hb S.2.2.2.1 (S.2.2.2.2 _ (List.mem_cons_of_mem _ kc_X11_57)) dX11_init_141 ?_
  refine tx_put (C := RX11) (T := TX11) (N := 52) (ci := 12) (ty := .int) S hK hT hS inX11 tyX11 tyX11_ok nmX11 0 rfl rfl 21 (by decide) kf_X11_62 rfl (by decide +kernel) rfl rfl (Nat.le_of_ble_eq_true rfl) dX11_init_143 (fun H locs hT hS => ?_)
  have hT : TX E K F (0, [0, 0, 0, 0, 0, (-2147483648), (-2147483648), 0, 0, 0, 0, 0, 0, (-1), 0, 0, 0, 0, 0, 0, 0], [(fun _ => 0), (fun _ => 0), (fun _ => 0), (fun _ => 0), (fun _ => 0), (fun _ => 0), (fun _ => 0), (fun _ => 0), (fun _ => 0), (fun _ => 0), (fun _ => 0)]) ((a, .inr (12, [.int 0, .ref q1, .ref q3, .ref q6, .ref q10, .ref q15, .int 0, .int 0, .ref q21, .ref q28, .ref q36, .ref q45, .ref q55, .ref q66, .ref q78, .ref q91, .int 0, .ref q105, .ref q120, .int 0, .int (-2147483648), .int (-2147483648), .null, .int 0, .null, .null, .null, .null, .null, .null, .null, .null, .null, .null, .null, .null, .int 0, .int 0, .int 0, .int 0, .null, .null, .null, .int 0, .int 0, .int 0, .int 0, .null, .null, .null, .null, .null])) :: L) H := hT
  refine lv_aload_n hx hb dX11_init_146 rfl (lv_at hl 0 rfl) ?_
  refine lv_bipush (v := 24) hx hb dX11_init_147 (by decide) ?_
  refine tx_na2 S hK hz hT hS (N := 24) (by decide) (by decide) (Nat.le_of_ble_eq_true rfl) (Nat.le_of_ble_eq_true rfl) (Nat.le_of_ble_eq_true rfl) dX11_init_149 (fun q136 H hT hS => ?_)
  obtain ⟨K, F, hM, hk137, hU9, hT⟩ := hT.cl 45 (fun j => 0) (by decide) (fun hq => absurd hq (by decide)) (fun K1 F1 hM hF => aw_45 _ (fun _ => rfl))
  have hk138 : K q1 = 30 := hM _ _ hk122 (by decide)
  have hk139 : K q3 = 31 := hM _ _ hk123 (by decide)
  have hk140 : K q6 = 32 := hM _ _ hk124 (by decide)
  have hk141 : K q10 = 31 := hM _ _ hk125 (by decide)
  have hk142 : K q15 = 34 := hM _ _ hk126 (by decide)
  have hk143 : K q21 = 35 := hM _ _ hk127 (by decide)
  have hk144 : K q28 = 36 := hM _ _ hk128 (by decide)
  have hk145 : K q36 = 37 := hM _ _ hk129 (by decide)
  have hk146 : K q45 = 38 := hM _ _ hk130 (by decide)
  have hk147 : K q55 = 38 := hM _ _ hk131 (by decide)
  have hk148 : K q66 = 38 := hM _ _ hk132 (by decide)
  have hk149 : K q78 = 38 := hM _ _ hk133 (by decide)
  have hk150 : K q91 = 42 := hM _ _ hk134 (by decide)
  have hk151 : K q105 = 43 := hM _ _ hk135 (by decide)
  have hk152 : K q120 = 44 := hM _ _ hk121 (by decide)
  have hM0 := KM.tr hM0 hM
  have hU := NU.tr hU hU9
  refine tx_putF (C := RX11) (T := TX11) (N := 52) (ci := 12) (ty := (.array .byte)) S hK hT hS inX11 tyX11 tyX11_ok nmX11 0 rfl rfl 22 (by decide) kf_X11_65 rfl hnm rfl (by decide +kernel) rfl rfl (Nat.le_of_ble_eq_true rfl) dX11_init_151 (fun H locs hT hS => ?_)
  have hT : TX E K F (0, [0, 0, 0, 0, 0, (-2147483648), (-2147483648), 0, 0, 0, 0, 0, 0, (-1), 0, 0, 0, 0, 0, 0, 0], [(fun _ => 0), (fun _ => 0), (fun _ => 0), (fun _ => 0), (fun _ => 0), (fun _ => 0), (fun _ => 0), (fun _ => 0), (fun _ => 0), (fun _ => 0), (fun _ => 0)]) ((a, .inr (12, [.int 0, .ref q1, .ref q3, .ref q6, .ref q10, .ref q15, .int 0, .int 0, .ref q21, .ref q28, .ref q36, .ref q45, .ref q55, .ref q66, .ref q78, .ref q91, .int 0, .ref q105, .ref q120, .int 0, .int (-2147483648), .int (-2147483648), .ref q136, .int 0, .null, .null, .null, .null, .null, .null, .null, .null, .null, .null, .null, .null, .int 0, .int 0, .int 0, .int 0, .null, .null, .null, .int 0, .int 0, .int 0, .int 0, .null, .null, .null, .null, .null])) :: L) H := hT
  refine lv_aload_n hx hb dX11_init_154 rfl (lv_at hl 0 rfl) ?_
  refine lv_iconst (v := 4) hx hb dX11_init_155 (by decide) ?_
  refine tx_na1 S hK hz hT hS (N := 4) (by decide) (by decide) (Nat.le_of_ble_eq_true rfl) (Nat.le_of_ble_eq_true rfl) (Nat.le_of_ble_eq_true rfl) dX11_init_156 (fun q153 H hT hS => ?_)
  obtain ⟨K, F, hM, hk154, hU9, hT⟩ := hT.cl 47 (fun j => 0) (by decide) (fun hq => absurd hq (by decide)) (fun K1 F1 hM hF => aw_47 _ (fun _ => rfl))
  have hk155 : K q1 = 30 := hM _ _ hk138 (by decide)
  have hk156 : K q3 = 31 := hM _ _ hk139 (by decide)
  have hk157 : K q6 = 32 := hM _ _ hk140 (by decide)
  have hk158 : K q10 = 31 := hM _ _ hk141 (by decide)
  have hk159 : K q15 = 34 := hM _ _ hk142 (by decide)
  have hk160 : K q21 = 35 := hM _ _ hk143 (by decide)
  have hk161 : K q28 = 36 := hM _ _ hk144 (by decide)
  have hk162 : K q36 = 37 := hM _ _ hk145 (by decide)
  have hk163 : K q45 = 38 := hM _ _ hk146 (by decide)
  have hk164 : K q55 = 38 := hM _ _ hk147 (by decide)
  have hk165 : K q66 = 38 := hM _ _ hk148 (by decide)
  have hk166 : K q78 = 38 := hM _ _ hk149 (by decide)
  have hk167 : K q91 = 42 := hM _ _ hk150 (by decide)
  have hk168 : K q105 = 43 := hM _ _ hk151 (by decide)
  have hk169 : K q120 = 44 := hM _ _ hk152 (by decide)
  have hk170 : K q136 = 45 := hM _ _ hk137 (by decide)
  have hM0 := KM.tr hM0 hM
  have hU := NU.tr hU hU9
  refine lv_dup hx hb dX11_init_158 rfl ?_
  refine lv_iconst (v := 0) hx hb dX11_init_159 (by decide) ?_
  refine lv_bipush (v := 114) hx hb dX11_init_160 (by decide) ?_
  refine tx_as1 S hK hT hS hk154 ar_47 aw_47 (by decide) (by decide) dX11_init_162 (fun H locs hT hS => ?_)
  refine lv_dup hx hb dX11_init_163 rfl ?_
  refine lv_iconst (v := 1) hx hb dX11_init_164 (by decide) ?_
  refine lv_bipush (v := 117) hx hb dX11_init_165 (by decide) ?_
  refine tx_as1 S hK hT hS hk154 ar_47 aw_47 (by decide) (by decide) dX11_init_167 (fun H locs hT hS => ?_)
  refine lv_dup hx hb dX11_init_168 rfl ?_
  refine lv_iconst (v := 2) hx hb dX11_init_169 (by decide) ?_
  refine lv_bipush (v := 108) hx hb dX11_init_170 (by decide) ?_
  refine tx_as1 S hK hT hS hk154 ar_47 aw_47 (by decide) (by decide) dX11_init_172 (fun H locs hT hS => ?_)
  refine lv_dup hx hb dX11_init_173 rfl ?_
  refine lv_iconst (v := 3) hx hb dX11_init_174 (by decide) ?_
  refine lv_bipush (v := 101) hx hb dX11_init_175 (by decide) ?_
  refine tx_as1 S hK hT hS hk154 ar_47 aw_47 (by decide) (by decide) dX11_init_177 (fun H locs hT hS => ?_)
  refine tx_putF (C := RX11) (T := TX11) (N := 52) (ci := 12) (ty := (.array .char)) S hK hT hS inX11 tyX11 tyX11_ok nmX11 0 rfl rfl 24 (by decide) kf_X11_69 rfl hnm rfl (by decide +kernel) rfl rfl (Nat.le_of_ble_eq_true rfl) dX11_init_178 (fun H locs hT hS => ?_)
  have hT : TX E K F (0, [0, 0, 0, 0, 0, (-2147483648), (-2147483648), 0, 0, 0, 0, 0, 0, (-1), 0, 0, 0, 0, 0, 0, 0], [(fun _ => 0), (fun _ => 0), (fun _ => 0), (fun _ => 0), (fun _ => 0), (fun _ => 0), (fun _ => 0), (fun _ => 0), (fun _ => 0), (fun _ => 0), (fun _ => 0)]) ((a, .inr (12, [.int 0, .ref q1, .ref q3, .ref q6, .ref q10, .ref q15, .int 0, .int 0, .ref q21, .ref q28, .ref q36, .ref q45, .ref q55, .ref q66, .ref q78, .ref q91, .int 0, .ref q105, .ref q120, .int 0, .int (-2147483648), .int (-2147483648), .ref q136, .int 0, .ref q153, .null, .null, .null, .null, .null, .null, .null, .null, .null, .null, .null, .int 0, .int 0, .int 0, .int 0, .null, .null, .null, .int 0, .int 0, .int 0, .int 0, .null, .null, .null, .null, .null])) :: L) H := hT
  refine lv_aload_n hx hb dX11_init_181 rfl (lv_at hl 0 rfl) ?_
  refine lv_bipush (v := 6) hx hb dX11_init_182 (by decide) ?_
  refine tx_na1 S hK hz hT hS (N := 6) (by decide) (by decide) (Nat.le_of_ble_eq_true rfl) (Nat.le_of_ble_eq_true rfl) (Nat.le_of_ble_eq_true rfl) dX11_init_184 (fun q171 H hT hS => ?_)
  obtain ⟨K, F, hM, hk172, hU9, hT⟩ := hT.cl 49 (fun j => 0) (by decide) (fun hq => absurd hq (by decide)) (fun K1 F1 hM hF => aw_49 _ (fun _ => rfl))
  have hk173 : K q1 = 30 := hM _ _ hk155 (by decide)
  have hk174 : K q3 = 31 := hM _ _ hk156 (by decide)
  have hk175 : K q6 = 32 := hM _ _ hk157 (by decide)
  have hk176 : K q10 = 31 := hM _ _ hk158 (by decide)
  have hk177 : K q15 = 34 := hM _ _ hk159 (by decide)
  have hk178 : K q21 = 35 := hM _ _ hk160 (by decide)
  have hk179 : K q28 = 36 := hM _ _ hk161 (by decide)
  have hk180 : K q36 = 37 := hM _ _ hk162 (by decide)
  have hk181 : K q45 = 38 := hM _ _ hk163 (by decide)
  have hk182 : K q55 = 38 := hM _ _ hk164 (by decide)
  have hk183 : K q66 = 38 := hM _ _ hk165 (by decide)
  have hk184 : K q78 = 38 := hM _ _ hk166 (by decide)
  have hk185 : K q91 = 42 := hM _ _ hk167 (by decide)
  have hk186 : K q105 = 43 := hM _ _ hk168 (by decide)
  have hk187 : K q120 = 44 := hM _ _ hk169 (by decide)
  have hk188 : K q136 = 45 := hM _ _ hk170 (by decide)
  have hk189 : K q153 = 47 := hM _ _ hk154 (by decide)
  have hM0 := KM.tr hM0 hM
  have hU := NU.tr hU hU9
  refine lv_dup hx hb dX11_init_186 rfl ?_
  refine lv_iconst (v := 0) hx hb dX11_init_187 (by decide) ?_
  refine lv_bipush (v := 117) hx hb dX11_init_188 (by decide) ?_
  refine tx_as1 S hK hT hS hk172 ar_49 aw_49 (by decide) (by decide) dX11_init_190 (fun H locs hT hS => ?_)
  refine lv_dup hx hb dX11_init_191 rfl ?_
  refine lv_iconst (v := 1) hx hb dX11_init_192 (by decide) ?_
  refine lv_bipush (v := 110) hx hb dX11_init_193 (by decide) ?_
  refine tx_as1 S hK hT hS hk172 ar_49 aw_49 (by decide) (by decide) dX11_init_195 (fun H locs hT hS => ?_)
  refine lv_dup hx hb dX11_init_196 rfl ?_
  refine lv_iconst (v := 2) hx hb dX11_init_197 (by decide) ?_
  refine lv_bipush (v := 105) hx hb dX11_init_198 (by decide) ?_
  refine tx_as1 S hK hT hS hk172 ar_49 aw_49 (by decide) (by decide) dX11_init_200 (fun H locs hT hS => ?_)
  refine lv_dup hx hb dX11_init_201 rfl ?_
  refine lv_iconst (v := 3) hx hb dX11_init_202 (by decide) ?_
  refine lv_bipush (v := 113) hx hb dX11_init_203 (by decide) ?_
  refine tx_as1 S hK hT hS hk172 ar_49 aw_49 (by decide) (by decide) dX11_init_205 (fun H locs hT hS => ?_)
  refine lv_dup hx hb dX11_init_206 rfl ?_
  refine lv_iconst (v := 4) hx hb dX11_init_207 (by decide) ?_
  refine lv_bipush (v := 117) hx hb dX11_init_208 (by decide) ?_
  refine tx_as1 S hK hT hS hk172 ar_49 aw_49 (by decide) (by decide) dX11_init_210 (fun H locs hT hS => ?_)
  refine lv_dup hx hb dX11_init_211 rfl ?_
  refine lv_iconst (v := 5) hx hb dX11_init_212 (by decide) ?_
  refine lv_bipush (v := 101) hx hb dX11_init_213 (by decide) ?_
  refine tx_as1 S hK hT hS hk172 ar_49 aw_49 (by decide) (by decide) dX11_init_215 (fun H locs hT hS => ?_)
  refine tx_putF (C := RX11) (T := TX11) (N := 52) (ci := 12) (ty := (.array .char)) S hK hT hS inX11 tyX11 tyX11_ok nmX11 0 rfl rfl 25 (by decide) kf_X11_73 rfl hnm rfl (by decide +kernel) rfl rfl (Nat.le_of_ble_eq_true rfl) dX11_init_216 (fun H locs hT hS => ?_)
  have hT : TX E K F (0, [0, 0, 0, 0, 0, (-2147483648), (-2147483648), 0, 0, 0, 0, 0, 0, (-1), 0, 0, 0, 0, 0, 0, 0], [(fun _ => 0), (fun _ => 0), (fun _ => 0), (fun _ => 0), (fun _ => 0), (fun _ => 0), (fun _ => 0), (fun _ => 0), (fun _ => 0), (fun _ => 0), (fun _ => 0)]) ((a, .inr (12, [.int 0, .ref q1, .ref q3, .ref q6, .ref q10, .ref q15, .int 0, .int 0, .ref q21, .ref q28, .ref q36, .ref q45, .ref q55, .ref q66, .ref q78, .ref q91, .int 0, .ref q105, .ref q120, .int 0, .int (-2147483648), .int (-2147483648), .ref q136, .int 0, .ref q153, .ref q171, .null, .null, .null, .null, .null, .null, .null, .null, .null, .null, .int 0, .int 0, .int 0, .int 0, .null, .null, .null, .int 0, .int 0, .int 0, .int 0, .null, .null, .null, .null, .null])) :: L) H := hT
  refine lv_aload_n hx hb dX11_init_219 rfl (lv_at hl 0 rfl) ?_
  refine lv_bipush (v := 6) hx hb dX11_init_220 (by decide) ?_
  refine tx_na1 S hK hz hT hS (N := 6) (by decide) (by decide) (Nat.le_of_ble_eq_true rfl) (Nat.le_of_ble_eq_true rfl) (Nat.le_of_ble_eq_true rfl) dX11_init_222 (fun q190 H hT hS => ?_)
  obtain ⟨K, F, hM, hk191, hU9, hT⟩ := hT.cl 49 (fun j => 0) (by decide) (fun hq => absurd hq (by decide)) (fun K1 F1 hM hF => aw_49 _ (fun _ => rfl))
  have hk192 : K q1 = 30 := hM _ _ hk173 (by decide)
  have hk193 : K q3 = 31 := hM _ _ hk174 (by decide)
  have hk194 : K q6 = 32 := hM _ _ hk175 (by decide)
  have hk195 : K q10 = 31 := hM _ _ hk176 (by decide)
  have hk196 : K q15 = 34 := hM _ _ hk177 (by decide)
  have hk197 : K q21 = 35 := hM _ _ hk178 (by decide)
  have hk198 : K q28 = 36 := hM _ _ hk179 (by decide)
  have hk199 : K q36 = 37 := hM _ _ hk180 (by decide)
  have hk200 : K q45 = 38 := hM _ _ hk181 (by decide)
  have hk201 : K q55 = 38 := hM _ _ hk182 (by decide)
  have hk202 : K q66 = 38 := hM _ _ hk183 (by decide)
  have hk203 : K q78 = 38 := hM _ _ hk184 (by decide)
  have hk204 : K q91 = 42 := hM _ _ hk185 (by decide)
  have hk205 : K q105 = 43 := hM _ _ hk186 (by decide)
  have hk206 : K q120 = 44 := hM _ _ hk187 (by decide)
  have hk207 : K q136 = 45 := hM _ _ hk188 (by decide)
  have hk208 : K q153 = 47 := hM _ _ hk189 (by decide)
  have hk209 : K q171 = 49 := hM _ _ hk172 (by decide)
  have hM0 := KM.tr hM0 hM
  have hU := NU.tr hU hU9
  refine lv_dup hx hb dX11_init_224 rfl ?_
  refine lv_iconst (v := 0) hx hb dX11_init_225 (by decide) ?_
  refine lv_bipush (v := 114) hx hb dX11_init_226 (by decide) ?_
  refine tx_as1 S hK hT hS hk191 ar_49 aw_49 (by decide) (by decide) dX11_init_228 (fun H locs hT hS => ?_)
  refine lv_dup hx hb dX11_init_229 rfl ?_
  refine lv_iconst (v := 1) hx hb dX11_init_230 (by decide) ?_
  refine lv_bipush (v := 101) hx hb dX11_init_231 (by decide) ?_
  refine tx_as1 S hK hT hS hk191 ar_49 aw_49 (by decide) (by decide) dX11_init_233 (fun H locs hT hS => ?_)
  refine lv_dup hx hb dX11_init_234 rfl ?_
  refine lv_iconst (v := 2) hx hb dX11_init_235 (by decide) ?_
  refine lv_bipush (v := 102) hx hb dX11_init_236 (by decide) ?_
  refine tx_as1 S hK hT hS hk191 ar_49 aw_49 (by decide) (by decide) dX11_init_238 (fun H locs hT hS => ?_)
  refine lv_dup hx hb dX11_init_239 rfl ?_
  refine lv_iconst (v := 3) hx hb dX11_init_240 (by decide) ?_
  refine lv_bipush (v := 101) hx hb dX11_init_241 (by decide) ?_
  refine tx_as1 S hK hT hS hk191 ar_49 aw_49 (by decide) (by decide) dX11_init_243 (fun H locs hT hS => ?_)
  refine lv_dup hx hb dX11_init_244 rfl ?_
  refine lv_iconst (v := 4) hx hb dX11_init_245 (by decide) ?_
  refine lv_bipush (v := 114) hx hb dX11_init_246 (by decide) ?_
  refine tx_as1 S hK hT hS hk191 ar_49 aw_49 (by decide) (by decide) dX11_init_248 (fun H locs hT hS => ?_)
  refine lv_dup hx hb dX11_init_249 rfl ?_
  refine lv_iconst (v := 5) hx hb dX11_init_250 (by decide) ?_
  refine lv_bipush (v := 115) hx hb dX11_init_251 (by decide) ?_
  refine tx_as1 S hK hT hS hk191 ar_49 aw_49 (by decide) (by decide) dX11_init_253 (fun H locs hT hS => ?_)
  refine tx_putF (C := RX11) (T := TX11) (N := 52) (ci := 12) (ty := (.array .char)) S hK hT hS inX11 tyX11 tyX11_ok nmX11 0 rfl rfl 26 (by decide) kf_X11_76 rfl hnm rfl (by decide +kernel) rfl rfl (Nat.le_of_ble_eq_true rfl) dX11_init_254 (fun H locs hT hS => ?_)
  have hT : TX E K F (0, [0, 0, 0, 0, 0, (-2147483648), (-2147483648), 0, 0, 0, 0, 0, 0, (-1), 0, 0, 0, 0, 0, 0, 0], [(fun _ => 0), (fun _ => 0), (fun _ => 0), (fun _ => 0), (fun _ => 0), (fun _ => 0), (fun _ => 0), (fun _ => 0), (fun _ => 0), (fun _ => 0), (fun _ => 0)]) ((a, .inr (12, [.int 0, .ref q1, .ref q3, .ref q6, .ref q10, .ref q15, .int 0, .int 0, .ref q21, .ref q28, .ref q36, .ref q45, .ref q55, .ref q66, .ref q78, .ref q91, .int 0, .ref q105, .ref q120, .int 0, .int (-2147483648), .int (-2147483648), .ref q136, .int 0, .ref q153, .ref q171, .ref q190, .null, .null, .null, .null, .null, .null, .null, .null, .null, .int 0, .int 0, .int 0, .int 0, .null, .null, .null, .int 0, .int 0, .int 0, .int 0, .null, .null, .null, .null, .null])) :: L) H := hT
  refine lv_aload_n hx hb dX11_init_257 rfl (lv_at hl 0 rfl) ?_
  refine lv_iconst (v := 5) hx hb dX11_init_258 (by decide) ?_
  refine tx_na1 S hK hz hT hS (N := 5) (by decide) (by decide) (Nat.le_of_ble_eq_true rfl) (Nat.le_of_ble_eq_true rfl) (Nat.le_of_ble_eq_true rfl) dX11_init_259 (fun q210 H hT hS => ?_)
  obtain ⟨K, F, hM, hk211, hU9, hT⟩ := hT.cl 48 (fun j => 0) (by decide) (fun hq => absurd hq (by decide)) (fun K1 F1 hM hF => aw_48 _ (fun _ => rfl))
  have hk212 : K q1 = 30 := hM _ _ hk192 (by decide)
  have hk213 : K q3 = 31 := hM _ _ hk193 (by decide)
  have hk214 : K q6 = 32 := hM _ _ hk194 (by decide)
  have hk215 : K q10 = 31 := hM _ _ hk195 (by decide)
  have hk216 : K q15 = 34 := hM _ _ hk196 (by decide)
  have hk217 : K q21 = 35 := hM _ _ hk197 (by decide)
  have hk218 : K q28 = 36 := hM _ _ hk198 (by decide)
  have hk219 : K q36 = 37 := hM _ _ hk199 (by decide)
  have hk220 : K q45 = 38 := hM _ _ hk200 (by decide)
  have hk221 : K q55 = 38 := hM _ _ hk201 (by decide)
  have hk222 : K q66 = 38 := hM _ _ hk202 (by decide)
  have hk223 : K q78 = 38 := hM _ _ hk203 (by decide)
  have hk224 : K q91 = 42 := hM _ _ hk204 (by decide)
  have hk225 : K q105 = 43 := hM _ _ hk205 (by decide)
  have hk226 : K q120 = 44 := hM _ _ hk206 (by decide)
  have hk227 : K q136 = 45 := hM _ _ hk207 (by decide)
  have hk228 : K q153 = 47 := hM _ _ hk208 (by decide)
  have hk229 : K q171 = 49 := hM _ _ hk209 (by decide)
  have hk230 : K q190 = 49 := hM _ _ hk191 (by decide)
  have hM0 := KM.tr hM0 hM
  have hU := NU.tr hU hU9
  refine lv_dup hx hb dX11_init_261 rfl ?_
  refine lv_iconst (v := 0) hx hb dX11_init_262 (by decide) ?_
  refine lv_bipush (v := 114) hx hb dX11_init_263 (by decide) ?_
  refine tx_as1 S hK hT hS hk211 ar_48 aw_48 (by decide) (by decide) dX11_init_265 (fun H locs hT hS => ?_)
  refine lv_dup hx hb dX11_init_266 rfl ?_
  refine lv_iconst (v := 1) hx hb dX11_init_267 (by decide) ?_
  refine lv_bipush (v := 97) hx hb dX11_init_268 (by decide) ?_
  refine tx_as1 S hK hT hS hk211 ar_48 aw_48 (by decide) (by decide) dX11_init_270 (fun H locs hT hS => ?_)
  refine lv_dup hx hb dX11_init_271 rfl ?_
  refine lv_iconst (v := 2) hx hb dX11_init_272 (by decide) ?_
  refine lv_bipush (v := 110) hx hb dX11_init_273 (by decide) ?_
  refine tx_as1 S hK hT hS hk211 ar_48 aw_48 (by decide) (by decide) dX11_init_275 (fun H locs hT hS => ?_)
  refine lv_dup hx hb dX11_init_276 rfl ?_
  refine lv_iconst (v := 3) hx hb dX11_init_277 (by decide) ?_
  refine lv_bipush (v := 103) hx hb dX11_init_278 (by decide) ?_
  refine tx_as1 S hK hT hS hk211 ar_48 aw_48 (by decide) (by decide) dX11_init_280 (fun H locs hT hS => ?_)
  refine lv_dup hx hb dX11_init_281 rfl ?_
  refine lv_iconst (v := 4) hx hb dX11_init_282 (by decide) ?_
  refine lv_bipush (v := 101) hx hb dX11_init_283 (by decide) ?_
  refine tx_as1 S hK hT hS hk211 ar_48 aw_48 (by decide) (by decide) dX11_init_285 (fun H locs hT hS => ?_)
  refine tx_putF (C := RX11) (T := TX11) (N := 52) (ci := 12) (ty := (.array .char)) S hK hT hS inX11 tyX11 tyX11_ok nmX11 0 rfl rfl 27 (by decide) kf_X11_79 rfl hnm rfl (by decide +kernel) rfl rfl (Nat.le_of_ble_eq_true rfl) dX11_init_286 (fun H locs hT hS => ?_)
  have hT : TX E K F (0, [0, 0, 0, 0, 0, (-2147483648), (-2147483648), 0, 0, 0, 0, 0, 0, (-1), 0, 0, 0, 0, 0, 0, 0], [(fun _ => 0), (fun _ => 0), (fun _ => 0), (fun _ => 0), (fun _ => 0), (fun _ => 0), (fun _ => 0), (fun _ => 0), (fun _ => 0), (fun _ => 0), (fun _ => 0)]) ((a, .inr (12, [.int 0, .ref q1, .ref q3, .ref q6, .ref q10, .ref q15, .int 0, .int 0, .ref q21, .ref q28, .ref q36, .ref q45, .ref q55, .ref q66, .ref q78, .ref q91, .int 0, .ref q105, .ref q120, .int 0, .int (-2147483648), .int (-2147483648), .ref q136, .int 0, .ref q153, .ref q171, .ref q190, .ref q210, .null, .null, .null, .null, .null, .null, .null, .null, .int 0, .int 0, .int 0, .int 0, .null, .null, .null, .int 0, .int 0, .int 0, .int 0, .null, .null, .null, .null, .null])) :: L) H := hT
  refine lv_aload_n hx hb dX11_init_289 rfl (lv_at hl 0 rfl) ?_
  refine lv_iconst (v := 3) hx hb dX11_init_290 (by decide) ?_
  refine tx_na1 S hK hz hT hS (N := 3) (by decide) (by decide) (Nat.le_of_ble_eq_true rfl) (Nat.le_of_ble_eq_true rfl) (Nat.le_of_ble_eq_true rfl) dX11_init_291 (fun q231 H hT hS => ?_)
  obtain ⟨K, F, hM, hk232, hU9, hT⟩ := hT.cl 46 (fun j => 0) (by decide) (fun hq => absurd hq (by decide)) (fun K1 F1 hM hF => aw_46 _ (fun _ => rfl))
  have hk233 : K q1 = 30 := hM _ _ hk212 (by decide)
  have hk234 : K q3 = 31 := hM _ _ hk213 (by decide)
  have hk235 : K q6 = 32 := hM _ _ hk214 (by decide)
  have hk236 : K q10 = 31 := hM _ _ hk215 (by decide)
  have hk237 : K q15 = 34 := hM _ _ hk216 (by decide)
  have hk238 : K q21 = 35 := hM _ _ hk217 (by decide)
  have hk239 : K q28 = 36 := hM _ _ hk218 (by decide)
  have hk240 : K q36 = 37 := hM _ _ hk219 (by decide)
  have hk241 : K q45 = 38 := hM _ _ hk220 (by decide)
  have hk242 : K q55 = 38 := hM _ _ hk221 (by decide)
  have hk243 : K q66 = 38 := hM _ _ hk222 (by decide)
  have hk244 : K q78 = 38 := hM _ _ hk223 (by decide)
  have hk245 : K q91 = 42 := hM _ _ hk224 (by decide)
  have hk246 : K q105 = 43 := hM _ _ hk225 (by decide)
  have hk247 : K q120 = 44 := hM _ _ hk226 (by decide)
  have hk248 : K q136 = 45 := hM _ _ hk227 (by decide)
  have hk249 : K q153 = 47 := hM _ _ hk228 (by decide)
  have hk250 : K q171 = 49 := hM _ _ hk229 (by decide)
  have hk251 : K q190 = 49 := hM _ _ hk230 (by decide)
  have hk252 : K q210 = 48 := hM _ _ hk211 (by decide)
  have hM0 := KM.tr hM0 hM
  have hU := NU.tr hU hU9
  refine lv_dup hx hb dX11_init_293 rfl ?_
  refine lv_iconst (v := 0) hx hb dX11_init_294 (by decide) ?_
  refine lv_bipush (v := 115) hx hb dX11_init_295 (by decide) ?_
  refine tx_as1 S hK hT hS hk232 ar_46 aw_46 (by decide) (by decide) dX11_init_297 (fun H locs hT hS => ?_)
  refine lv_dup hx hb dX11_init_298 rfl ?_
  refine lv_iconst (v := 1) hx hb dX11_init_299 (by decide) ?_
  refine lv_bipush (v := 117) hx hb dX11_init_300 (by decide) ?_
  refine tx_as1 S hK hT hS hk232 ar_46 aw_46 (by decide) (by decide) dX11_init_302 (fun H locs hT hS => ?_)
  refine lv_dup hx hb dX11_init_303 rfl ?_
  refine lv_iconst (v := 2) hx hb dX11_init_304 (by decide) ?_
  refine lv_bipush (v := 109) hx hb dX11_init_305 (by decide) ?_
  refine tx_as1 S hK hT hS hk232 ar_46 aw_46 (by decide) (by decide) dX11_init_307 (fun H locs hT hS => ?_)
  refine tx_putF (C := RX11) (T := TX11) (N := 52) (ci := 12) (ty := (.array .char)) S hK hT hS inX11 tyX11 tyX11_ok nmX11 0 rfl rfl 28 (by decide) kf_X11_82 rfl hnm rfl (by decide +kernel) rfl rfl (Nat.le_of_ble_eq_true rfl) dX11_init_308 (fun H locs hT hS => ?_)
  have hT : TX E K F (0, [0, 0, 0, 0, 0, (-2147483648), (-2147483648), 0, 0, 0, 0, 0, 0, (-1), 0, 0, 0, 0, 0, 0, 0], [(fun _ => 0), (fun _ => 0), (fun _ => 0), (fun _ => 0), (fun _ => 0), (fun _ => 0), (fun _ => 0), (fun _ => 0), (fun _ => 0), (fun _ => 0), (fun _ => 0)]) ((a, .inr (12, [.int 0, .ref q1, .ref q3, .ref q6, .ref q10, .ref q15, .int 0, .int 0, .ref q21, .ref q28, .ref q36, .ref q45, .ref q55, .ref q66, .ref q78, .ref q91, .int 0, .ref q105, .ref q120, .int 0, .int (-2147483648), .int (-2147483648), .ref q136, .int 0, .ref q153, .ref q171, .ref q190, .ref q210, .ref q231, .null, .null, .null, .null, .null, .null, .null, .int 0, .int 0, .int 0, .int 0, .null, .null, .null, .int 0, .int 0, .int 0, .int 0, .null, .null, .null, .null, .null])) :: L) H := hT
  refine lv_aload_n hx hb dX11_init_311 rfl (lv_at hl 0 rfl) ?_
  refine lv_iconst (v := 5) hx hb dX11_init_312 (by decide) ?_
  refine tx_na1 S hK hz hT hS (N := 5) (by decide) (by decide) (Nat.le_of_ble_eq_true rfl) (Nat.le_of_ble_eq_true rfl) (Nat.le_of_ble_eq_true rfl) dX11_init_313 (fun q253 H hT hS => ?_)
  obtain ⟨K, F, hM, hk254, hU9, hT⟩ := hT.cl 48 (fun j => 0) (by decide) (fun hq => absurd hq (by decide)) (fun K1 F1 hM hF => aw_48 _ (fun _ => rfl))
  have hk255 : K q1 = 30 := hM _ _ hk233 (by decide)
  have hk256 : K q3 = 31 := hM _ _ hk234 (by decide)
  have hk257 : K q6 = 32 := hM _ _ hk235 (by decide)
  have hk258 : K q10 = 31 := hM _ _ hk236 (by decide)
  have hk259 : K q15 = 34 := hM _ _ hk237 (by decide)
  have hk260 : K q21 = 35 := hM _ _ hk238 (by decide)
  have hk261 : K q28 = 36 := hM _ _ hk239 (by decide)
  have hk262 : K q36 = 37 := hM _ _ hk240 (by decide)
  have hk263 : K q45 = 38 := hM _ _ hk241 (by decide)
  have hk264 : K q55 = 38 := hM _ _ hk242 (by decide)
  have hk265 : K q66 = 38 := hM _ _ hk243 (by decide)
  have hk266 : K q78 = 38 := hM _ _ hk244 (by decide)
  have hk267 : K q91 = 42 := hM _ _ hk245 (by decide)
  have hk268 : K q105 = 43 := hM _ _ hk246 (by decide)
  have hk269 : K q120 = 44 := hM _ _ hk247 (by decide)
  have hk270 : K q136 = 45 := hM _ _ hk248 (by decide)
  have hk271 : K q153 = 47 := hM _ _ hk249 (by decide)
  have hk272 : K q171 = 49 := hM _ _ hk250 (by decide)
  have hk273 : K q190 = 49 := hM _ _ hk251 (by decide)
  have hk274 : K q210 = 48 := hM _ _ hk252 (by decide)
  have hk275 : K q231 = 46 := hM _ _ hk232 (by decide)
  have hM0 := KM.tr hM0 hM
  have hU := NU.tr hU hU9
  refine lv_dup hx hb dX11_init_315 rfl ?_
  refine lv_iconst (v := 0) hx hb dX11_init_316 (by decide) ?_
  refine lv_bipush (v := 99) hx hb dX11_init_317 (by decide) ?_
  refine tx_as1 S hK hT hS hk254 ar_48 aw_48 (by decide) (by decide) dX11_init_319 (fun H locs hT hS => ?_)
  refine lv_dup hx hb dX11_init_320 rfl ?_
  refine lv_iconst (v := 1) hx hb dX11_init_321 (by decide) ?_
  refine lv_bipush (v := 111) hx hb dX11_init_322 (by decide) ?_
  refine tx_as1 S hK hT hS hk254 ar_48 aw_48 (by decide) (by decide) dX11_init_324 (fun H locs hT hS => ?_)
  refine lv_dup hx hb dX11_init_325 rfl ?_
  refine lv_iconst (v := 2) hx hb dX11_init_326 (by decide) ?_
  refine lv_bipush (v := 117) hx hb dX11_init_327 (by decide) ?_
  refine tx_as1 S hK hT hS hk254 ar_48 aw_48 (by decide) (by decide) dX11_init_329 (fun H locs hT hS => ?_)
  refine lv_dup hx hb dX11_init_330 rfl ?_
  refine lv_iconst (v := 3) hx hb dX11_init_331 (by decide) ?_
  refine lv_bipush (v := 110) hx hb dX11_init_332 (by decide) ?_
  refine tx_as1 S hK hT hS hk254 ar_48 aw_48 (by decide) (by decide) dX11_init_334 (fun H locs hT hS => ?_)
  refine lv_dup hx hb dX11_init_335 rfl ?_
  refine lv_iconst (v := 4) hx hb dX11_init_336 (by decide) ?_
  refine lv_bipush (v := 116) hx hb dX11_init_337 (by decide) ?_
  refine tx_as1 S hK hT hS hk254 ar_48 aw_48 (by decide) (by decide) dX11_init_339 (fun H locs hT hS => ?_)
  refine tx_putF (C := RX11) (T := TX11) (N := 52) (ci := 12) (ty := (.array .char)) S hK hT hS inX11 tyX11 tyX11_ok nmX11 0 rfl rfl 29 (by decide) kf_X11_85 rfl hnm rfl (by decide +kernel) rfl rfl (Nat.le_of_ble_eq_true rfl) dX11_init_340 (fun H locs hT hS => ?_)
  have hT : TX E K F (0, [0, 0, 0, 0, 0, (-2147483648), (-2147483648), 0, 0, 0, 0, 0, 0, (-1), 0, 0, 0, 0, 0, 0, 0], [(fun _ => 0), (fun _ => 0), (fun _ => 0), (fun _ => 0), (fun _ => 0), (fun _ => 0), (fun _ => 0), (fun _ => 0), (fun _ => 0), (fun _ => 0), (fun _ => 0)]) ((a, .inr (12, [.int 0, .ref q1, .ref q3, .ref q6, .ref q10, .ref q15, .int 0, .int 0, .ref q21, .ref q28, .ref q36, .ref q45, .ref q55, .ref q66, .ref q78, .ref q91, .int 0, .ref q105, .ref q120, .int 0, .int (-2147483648), .int (-2147483648), .ref q136, .int 0, .ref q153, .ref q171, .ref q190, .ref q210, .ref q231, .ref q253, .null, .null, .null, .null, .null, .null, .int 0, .int 0, .int 0, .int 0, .null, .null, .null, .int 0, .int 0, .int 0, .int 0, .null, .null, .null, .null, .null])) :: L) H := hT
  refine lv_aload_n hx hb dX11_init_343 rfl (lv_at hl 0 rfl) ?_
  refine lv_iconst (v := 4) hx hb dX11_init_344 (by decide) ?_
  refine tx_na1 S hK hz hT hS (N := 4) (by decide) (by decide) (Nat.le_of_ble_eq_true rfl) (Nat.le_of_ble_eq_true rfl) (Nat.le_of_ble_eq_true rfl) dX11_init_345 (fun q276 H hT hS => ?_)
  obtain ⟨K, F, hM, hk277, hU9, hT⟩ := hT.cl 47 (fun j => 0) (by decide) (fun hq => absurd hq (by decide)) (fun K1 F1 hM hF => aw_47 _ (fun _ => rfl))
  have hk278 : K q1 = 30 := hM _ _ hk255 (by decide)
  have hk279 : K q3 = 31 := hM _ _ hk256 (by decide)
  have hk280 : K q6 = 32 := hM _ _ hk257 (by decide)
  have hk281 : K q10 = 31 := hM _ _ hk258 (by decide)
  have hk282 : K q15 = 34 := hM _ _ hk259 (by decide)
  have hk283 : K q21 = 35 := hM _ _ hk260 (by decide)
  have hk284 : K q28 = 36 := hM _ _ hk261 (by decide)
  have hk285 : K q36 = 37 := hM _ _ hk262 (by decide)
  have hk286 : K q45 = 38 := hM _ _ hk263 (by decide)
  have hk287 : K q55 = 38 := hM _ _ hk264 (by decide)
  have hk288 : K q66 = 38 := hM _ _ hk265 (by decide)
  have hk289 : K q78 = 38 := hM _ _ hk266 (by decide)
  have hk290 : K q91 = 42 := hM _ _ hk267 (by decide)
  have hk291 : K q105 = 43 := hM _ _ hk268 (by decide)
  have hk292 : K q120 = 44 := hM _ _ hk269 (by decide)
  have hk293 : K q136 = 45 := hM _ _ hk270 (by decide)
  have hk294 : K q153 = 47 := hM _ _ hk271 (by decide)
  have hk295 : K q171 = 49 := hM _ _ hk272 (by decide)
  have hk296 : K q190 = 49 := hM _ _ hk273 (by decide)
  have hk297 : K q210 = 48 := hM _ _ hk274 (by decide)
  have hk298 : K q231 = 46 := hM _ _ hk275 (by decide)
  have hk299 : K q253 = 48 := hM _ _ hk254 (by decide)
  have hM0 := KM.tr hM0 hM
  have hU := NU.tr hU hU9
  refine lv_dup hx hb dX11_init_347 rfl ?_
  refine lv_iconst (v := 0) hx hb dX11_init_348 (by decide) ?_
  refine lv_bipush (v := 116) hx hb dX11_init_349 (by decide) ?_
  refine tx_as1 S hK hT hS hk277 ar_47 aw_47 (by decide) (by decide) dX11_init_351 (fun H locs hT hS => ?_)
  refine lv_dup hx hb dX11_init_352 rfl ?_
  refine lv_iconst (v := 1) hx hb dX11_init_353 (by decide) ?_
  refine lv_bipush (v := 114) hx hb dX11_init_354 (by decide) ?_
  refine tx_as1 S hK hT hS hk277 ar_47 aw_47 (by decide) (by decide) dX11_init_356 (fun H locs hT hS => ?_)
  refine lv_dup hx hb dX11_init_357 rfl ?_
  refine lv_iconst (v := 2) hx hb dX11_init_358 (by decide) ?_
  refine lv_bipush (v := 101) hx hb dX11_init_359 (by decide) ?_
  refine tx_as1 S hK hT hS hk277 ar_47 aw_47 (by decide) (by decide) dX11_init_361 (fun H locs hT hS => ?_)
  refine lv_dup hx hb dX11_init_362 rfl ?_
  refine lv_iconst (v := 3) hx hb dX11_init_363 (by decide) ?_
  refine lv_bipush (v := 101) hx hb dX11_init_364 (by decide) ?_
  refine tx_as1 S hK hT hS hk277 ar_47 aw_47 (by decide) (by decide) dX11_init_366 (fun H locs hT hS => ?_)
  refine tx_putF (C := RX11) (T := TX11) (N := 52) (ci := 12) (ty := (.array .char)) S hK hT hS inX11 tyX11 tyX11_ok nmX11 0 rfl rfl 30 (by decide) kf_X11_88 rfl hnm rfl (by decide +kernel) rfl rfl (Nat.le_of_ble_eq_true rfl) dX11_init_367 (fun H locs hT hS => ?_)
  have hT : TX E K F (0, [0, 0, 0, 0, 0, (-2147483648), (-2147483648), 0, 0, 0, 0, 0, 0, (-1), 0, 0, 0, 0, 0, 0, 0], [(fun _ => 0), (fun _ => 0), (fun _ => 0), (fun _ => 0), (fun _ => 0), (fun _ => 0), (fun _ => 0), (fun _ => 0), (fun _ => 0), (fun _ => 0), (fun _ => 0)]) ((a, .inr (12, [.int 0, .ref q1, .ref q3, .ref q6, .ref q10, .ref q15, .int 0, .int 0, .ref q21, .ref q28, .ref q36, .ref q45, .ref q55, .ref q66, .ref q78, .ref q91, .int 0, .ref q105, .ref q120, .int 0, .int (-2147483648), .int (-2147483648), .ref q136, .int 0, .ref q153, .ref q171, .ref q190, .ref q210, .ref q231, .ref q253, .ref q276, .null, .null, .null, .null, .null, .int 0, .int 0, .int 0, .int 0, .null, .null, .null, .int 0, .int 0, .int 0, .int 0, .null, .null, .null, .null, .null])) :: L) H := hT
  refine lv_aload_n hx hb dX11_init_370 rfl (lv_at hl 0 rfl) ?_
  refine lv_bipush (v := 7) hx hb dX11_init_371 (by decide) ?_
  refine tx_na1 S hK hz hT hS (N := 7) (by decide) (by decide) (Nat.le_of_ble_eq_true rfl) (Nat.le_of_ble_eq_true rfl) (Nat.le_of_ble_eq_true rfl) dX11_init_373 (fun q300 H hT hS => ?_)
  obtain ⟨K, F, hM, hk301, hU9, hT⟩ := hT.cl 50 (fun j => 0) (by decide) (fun hq => absurd hq (by decide)) (fun K1 F1 hM hF => aw_50 _ (fun _ => rfl))
  have hk302 : K q1 = 30 := hM _ _ hk278 (by decide)
  have hk303 : K q3 = 31 := hM _ _ hk279 (by decide)
  have hk304 : K q6 = 32 := hM _ _ hk280 (by decide)
  have hk305 : K q10 = 31 := hM _ _ hk281 (by decide)
  have hk306 : K q15 = 34 := hM _ _ hk282 (by decide)
  have hk307 : K q21 = 35 := hM _ _ hk283 (by decide)
  have hk308 : K q28 = 36 := hM _ _ hk284 (by decide)
  have hk309 : K q36 = 37 := hM _ _ hk285 (by decide)
  have hk310 : K q45 = 38 := hM _ _ hk286 (by decide)
  have hk311 : K q55 = 38 := hM _ _ hk287 (by decide)
  have hk312 : K q66 = 38 := hM _ _ hk288 (by decide)
  have hk313 : K q78 = 38 := hM _ _ hk289 (by decide)
  have hk314 : K q91 = 42 := hM _ _ hk290 (by decide)
  have hk315 : K q105 = 43 := hM _ _ hk291 (by decide)
  have hk316 : K q120 = 44 := hM _ _ hk292 (by decide)
  have hk317 : K q136 = 45 := hM _ _ hk293 (by decide)
  have hk318 : K q153 = 47 := hM _ _ hk294 (by decide)
  have hk319 : K q171 = 49 := hM _ _ hk295 (by decide)
  have hk320 : K q190 = 49 := hM _ _ hk296 (by decide)
  have hk321 : K q210 = 48 := hM _ _ hk297 (by decide)
  have hk322 : K q231 = 46 := hM _ _ hk298 (by decide)
  have hk323 : K q253 = 48 := hM _ _ hk299 (by decide)
  have hk324 : K q276 = 47 := hM _ _ hk277 (by decide)
  have hM0 := KM.tr hM0 hM
  have hU := NU.tr hU hU9
  refine lv_dup hx hb dX11_init_375 rfl ?_
  refine lv_iconst (v := 0) hx hb dX11_init_376 (by decide) ?_
  refine lv_bipush (v := 99) hx hb dX11_init_377 (by decide) ?_
  refine tx_as1 S hK hT hS hk301 ar_50 aw_50 (by decide) (by decide) dX11_init_379 (fun H locs hT hS => ?_)
  refine lv_dup hx hb dX11_init_380 rfl ?_
  refine lv_iconst (v := 1) hx hb dX11_init_381 (by decide) ?_
  refine lv_bipush (v := 97) hx hb dX11_init_382 (by decide) ?_
  refine tx_as1 S hK hT hS hk301 ar_50 aw_50 (by decide) (by decide) dX11_init_384 (fun H locs hT hS => ?_)
  refine lv_dup hx hb dX11_init_385 rfl ?_
  refine lv_iconst (v := 2) hx hb dX11_init_386 (by decide) ?_
  refine lv_bipush (v := 115) hx hb dX11_init_387 (by decide) ?_
  refine tx_as1 S hK hT hS hk301 ar_50 aw_50 (by decide) (by decide) dX11_init_389 (fun H locs hT hS => ?_)
  refine lv_dup hx hb dX11_init_390 rfl ?_
  refine lv_iconst (v := 3) hx hb dX11_init_391 (by decide) ?_
  refine lv_bipush (v := 99) hx hb dX11_init_392 (by decide) ?_
  refine tx_as1 S hK hT hS hk301 ar_50 aw_50 (by decide) (by decide) dX11_init_394 (fun H locs hT hS => ?_)
  refine lv_dup hx hb dX11_init_395 rfl ?_
  refine lv_iconst (v := 4) hx hb dX11_init_396 (by decide) ?_
  refine lv_bipush (v := 97) hx hb dX11_init_397 (by decide) ?_
  refine tx_as1 S hK hT hS hk301 ar_50 aw_50 (by decide) (by decide) dX11_init_399 (fun H locs hT hS => ?_)
  refine lv_dup hx hb dX11_init_400 rfl ?_
  refine lv_iconst (v := 5) hx hb dX11_init_401 (by decide) ?_
  refine lv_bipush (v := 100) hx hb dX11_init_402 (by decide) ?_
  refine tx_as1 S hK hT hS hk301 ar_50 aw_50 (by decide) (by decide) dX11_init_404 (fun H locs hT hS => ?_)
  refine lv_dup hx hb dX11_init_405 rfl ?_
  refine lv_bipush (v := 6) hx hb dX11_init_406 (by decide) ?_
  refine lv_bipush (v := 101) hx hb dX11_init_408 (by decide) ?_
  refine tx_as1 S hK hT hS hk301 ar_50 aw_50 (by decide) (by decide) dX11_init_410 (fun H locs hT hS => ?_)
  refine tx_putF (C := RX11) (T := TX11) (N := 52) (ci := 12) (ty := (.array .char)) S hK hT hS inX11 tyX11 tyX11_ok nmX11 0 rfl rfl 31 (by decide) kf_X11_91 rfl hnm rfl (by decide +kernel) rfl rfl (Nat.le_of_ble_eq_true rfl) dX11_init_411 (fun H locs hT hS => ?_)
  have hT : TX E K F (0, [0, 0, 0, 0, 0, (-2147483648), (-2147483648), 0, 0, 0, 0, 0, 0, (-1), 0, 0, 0, 0, 0, 0, 0], [(fun _ => 0), (fun _ => 0), (fun _ => 0), (fun _ => 0), (fun _ => 0), (fun _ => 0), (fun _ => 0), (fun _ => 0), (fun _ => 0), (fun _ => 0), (fun _ => 0)]) ((a, .inr (12, [.int 0, .ref q1, .ref q3, .ref q6, .ref q10, .ref q15, .int 0, .int 0, .ref q21, .ref q28, .ref q36, .ref q45, .ref q55, .ref q66, .ref q78, .ref q91, .int 0, .ref q105, .ref q120, .int 0, .int (-2147483648), .int (-2147483648), .ref q136, .int 0, .ref q153, .ref q171, .ref q190, .ref q210, .ref q231, .ref q253, .ref q276, .ref q300, .null, .null, .null, .null, .int 0, .int 0, .int 0, .int 0, .null, .null, .null, .int 0, .int 0, .int 0, .int 0, .null, .null, .null, .null, .null])) :: L) H := hT
  refine lv_aload_n hx hb dX11_init_414 rfl (lv_at hl 0 rfl) ?_
  refine lv_iconst (v := 5) hx hb dX11_init_415 (by decide) ?_
  refine tx_na1 S hK hz hT hS (N := 5) (by decide) (by decide) (Nat.le_of_ble_eq_true rfl) (Nat.le_of_ble_eq_true rfl) (Nat.le_of_ble_eq_true rfl) dX11_init_416 (fun q325 H hT hS => ?_)
  obtain ⟨K, F, hM, hk326, hU9, hT⟩ := hT.cl 48 (fun j => 0) (by decide) (fun hq => absurd hq (by decide)) (fun K1 F1 hM hF => aw_48 _ (fun _ => rfl))
  have hk327 : K q1 = 30 := hM _ _ hk302 (by decide)
  have hk328 : K q3 = 31 := hM _ _ hk303 (by decide)
  have hk329 : K q6 = 32 := hM _ _ hk304 (by decide)
  have hk330 : K q10 = 31 := hM _ _ hk305 (by decide)
  have hk331 : K q15 = 34 := hM _ _ hk306 (by decide)
  have hk332 : K q21 = 35 := hM _ _ hk307 (by decide)
  have hk333 : K q28 = 36 := hM _ _ hk308 (by decide)
  have hk334 : K q36 = 37 := hM _ _ hk309 (by decide)
  have hk335 : K q45 = 38 := hM _ _ hk310 (by decide)
  have hk336 : K q55 = 38 := hM _ _ hk311 (by decide)
  have hk337 : K q66 = 38 := hM _ _ hk312 (by decide)
  have hk338 : K q78 = 38 := hM _ _ hk313 (by decide)
  have hk339 : K q91 = 42 := hM _ _ hk314 (by decide)
  have hk340 : K q105 = 43 := hM _ _ hk315 (by decide)
  have hk341 : K q120 = 44 := hM _ _ hk316 (by decide)
  have hk342 : K q136 = 45 := hM _ _ hk317 (by decide)
  have hk343 : K q153 = 47 := hM _ _ hk318 (by decide)
  have hk344 : K q171 = 49 := hM _ _ hk319 (by decide)
  have hk345 : K q190 = 49 := hM _ _ hk320 (by decide)
  have hk346 : K q210 = 48 := hM _ _ hk321 (by decide)
  have hk347 : K q231 = 46 := hM _ _ hk322 (by decide)
  have hk348 : K q253 = 48 := hM _ _ hk323 (by decide)
  have hk349 : K q276 = 47 := hM _ _ hk324 (by decide)
  have hk350 : K q300 = 50 := hM _ _ hk301 (by decide)
  have hM0 := KM.tr hM0 hM
  have hU := NU.tr hU hU9
  refine lv_dup hx hb dX11_init_418 rfl ?_
  refine lv_iconst (v := 0) hx hb dX11_init_419 (by decide) ?_
  refine lv_bipush (v := 99) hx hb dX11_init_420 (by decide) ?_
  refine tx_as1 S hK hT hS hk326 ar_48 aw_48 (by decide) (by decide) dX11_init_422 (fun H locs hT hS => ?_)
  refine lv_dup hx hb dX11_init_423 rfl ?_
  refine lv_iconst (v := 1) hx hb dX11_init_424 (by decide) ?_
  refine lv_bipush (v := 108) hx hb dX11_init_425 (by decide) ?_
  refine tx_as1 S hK hT hS hk326 ar_48 aw_48 (by decide) (by decide) dX11_init_427 (fun H locs hT hS => ?_)
  refine lv_dup hx hb dX11_init_428 rfl ?_
  refine lv_iconst (v := 2) hx hb dX11_init_429 (by decide) ?_
  refine lv_bipush (v := 101) hx hb dX11_init_430 (by decide) ?_
  refine tx_as1 S hK hT hS hk326 ar_48 aw_48 (by decide) (by decide) dX11_init_432 (fun H locs hT hS => ?_)
  refine lv_dup hx hb dX11_init_433 rfl ?_
  refine lv_iconst (v := 3) hx hb dX11_init_434 (by decide) ?_
  refine lv_bipush (v := 97) hx hb dX11_init_435 (by decide) ?_
  refine tx_as1 S hK hT hS hk326 ar_48 aw_48 (by decide) (by decide) dX11_init_437 (fun H locs hT hS => ?_)
  refine lv_dup hx hb dX11_init_438 rfl ?_
  refine lv_iconst (v := 4) hx hb dX11_init_439 (by decide) ?_
  refine lv_bipush (v := 114) hx hb dX11_init_440 (by decide) ?_
  refine tx_as1 S hK hT hS hk326 ar_48 aw_48 (by decide) (by decide) dX11_init_442 (fun H locs hT hS => ?_)
  refine tx_putF (C := RX11) (T := TX11) (N := 52) (ci := 12) (ty := (.array .char)) S hK hT hS inX11 tyX11 tyX11_ok nmX11 0 rfl rfl 32 (by decide) kf_X11_94 rfl hnm rfl (by decide +kernel) rfl rfl (Nat.le_of_ble_eq_true rfl) dX11_init_443 (fun H locs hT hS => ?_)
  have hT : TX E K F (0, [0, 0, 0, 0, 0, (-2147483648), (-2147483648), 0, 0, 0, 0, 0, 0, (-1), 0, 0, 0, 0, 0, 0, 0], [(fun _ => 0), (fun _ => 0), (fun _ => 0), (fun _ => 0), (fun _ => 0), (fun _ => 0), (fun _ => 0), (fun _ => 0), (fun _ => 0), (fun _ => 0), (fun _ => 0)]) ((a, .inr (12, [.int 0, .ref q1, .ref q3, .ref q6, .ref q10, .ref q15, .int 0, .int 0, .ref q21, .ref q28, .ref q36, .ref q45, .ref q55, .ref q66, .ref q78, .ref q91, .int 0, .ref q105, .ref q120, .int 0, .int (-2147483648), .int (-2147483648), .ref q136, .int 0, .ref q153, .ref q171, .ref q190, .ref q210, .ref q231, .ref q253, .ref q276, .ref q300, .ref q325, .null, .null, .null, .int 0, .int 0, .int 0, .int 0, .null, .null, .null, .int 0, .int 0, .int 0, .int 0, .null, .null, .null, .null, .null])) :: L) H := hT
  refine lv_aload_n hx hb dX11_init_446 rfl (lv_at hl 0 rfl) ?_
  refine lv_iconst (v := 4) hx hb dX11_init_447 (by decide) ?_
  refine tx_na1 S hK hz hT hS (N := 4) (by decide) (by decide) (Nat.le_of_ble_eq_true rfl) (Nat.le_of_ble_eq_true rfl) (Nat.le_of_ble_eq_true rfl) dX11_init_448 (fun q351 H hT hS => ?_)
  obtain ⟨K, F, hM, hk352, hU9, hT⟩ := hT.cl 47 (fun j => 0) (by decide) (fun hq => absurd hq (by decide)) (fun K1 F1 hM hF => aw_47 _ (fun _ => rfl))
  have hk353 : K q1 = 30 := hM _ _ hk327 (by decide)
  have hk354 : K q3 = 31 := hM _ _ hk328 (by decide)
  have hk355 : K q6 = 32 := hM _ _ hk329 (by decide)
  have hk356 : K q10 = 31 := hM _ _ hk330 (by decide)
  have hk357 : K q15 = 34 := hM _ _ hk331 (by decide)
  have hk358 : K q21 = 35 := hM _ _ hk332 (by decide)
  have hk359 : K q28 = 36 := hM _ _ hk333 (by decide)
  have hk360 : K q36 = 37 := hM _ _ hk334 (by decide)
  have hk361 : K q45 = 38 := hM _ _ hk335 (by decide)
  have hk362 : K q55 = 38 := hM _ _ hk336 (by decide)
  have hk363 : K q66 = 38 := hM _ _ hk337 (by decide)
  have hk364 : K q78 = 38 := hM _ _ hk338 (by decide)
  have hk365 : K q91 = 42 := hM _ _ hk339 (by decide)
  have hk366 : K q105 = 43 := hM _ _ hk340 (by decide)
  have hk367 : K q120 = 44 := hM _ _ hk341 (by decide)
  have hk368 : K q136 = 45 := hM _ _ hk342 (by decide)
  have hk369 : K q153 = 47 := hM _ _ hk343 (by decide)
  have hk370 : K q171 = 49 := hM _ _ hk344 (by decide)
  have hk371 : K q190 = 49 := hM _ _ hk345 (by decide)
  have hk372 : K q210 = 48 := hM _ _ hk346 (by decide)
  have hk373 : K q231 = 46 := hM _ _ hk347 (by decide)
  have hk374 : K q253 = 48 := hM _ _ hk348 (by decide)
  have hk375 : K q276 = 47 := hM _ _ hk349 (by decide)
  have hk376 : K q300 = 50 := hM _ _ hk350 (by decide)
  have hk377 : K q325 = 48 := hM _ _ hk326 (by decide)
  have hM0 := KM.tr hM0 hM
  have hU := NU.tr hU hU9
  refine lv_dup hx hb dX11_init_450 rfl ?_
  refine lv_iconst (v := 0) hx hb dX11_init_451 (by decide) ?_
  refine lv_bipush (v := 108) hx hb dX11_init_452 (by decide) ?_
  refine tx_as1 S hK hT hS hk352 ar_47 aw_47 (by decide) (by decide) dX11_init_454 (fun H locs hT hS => ?_)
  refine lv_dup hx hb dX11_init_455 rfl ?_
  refine lv_iconst (v := 1) hx hb dX11_init_456 (by decide) ?_
  refine lv_bipush (v := 97) hx hb dX11_init_457 (by decide) ?_
  refine tx_as1 S hK hT hS hk352 ar_47 aw_47 (by decide) (by decide) dX11_init_459 (fun H locs hT hS => ?_)
  refine lv_dup hx hb dX11_init_460 rfl ?_
  refine lv_iconst (v := 2) hx hb dX11_init_461 (by decide) ?_
  refine lv_bipush (v := 116) hx hb dX11_init_462 (by decide) ?_
  refine tx_as1 S hK hT hS hk352 ar_47 aw_47 (by decide) (by decide) dX11_init_464 (fun H locs hT hS => ?_)
  refine lv_dup hx hb dX11_init_465 rfl ?_
  refine lv_iconst (v := 3) hx hb dX11_init_466 (by decide) ?_
  refine lv_bipush (v := 101) hx hb dX11_init_467 (by decide) ?_
  refine tx_as1 S hK hT hS hk352 ar_47 aw_47 (by decide) (by decide) dX11_init_469 (fun H locs hT hS => ?_)
  refine tx_putF (C := RX11) (T := TX11) (N := 52) (ci := 12) (ty := (.array .char)) S hK hT hS inX11 tyX11 tyX11_ok nmX11 0 rfl rfl 33 (by decide) kf_X11_97 rfl hnm rfl (by decide +kernel) rfl rfl (Nat.le_of_ble_eq_true rfl) dX11_init_470 (fun H locs hT hS => ?_)
  have hT : TX E K F (0, [0, 0, 0, 0, 0, (-2147483648), (-2147483648), 0, 0, 0, 0, 0, 0, (-1), 0, 0, 0, 0, 0, 0, 0], [(fun _ => 0), (fun _ => 0), (fun _ => 0), (fun _ => 0), (fun _ => 0), (fun _ => 0), (fun _ => 0), (fun _ => 0), (fun _ => 0), (fun _ => 0), (fun _ => 0)]) ((a, .inr (12, [.int 0, .ref q1, .ref q3, .ref q6, .ref q10, .ref q15, .int 0, .int 0, .ref q21, .ref q28, .ref q36, .ref q45, .ref q55, .ref q66, .ref q78, .ref q91, .int 0, .ref q105, .ref q120, .int 0, .int (-2147483648), .int (-2147483648), .ref q136, .int 0, .ref q153, .ref q171, .ref q190, .ref q210, .ref q231, .ref q253, .ref q276, .ref q300, .ref q325, .ref q351, .null, .null, .int 0, .int 0, .int 0, .int 0, .null, .null, .null, .int 0, .int 0, .int 0, .int 0, .null, .null, .null, .null, .null])) :: L) H := hT
  refine lv_aload_n hx hb dX11_init_473 rfl (lv_at hl 0 rfl) ?_
  refine lv_iconst (v := 4) hx hb dX11_init_474 (by decide) ?_
  refine tx_na1 S hK hz hT hS (N := 4) (by decide) (by decide) (Nat.le_of_ble_eq_true rfl) (Nat.le_of_ble_eq_true rfl) (Nat.le_of_ble_eq_true rfl) dX11_init_475 (fun q378 H hT hS => ?_)
  obtain ⟨K, F, hM, hk379, hU9, hT⟩ := hT.cl 47 (fun j => 0) (by decide) (fun hq => absurd hq (by decide)) (fun K1 F1 hM hF => aw_47 _ (fun _ => rfl))
  have hk380 : K q1 = 30 := hM _ _ hk353 (by decide)
  have hk381 : K q3 = 31 := hM _ _ hk354 (by decide)
  have hk382 : K q6 = 32 := hM _ _ hk355 (by decide)
  have hk383 : K q10 = 31 := hM _ _ hk356 (by decide)
  have hk384 : K q15 = 34 := hM _ _ hk357 (by decide)
  have hk385 : K q21 = 35 := hM _ _ hk358 (by decide)
  have hk386 : K q28 = 36 := hM _ _ hk359 (by decide)
  have hk387 : K q36 = 37 := hM _ _ hk360 (by decide)
  have hk388 : K q45 = 38 := hM _ _ hk361 (by decide)
  have hk389 : K q55 = 38 := hM _ _ hk362 (by decide)
  have hk390 : K q66 = 38 := hM _ _ hk363 (by decide)
  have hk391 : K q78 = 38 := hM _ _ hk364 (by decide)
  have hk392 : K q91 = 42 := hM _ _ hk365 (by decide)
  have hk393 : K q105 = 43 := hM _ _ hk366 (by decide)
  have hk394 : K q120 = 44 := hM _ _ hk367 (by decide)
  have hk395 : K q136 = 45 := hM _ _ hk368 (by decide)
  have hk396 : K q153 = 47 := hM _ _ hk369 (by decide)
  have hk397 : K q171 = 49 := hM _ _ hk370 (by decide)
  have hk398 : K q190 = 49 := hM _ _ hk371 (by decide)
  have hk399 : K q210 = 48 := hM _ _ hk372 (by decide)
  have hk400 : K q231 = 46 := hM _ _ hk373 (by decide)
  have hk401 : K q253 = 48 := hM _ _ hk374 (by decide)
  have hk402 : K q276 = 47 := hM _ _ hk375 (by decide)
  have hk403 : K q300 = 50 := hM _ _ hk376 (by decide)
  have hk404 : K q325 = 48 := hM _ _ hk377 (by decide)
  have hk405 : K q351 = 47 := hM _ _ hk352 (by decide)
  have hM0 := KM.tr hM0 hM
  have hU := NU.tr hU hU9
  refine lv_dup hx hb dX11_init_477 rfl ?_
  refine lv_iconst (v := 0) hx hb dX11_init_478 (by decide) ?_
  refine lv_bipush (v := 114) hx hb dX11_init_479 (by decide) ?_
  refine tx_as1 S hK hT hS hk379 ar_47 aw_47 (by decide) (by decide) dX11_init_481 (fun H locs hT hS => ?_)
  refine lv_dup hx hb dX11_init_482 rfl ?_
  refine lv_iconst (v := 1) hx hb dX11_init_483 (by decide) ?_
  refine lv_bipush (v := 97) hx hb dX11_init_484 (by decide) ?_
  refine tx_as1 S hK hT hS hk379 ar_47 aw_47 (by decide) (by decide) dX11_init_486 (fun H locs hT hS => ?_)
  refine lv_dup hx hb dX11_init_487 rfl ?_
  refine lv_iconst (v := 2) hx hb dX11_init_488 (by decide) ?_
  refine lv_bipush (v := 110) hx hb dX11_init_489 (by decide) ?_
  refine tx_as1 S hK hT hS hk379 ar_47 aw_47 (by decide) (by decide) dX11_init_491 (fun H locs hT hS => ?_)
  refine lv_dup hx hb dX11_init_492 rfl ?_
  refine lv_iconst (v := 3) hx hb dX11_init_493 (by decide) ?_
  refine lv_bipush (v := 107) hx hb dX11_init_494 (by decide) ?_
  refine tx_as1 S hK hT hS hk379 ar_47 aw_47 (by decide) (by decide) dX11_init_496 (fun H locs hT hS => ?_)
  refine tx_putF (C := RX11) (T := TX11) (N := 52) (ci := 12) (ty := (.array .char)) S hK hT hS inX11 tyX11 tyX11_ok nmX11 0 rfl rfl 34 (by decide) kf_X11_100 rfl hnm rfl (by decide +kernel) rfl rfl (Nat.le_of_ble_eq_true rfl) dX11_init_497 (fun H locs hT hS => ?_)
  have hT : TX E K F (0, [0, 0, 0, 0, 0, (-2147483648), (-2147483648), 0, 0, 0, 0, 0, 0, (-1), 0, 0, 0, 0, 0, 0, 0], [(fun _ => 0), (fun _ => 0), (fun _ => 0), (fun _ => 0), (fun _ => 0), (fun _ => 0), (fun _ => 0), (fun _ => 0), (fun _ => 0), (fun _ => 0), (fun _ => 0)]) ((a, .inr (12, [.int 0, .ref q1, .ref q3, .ref q6, .ref q10, .ref q15, .int 0, .int 0, .ref q21, .ref q28, .ref q36, .ref q45, .ref q55, .ref q66, .ref q78, .ref q91, .int 0, .ref q105, .ref q120, .int 0, .int (-2147483648), .int (-2147483648), .ref q136, .int 0, .ref q153, .ref q171, .ref q190, .ref q210, .ref q231, .ref q253, .ref q276, .ref q300, .ref q325, .ref q351, .ref q378, .null, .int 0, .int 0, .int 0, .int 0, .null, .null, .null, .int 0, .int 0, .int 0, .int 0, .null, .null, .null, .null, .null])) :: L) H := hT
  refine lv_aload_n hx hb dX11_init_500 rfl (lv_at hl 0 rfl) ?_
  refine lv_bipush (v := 80) hx hb dX11_init_501 (by decide) ?_
  refine tx_na2 S hK hz hT hS (N := 80) (by decide) (by decide) (Nat.le_of_ble_eq_true rfl) (Nat.le_of_ble_eq_true rfl) (Nat.le_of_ble_eq_true rfl) dX11_init_503 (fun q406 H hT hS => ?_)
  obtain ⟨K, F, hM, hk407, hU9, hT⟩ := hT.cl 51 (fun j => 0) (by decide) (fun hq => absurd hq (by decide)) (fun K1 F1 hM hF => aw_51 _ (fun _ => rfl))
  have hk408 : K q1 = 30 := hM _ _ hk380 (by decide)
  have hk409 : K q3 = 31 := hM _ _ hk381 (by decide)
  have hk410 : K q6 = 32 := hM _ _ hk382 (by decide)
  have hk411 : K q10 = 31 := hM _ _ hk383 (by decide)
  have hk412 : K q15 = 34 := hM _ _ hk384 (by decide)
  have hk413 : K q21 = 35 := hM _ _ hk385 (by decide)
  have hk414 : K q28 = 36 := hM _ _ hk386 (by decide)
  have hk415 : K q36 = 37 := hM _ _ hk387 (by decide)
  have hk416 : K q45 = 38 := hM _ _ hk388 (by decide)
  have hk417 : K q55 = 38 := hM _ _ hk389 (by decide)
  have hk418 : K q66 = 38 := hM _ _ hk390 (by decide)
  have hk419 : K q78 = 38 := hM _ _ hk391 (by decide)
  have hk420 : K q91 = 42 := hM _ _ hk392 (by decide)
  have hk421 : K q105 = 43 := hM _ _ hk393 (by decide)
  have hk422 : K q120 = 44 := hM _ _ hk394 (by decide)
  have hk423 : K q136 = 45 := hM _ _ hk395 (by decide)
  have hk424 : K q153 = 47 := hM _ _ hk396 (by decide)
  have hk425 : K q171 = 49 := hM _ _ hk397 (by decide)
  have hk426 : K q190 = 49 := hM _ _ hk398 (by decide)
  have hk427 : K q210 = 48 := hM _ _ hk399 (by decide)
  have hk428 : K q231 = 46 := hM _ _ hk400 (by decide)
  have hk429 : K q253 = 48 := hM _ _ hk401 (by decide)
  have hk430 : K q276 = 47 := hM _ _ hk402 (by decide)
  have hk431 : K q300 = 50 := hM _ _ hk403 (by decide)
  have hk432 : K q325 = 48 := hM _ _ hk404 (by decide)
  have hk433 : K q351 = 47 := hM _ _ hk405 (by decide)
  have hk434 : K q378 = 47 := hM _ _ hk379 (by decide)
  have hM0 := KM.tr hM0 hM
  have hU := NU.tr hU hU9
  refine tx_putF (C := RX11) (T := TX11) (N := 52) (ci := 12) (ty := (.array .byte)) S hK hT hS inX11 tyX11 tyX11_ok nmX11 0 rfl rfl 35 (by decide) kf_X11_103 rfl hnm rfl (by decide +kernel) rfl rfl (Nat.le_of_ble_eq_true rfl) dX11_init_505 (fun H locs hT hS => ?_)
  have hT : TX E K F (0, [0, 0, 0, 0, 0, (-2147483648), (-2147483648), 0, 0, 0, 0, 0, 0, (-1), 0, 0, 0, 0, 0, 0, 0], [(fun _ => 0), (fun _ => 0), (fun _ => 0), (fun _ => 0), (fun _ => 0), (fun _ => 0), (fun _ => 0), (fun _ => 0), (fun _ => 0), (fun _ => 0), (fun _ => 0)]) ((a, .inr (12, [.int 0, .ref q1, .ref q3, .ref q6, .ref q10, .ref q15, .int 0, .int 0, .ref q21, .ref q28, .ref q36, .ref q45, .ref q55, .ref q66, .ref q78, .ref q91, .int 0, .ref q105, .ref q120, .int 0, .int (-2147483648), .int (-2147483648), .ref q136, .int 0, .ref q153, .ref q171, .ref q190, .ref q210, .ref q231, .ref q253, .ref q276, .ref q300, .ref q325, .ref q351, .ref q378, .ref q406, .int 0, .int 0, .int 0, .int 0, .null, .null, .null, .int 0, .int 0, .int 0, .int 0, .null, .null, .null, .null, .null])) :: L) H := hT
  refine lv_aload_n hx hb dX11_init_508 rfl (lv_at hl 0 rfl) ?_
  refine lv_bipush (v := 10) hx hb dX11_init_509 (by decide) ?_
  refine tx_na0 S hK hz hT hS (N := 10) (by decide) (by decide) (Nat.le_of_ble_eq_true rfl) (Nat.le_of_ble_eq_true rfl) (Nat.le_of_ble_eq_true rfl) dX11_init_511 (fun q435 H hT hS => ?_)
  obtain ⟨K, F, hM, hk436, hU9, hT⟩ := hT.cl 52 (fun j => 0) (by decide) (fun _ => NU.no hU (hN 52 (by decide)) (by decide) (by decide)) (fun K1 F1 hM hF => ⟨0, 10, fun _ => 0, rfl, rfl, fun _ => trivial, fun j9 hj => by cases hj; rfl⟩)
  have hk437 : K q1 = 30 := hM _ _ hk408 (by decide)
  have hk438 : K q3 = 31 := hM _ _ hk409 (by decide)
  have hk439 : K q6 = 32 := hM _ _ hk410 (by decide)
  have hk440 : K q10 = 31 := hM _ _ hk411 (by decide)
  have hk441 : K q15 = 34 := hM _ _ hk412 (by decide)
  have hk442 : K q21 = 35 := hM _ _ hk413 (by decide)
  have hk443 : K q28 = 36 := hM _ _ hk414 (by decide)
  have hk444 : K q36 = 37 := hM _ _ hk415 (by decide)
  have hk445 : K q45 = 38 := hM _ _ hk416 (by decide)
  have hk446 : K q55 = 38 := hM _ _ hk417 (by decide)
  have hk447 : K q66 = 38 := hM _ _ hk418 (by decide)
  have hk448 : K q78 = 38 := hM _ _ hk419 (by decide)
  have hk449 : K q91 = 42 := hM _ _ hk420 (by decide)
  have hk450 : K q105 = 43 := hM _ _ hk421 (by decide)
  have hk451 : K q120 = 44 := hM _ _ hk422 (by decide)
  have hk452 : K q136 = 45 := hM _ _ hk423 (by decide)
  have hk453 : K q153 = 47 := hM _ _ hk424 (by decide)
  have hk454 : K q171 = 49 := hM _ _ hk425 (by decide)
  have hk455 : K q190 = 49 := hM _ _ hk426 (by decide)
  have hk456 : K q210 = 48 := hM _ _ hk427 (by decide)
  have hk457 : K q231 = 46 := hM _ _ hk428 (by decide)
  have hk458 : K q253 = 48 := hM _ _ hk429 (by decide)
  have hk459 : K q276 = 47 := hM _ _ hk430 (by decide)
  have hk460 : K q300 = 50 := hM _ _ hk431 (by decide)
  have hk461 : K q325 = 48 := hM _ _ hk432 (by decide)
  have hk462 : K q351 = 47 := hM _ _ hk433 (by decide)
  have hk463 : K q378 = 47 := hM _ _ hk434 (by decide)
  have hk464 : K q406 = 51 := hM _ _ hk407 (by decide)
  have hM0 := KM.tr hM0 hM
  have hU := NU.tr hU hU9
  refine tx_putF (C := RX11) (T := TX11) (N := 52) (ci := 12) (ty := (.array .int)) S hK hT hS inX11 tyX11 tyX11_ok nmX11 0 rfl rfl 40 (by decide) kf_X11_106 rfl hnm rfl (by decide +kernel) rfl rfl (Nat.le_of_ble_eq_true rfl) dX11_init_513 (fun H locs hT hS => ?_)
  have hT : TX E K F (0, [0, 0, 0, 0, 0, (-2147483648), (-2147483648), 0, 0, 0, 0, 0, 0, (-1), 0, 0, 0, 0, 0, 0, 0], [(fun _ => 0), (fun _ => 0), (fun _ => 0), (fun _ => 0), (fun _ => 0), (fun _ => 0), (fun _ => 0), (fun _ => 0), (fun _ => 0), (fun _ => 0), (fun _ => 0)]) ((a, .inr (12, [.int 0, .ref q1, .ref q3, .ref q6, .ref q10, .ref q15, .int 0, .int 0, .ref q21, .ref q28, .ref q36, .ref q45, .ref q55, .ref q66, .ref q78, .ref q91, .int 0, .ref q105, .ref q120, .int 0, .int (-2147483648), .int (-2147483648), .ref q136, .int 0, .ref q153, .ref q171, .ref q190, .ref q210, .ref q231, .ref q253, .ref q276, .ref q300, .ref q325, .ref q351, .ref q378, .ref q406, .int 0, .int 0, .int 0, .int 0, .ref q435, .null, .null, .int 0, .int 0, .int 0, .int 0, .null, .null, .null, .null, .null])) :: L) H := hT
  refine lv_aload_n hx hb dX11_init_516 rfl (lv_at hl 0 rfl) ?_
  refine lv_sipush (v := 2400) hx hb dX11_init_517 (by decide) ?_
  refine tx_na0 S hK hz hT hS (N := 2400) (by decide) (by decide) (Nat.le_of_ble_eq_true rfl) (Nat.le_of_ble_eq_true rfl) (Nat.le_of_ble_eq_true rfl) dX11_init_520 (fun q465 H hT hS => ?_)
  obtain ⟨K, F, hM, hk466, hU9, hT⟩ := hT.cl 53 (fun j => 0) (by decide) (fun hq => absurd hq (by decide)) (fun K1 F1 hM hF => aw_53 _ (fun _ => trivial))
  have hk467 : K q1 = 30 := hM _ _ hk437 (by decide)
  have hk468 : K q3 = 31 := hM _ _ hk438 (by decide)
  have hk469 : K q6 = 32 := hM _ _ hk439 (by decide)
  have hk470 : K q10 = 31 := hM _ _ hk440 (by decide)
  have hk471 : K q15 = 34 := hM _ _ hk441 (by decide)
  have hk472 : K q21 = 35 := hM _ _ hk442 (by decide)
  have hk473 : K q28 = 36 := hM _ _ hk443 (by decide)
  have hk474 : K q36 = 37 := hM _ _ hk444 (by decide)
  have hk475 : K q45 = 38 := hM _ _ hk445 (by decide)
  have hk476 : K q55 = 38 := hM _ _ hk446 (by decide)
  have hk477 : K q66 = 38 := hM _ _ hk447 (by decide)
  have hk478 : K q78 = 38 := hM _ _ hk448 (by decide)
  have hk479 : K q91 = 42 := hM _ _ hk449 (by decide)
  have hk480 : K q105 = 43 := hM _ _ hk450 (by decide)
  have hk481 : K q120 = 44 := hM _ _ hk451 (by decide)
  have hk482 : K q136 = 45 := hM _ _ hk452 (by decide)
  have hk483 : K q153 = 47 := hM _ _ hk453 (by decide)
  have hk484 : K q171 = 49 := hM _ _ hk454 (by decide)
  have hk485 : K q190 = 49 := hM _ _ hk455 (by decide)
  have hk486 : K q210 = 48 := hM _ _ hk456 (by decide)
  have hk487 : K q231 = 46 := hM _ _ hk457 (by decide)
  have hk488 : K q253 = 48 := hM _ _ hk458 (by decide)
  have hk489 : K q276 = 47 := hM _ _ hk459 (by decide)
  have hk490 : K q300 = 50 := hM _ _ hk460 (by decide)
  have hk491 : K q325 = 48 := hM _ _ hk461 (by decide)
  have hk492 : K q351 = 47 := hM _ _ hk462 (by decide)
  have hk493 : K q378 = 47 := hM _ _ hk463 (by decide)
  have hk494 : K q406 = 51 := hM _ _ hk464 (by decide)
  have hk495 : K q435 = 52 := hM _ _ hk436 (by decide)
  have hM0 := KM.tr hM0 hM
  have hU := NU.tr hU hU9
  refine tx_putF (C := RX11) (T := TX11) (N := 52) (ci := 12) (ty := (.array .int)) S hK hT hS inX11 tyX11 tyX11_ok nmX11 0 rfl rfl 41 (by decide) kf_X11_109 rfl hnm rfl (by decide +kernel) rfl rfl (Nat.le_of_ble_eq_true rfl) dX11_init_522 (fun H locs hT hS => ?_)
  have hT : TX E K F (0, [0, 0, 0, 0, 0, (-2147483648), (-2147483648), 0, 0, 0, 0, 0, 0, (-1), 0, 0, 0, 0, 0, 0, 0], [(fun _ => 0), (fun _ => 0), (fun _ => 0), (fun _ => 0), (fun _ => 0), (fun _ => 0), (fun _ => 0), (fun _ => 0), (fun _ => 0), (fun _ => 0), (fun _ => 0)]) ((a, .inr (12, [.int 0, .ref q1, .ref q3, .ref q6, .ref q10, .ref q15, .int 0, .int 0, .ref q21, .ref q28, .ref q36, .ref q45, .ref q55, .ref q66, .ref q78, .ref q91, .int 0, .ref q105, .ref q120, .int 0, .int (-2147483648), .int (-2147483648), .ref q136, .int 0, .ref q153, .ref q171, .ref q190, .ref q210, .ref q231, .ref q253, .ref q276, .ref q300, .ref q325, .ref q351, .ref q378, .ref q406, .int 0, .int 0, .int 0, .int 0, .ref q435, .ref q465, .null, .int 0, .int 0, .int 0, .int 0, .null, .null, .null, .null, .null])) :: L) H := hT
  refine lv_aload_n hx hb dX11_init_525 rfl (lv_at hl 0 rfl) ?_
  refine lv_sipush (v := 2400) hx hb dX11_init_526 (by decide) ?_
  refine tx_na0 S hK hz hT hS (N := 2400) (by decide) (by decide) (Nat.le_of_ble_eq_true rfl) (Nat.le_of_ble_eq_true rfl) (Nat.le_of_ble_eq_true rfl) dX11_init_529 (fun q496 H hT hS => ?_)
  obtain ⟨K, F, hM, hk497, hU9, hT⟩ := hT.cl 54 (fun j => 0) (by decide) (fun hq => absurd hq (by decide)) (fun K1 F1 hM hF => aw_54 _ (fun _ => trivial))
  have hk498 : K q1 = 30 := hM _ _ hk467 (by decide)
  have hk499 : K q3 = 31 := hM _ _ hk468 (by decide)
  have hk500 : K q6 = 32 := hM _ _ hk469 (by decide)
  have hk501 : K q10 = 31 := hM _ _ hk470 (by decide)
  have hk502 : K q15 = 34 := hM _ _ hk471 (by decide)
  have hk503 : K q21 = 35 := hM _ _ hk472 (by decide)
  have hk504 : K q28 = 36 := hM _ _ hk473 (by decide)
  have hk505 : K q36 = 37 := hM _ _ hk474 (by decide)
  have hk506 : K q45 = 38 := hM _ _ hk475 (by decide)
  have hk507 : K q55 = 38 := hM _ _ hk476 (by decide)
  have hk508 : K q66 = 38 := hM _ _ hk477 (by decide)
  have hk509 : K q78 = 38 := hM _ _ hk478 (by decide)
  have hk510 : K q91 = 42 := hM _ _ hk479 (by decide)
  have hk511 : K q105 = 43 := hM _ _ hk480 (by decide)
  have hk512 : K q120 = 44 := hM _ _ hk481 (by decide)
  have hk513 : K q136 = 45 := hM _ _ hk482 (by decide)
  have hk514 : K q153 = 47 := hM _ _ hk483 (by decide)
  have hk515 : K q171 = 49 := hM _ _ hk484 (by decide)
  have hk516 : K q190 = 49 := hM _ _ hk485 (by decide)
  have hk517 : K q210 = 48 := hM _ _ hk486 (by decide)
  have hk518 : K q231 = 46 := hM _ _ hk487 (by decide)
  have hk519 : K q253 = 48 := hM _ _ hk488 (by decide)
  have hk520 : K q276 = 47 := hM _ _ hk489 (by decide)
  have hk521 : K q300 = 50 := hM _ _ hk490 (by decide)
  have hk522 : K q325 = 48 := hM _ _ hk491 (by decide)
  have hk523 : K q351 = 47 := hM _ _ hk492 (by decide)
  have hk524 : K q378 = 47 := hM _ _ hk493 (by decide)
  have hk525 : K q406 = 51 := hM _ _ hk494 (by decide)
  have hk526 : K q435 = 52 := hM _ _ hk495 (by decide)
  have hk527 : K q465 = 53 := hM _ _ hk466 (by decide)
  have hM0 := KM.tr hM0 hM
  have hU := NU.tr hU hU9
  refine tx_putF (C := RX11) (T := TX11) (N := 52) (ci := 12) (ty := (.array .int)) S hK hT hS inX11 tyX11 tyX11_ok nmX11 0 rfl rfl 42 (by decide) kf_X11_112 rfl hnm rfl (by decide +kernel) rfl rfl (Nat.le_of_ble_eq_true rfl) dX11_init_531 (fun H locs hT hS => ?_)
  have hT : TX E K F (0, [0, 0, 0, 0, 0, (-2147483648), (-2147483648), 0, 0, 0, 0, 0, 0, (-1), 0, 0, 0, 0, 0, 0, 0], [(fun _ => 0), (fun _ => 0), (fun _ => 0), (fun _ => 0), (fun _ => 0), (fun _ => 0), (fun _ => 0), (fun _ => 0), (fun _ => 0), (fun _ => 0), (fun _ => 0)]) ((a, .inr (12, [.int 0, .ref q1, .ref q3, .ref q6, .ref q10, .ref q15, .int 0, .int 0, .ref q21, .ref q28, .ref q36, .ref q45, .ref q55, .ref q66, .ref q78, .ref q91, .int 0, .ref q105, .ref q120, .int 0, .int (-2147483648), .int (-2147483648), .ref q136, .int 0, .ref q153, .ref q171, .ref q190, .ref q210, .ref q231, .ref q253, .ref q276, .ref q300, .ref q325, .ref q351, .ref q378, .ref q406, .int 0, .int 0, .int 0, .int 0, .ref q435, .ref q465, .ref q496, .int 0, .int 0, .int 0, .int 0, .null, .null, .null, .null, .null])) :: L) H := hT
  refine lv_aload_n hx hb dX11_init_534 rfl (lv_at hl 0 rfl) ?_
  refine lv_iconst (v := (-1)) hx hb dX11_init_535 (by decide) ?_
  refine tx_put (C := RX11) (T := TX11) (N := 52) (ci := 12) (ty := .int) S hK hT hS inX11 tyX11 tyX11_ok nmX11 0 rfl rfl 44 (by decide) kf_X11_115 rfl (by decide +kernel) rfl rfl (Nat.le_of_ble_eq_true rfl) dX11_init_536 (fun H locs hT hS => ?_)
  have hT : TX E K F (0, [0, 0, 0, 0, 0, (-2147483648), (-2147483648), 0, 0, 0, 0, 0, 0, (-1), 0, 0, 0, 0, 0, 0, 0], [(fun _ => 0), (fun _ => 0), (fun _ => 0), (fun _ => 0), (fun _ => 0), (fun _ => 0), (fun _ => 0), (fun _ => 0), (fun _ => 0), (fun _ => 0), (fun _ => 0)]) ((a, .inr (12, [.int 0, .ref q1, .ref q3, .ref q6, .ref q10, .ref q15, .int 0, .int 0, .ref q21, .ref q28, .ref q36, .ref q45, .ref q55, .ref q66, .ref q78, .ref q91, .int 0, .ref q105, .ref q120, .int 0, .int (-2147483648), .int (-2147483648), .ref q136, .int 0, .ref q153, .ref q171, .ref q190, .ref q210, .ref q231, .ref q253, .ref q276, .ref q300, .ref q325, .ref q351, .ref q378, .ref q406, .int 0, .int 0, .int 0, .int 0, .ref q435, .ref q465, .ref q496, .int 0, .int (-1), .int 0, .int 0, .null, .null, .null, .null, .null])) :: L) H := hT
  refine lv_aload_n hx hb dX11_init_539 rfl (lv_at hl 0 rfl) ?_
  refine lv_bipush (v := 90) hx hb dX11_init_540 (by decide) ?_
  refine tx_na0 S hK hz hT hS (N := 90) (by decide) (by decide) (Nat.le_of_ble_eq_true rfl) (Nat.le_of_ble_eq_true rfl) (Nat.le_of_ble_eq_true rfl) dX11_init_542 (fun q528 H hT hS => ?_)
  obtain ⟨K, F, hM, hk529, hU9, hT⟩ := hT.cl 55 (fun j => 0) (by decide) (fun _ => NU.no hU (hN 55 (by decide)) (by decide) (by decide)) (fun K1 F1 hM hF => ⟨0, 90, fun _ => 0, rfl, rfl, fun _ => trivial, fun j9 hj => by cases hj; rfl⟩)
  have hk530 : K q1 = 30 := hM _ _ hk498 (by decide)
  have hk531 : K q3 = 31 := hM _ _ hk499 (by decide)
  have hk532 : K q6 = 32 := hM _ _ hk500 (by decide)
  have hk533 : K q10 = 31 := hM _ _ hk501 (by decide)
  have hk534 : K q15 = 34 := hM _ _ hk502 (by decide)
  have hk535 : K q21 = 35 := hM _ _ hk503 (by decide)
  have hk536 : K q28 = 36 := hM _ _ hk504 (by decide)
  have hk537 : K q36 = 37 := hM _ _ hk505 (by decide)
  have hk538 : K q45 = 38 := hM _ _ hk506 (by decide)
  have hk539 : K q55 = 38 := hM _ _ hk507 (by decide)
  have hk540 : K q66 = 38 := hM _ _ hk508 (by decide)
  have hk541 : K q78 = 38 := hM _ _ hk509 (by decide)
  have hk542 : K q91 = 42 := hM _ _ hk510 (by decide)
  have hk543 : K q105 = 43 := hM _ _ hk511 (by decide)
  have hk544 : K q120 = 44 := hM _ _ hk512 (by decide)
  have hk545 : K q136 = 45 := hM _ _ hk513 (by decide)
  have hk546 : K q153 = 47 := hM _ _ hk514 (by decide)
  have hk547 : K q171 = 49 := hM _ _ hk515 (by decide)
  have hk548 : K q190 = 49 := hM _ _ hk516 (by decide)
  have hk549 : K q210 = 48 := hM _ _ hk517 (by decide)
  have hk550 : K q231 = 46 := hM _ _ hk518 (by decide)
  have hk551 : K q253 = 48 := hM _ _ hk519 (by decide)
  have hk552 : K q276 = 47 := hM _ _ hk520 (by decide)
  have hk553 : K q300 = 50 := hM _ _ hk521 (by decide)
  have hk554 : K q325 = 48 := hM _ _ hk522 (by decide)
  have hk555 : K q351 = 47 := hM _ _ hk523 (by decide)
  have hk556 : K q378 = 47 := hM _ _ hk524 (by decide)
  have hk557 : K q406 = 51 := hM _ _ hk525 (by decide)
  have hk558 : K q435 = 52 := hM _ _ hk526 (by decide)
  have hk559 : K q465 = 53 := hM _ _ hk527 (by decide)
  have hk560 : K q496 = 54 := hM _ _ hk497 (by decide)
  have hM0 := KM.tr hM0 hM
  have hU := NU.tr hU hU9
  refine tx_putF (C := RX11) (T := TX11) (N := 52) (ci := 12) (ty := (.array .int)) S hK hT hS inX11 tyX11 tyX11_ok nmX11 0 rfl rfl 47 (by decide) kf_X11_118 rfl hnm rfl (by decide +kernel) rfl rfl (Nat.le_of_ble_eq_true rfl) dX11_init_544 (fun H locs hT hS => ?_)
  have hT : TX E K F (0, [0, 0, 0, 0, 0, (-2147483648), (-2147483648), 0, 0, 0, 0, 0, 0, (-1), 0, 0, 0, 0, 0, 0, 0], [(fun _ => 0), (fun _ => 0), (fun _ => 0), (fun _ => 0), (fun _ => 0), (fun _ => 0), (fun _ => 0), (fun _ => 0), (fun _ => 0), (fun _ => 0), (fun _ => 0)]) ((a, .inr (12, [.int 0, .ref q1, .ref q3, .ref q6, .ref q10, .ref q15, .int 0, .int 0, .ref q21, .ref q28, .ref q36, .ref q45, .ref q55, .ref q66, .ref q78, .ref q91, .int 0, .ref q105, .ref q120, .int 0, .int (-2147483648), .int (-2147483648), .ref q136, .int 0, .ref q153, .ref q171, .ref q190, .ref q210, .ref q231, .ref q253, .ref q276, .ref q300, .ref q325, .ref q351, .ref q378, .ref q406, .int 0, .int 0, .int 0, .int 0, .ref q435, .ref q465, .ref q496, .int 0, .int (-1), .int 0, .int 0, .ref q528, .null, .null, .null, .null])) :: L) H := hT
  refine lv_aload_n hx hb dX11_init_547 rfl (lv_at hl 0 rfl) ?_
  refine lv_bipush (v := 90) hx hb dX11_init_548 (by decide) ?_
  refine tx_na0 S hK hz hT hS (N := 90) (by decide) (by decide) (Nat.le_of_ble_eq_true rfl) (Nat.le_of_ble_eq_true rfl) (Nat.le_of_ble_eq_true rfl) dX11_init_550 (fun q561 H hT hS => ?_)
  obtain ⟨K, F, hM, hk562, hU9, hT⟩ := hT.cl 56 (fun j => 0) (by decide) (fun _ => NU.no hU (hN 56 (by decide)) (by decide) (by decide)) (fun K1 F1 hM hF => ⟨0, 90, fun _ => 0, rfl, rfl, fun _ => trivial, fun j9 hj => by cases hj; rfl⟩)
  have hk563 : K q1 = 30 := hM _ _ hk530 (by decide)
  have hk564 : K q3 = 31 := hM _ _ hk531 (by decide)
  have hk565 : K q6 = 32 := hM _ _ hk532 (by decide)
  have hk566 : K q10 = 31 := hM _ _ hk533 (by decide)
  have hk567 : K q15 = 34 := hM _ _ hk534 (by decide)
  have hk568 : K q21 = 35 := hM _ _ hk535 (by decide)
  have hk569 : K q28 = 36 := hM _ _ hk536 (by decide)
  have hk570 : K q36 = 37 := hM _ _ hk537 (by decide)
  have hk571 : K q45 = 38 := hM _ _ hk538 (by decide)
  have hk572 : K q55 = 38 := hM _ _ hk539 (by decide)
  have hk573 : K q66 = 38 := hM _ _ hk540 (by decide)
  have hk574 : K q78 = 38 := hM _ _ hk541 (by decide)
  have hk575 : K q91 = 42 := hM _ _ hk542 (by decide)
  have hk576 : K q105 = 43 := hM _ _ hk543 (by decide)
  have hk577 : K q120 = 44 := hM _ _ hk544 (by decide)
  have hk578 : K q136 = 45 := hM _ _ hk545 (by decide)
  have hk579 : K q153 = 47 := hM _ _ hk546 (by decide)
  have hk580 : K q171 = 49 := hM _ _ hk547 (by decide)
  have hk581 : K q190 = 49 := hM _ _ hk548 (by decide)
  have hk582 : K q210 = 48 := hM _ _ hk549 (by decide)
  have hk583 : K q231 = 46 := hM _ _ hk550 (by decide)
  have hk584 : K q253 = 48 := hM _ _ hk551 (by decide)
  have hk585 : K q276 = 47 := hM _ _ hk552 (by decide)
  have hk586 : K q300 = 50 := hM _ _ hk553 (by decide)
  have hk587 : K q325 = 48 := hM _ _ hk554 (by decide)
  have hk588 : K q351 = 47 := hM _ _ hk555 (by decide)
  have hk589 : K q378 = 47 := hM _ _ hk556 (by decide)
  have hk590 : K q406 = 51 := hM _ _ hk557 (by decide)
  have hk591 : K q435 = 52 := hM _ _ hk558 (by decide)
  have hk592 : K q465 = 53 := hM _ _ hk559 (by decide)
  have hk593 : K q496 = 54 := hM _ _ hk560 (by decide)
  have hk594 : K q528 = 55 := hM _ _ hk529 (by decide)
  have hM0 := KM.tr hM0 hM
  have hU := NU.tr hU hU9
  refine tx_putF (C := RX11) (T := TX11) (N := 52) (ci := 12) (ty := (.array .int)) S hK hT hS inX11 tyX11 tyX11_ok nmX11 0 rfl rfl 48 (by decide) kf_X11_121 rfl hnm rfl (by decide +kernel) rfl rfl (Nat.le_of_ble_eq_true rfl) dX11_init_552 (fun H locs hT hS => ?_)
  have hT : TX E K F (0, [0, 0, 0, 0, 0, (-2147483648), (-2147483648), 0, 0, 0, 0, 0, 0, (-1), 0, 0, 0, 0, 0, 0, 0], [(fun _ => 0), (fun _ => 0), (fun _ => 0), (fun _ => 0), (fun _ => 0), (fun _ => 0), (fun _ => 0), (fun _ => 0), (fun _ => 0), (fun _ => 0), (fun _ => 0)]) ((a, .inr (12, [.int 0, .ref q1, .ref q3, .ref q6, .ref q10, .ref q15, .int 0, .int 0, .ref q21, .ref q28, .ref q36, .ref q45, .ref q55, .ref q66, .ref q78, .ref q91, .int 0, .ref q105, .ref q120, .int 0, .int (-2147483648), .int (-2147483648), .ref q136, .int 0, .ref q153, .ref q171, .ref q190, .ref q210, .ref q231, .ref q253, .ref q276, .ref q300, .ref q325, .ref q351, .ref q378, .ref q406, .int 0, .int 0, .int 0, .int 0, .ref q435, .ref q465, .ref q496, .int 0, .int (-1), .int 0, .int 0, .ref q528, .ref q561, .null, .null, .null])) :: L) H := hT
  refine lv_aload_n hx hb dX11_init_555 rfl (lv_at hl 0 rfl) ?_
  refine lv_bipush (v := 90) hx hb dX11_init_556 (by decide) ?_
  refine tx_na0 S hK hz hT hS (N := 90) (by decide) (by decide) (Nat.le_of_ble_eq_true rfl) (Nat.le_of_ble_eq_true rfl) (Nat.le_of_ble_eq_true rfl) dX11_init_558 (fun q595 H hT hS => ?_)
  obtain ⟨K, F, hM, hk596, hU9, hT⟩ := hT.cl 57 (fun j => 0) (by decide) (fun _ => NU.no hU (hN 57 (by decide)) (by decide) (by decide)) (fun K1 F1 hM hF => ⟨0, 90, fun _ => 0, rfl, rfl, fun _ => trivial, fun j9 hj => by cases hj; rfl⟩)
  have hk597 : K q1 = 30 := hM _ _ hk563 (by decide)
  have hk598 : K q3 = 31 := hM _ _ hk564 (by decide)
  have hk599 : K q6 = 32 := hM _ _ hk565 (by decide)
  have hk600 : K q10 = 31 := hM _ _ hk566 (by decide)
  have hk601 : K q15 = 34 := hM _ _ hk567 (by decide)
  have hk602 : K q21 = 35 := hM _ _ hk568 (by decide)
  have hk603 : K q28 = 36 := hM _ _ hk569 (by decide)
  have hk604 : K q36 = 37 := hM _ _ hk570 (by decide)
  have hk605 : K q45 = 38 := hM _ _ hk571 (by decide)
  have hk606 : K q55 = 38 := hM _ _ hk572 (by decide)
  have hk607 : K q66 = 38 := hM _ _ hk573 (by decide)
  have hk608 : K q78 = 38 := hM _ _ hk574 (by decide)
  have hk609 : K q91 = 42 := hM _ _ hk575 (by decide)
  have hk610 : K q105 = 43 := hM _ _ hk576 (by decide)
  have hk611 : K q120 = 44 := hM _ _ hk577 (by decide)
  have hk612 : K q136 = 45 := hM _ _ hk578 (by decide)
  have hk613 : K q153 = 47 := hM _ _ hk579 (by decide)
  have hk614 : K q171 = 49 := hM _ _ hk580 (by decide)
  have hk615 : K q190 = 49 := hM _ _ hk581 (by decide)
  have hk616 : K q210 = 48 := hM _ _ hk582 (by decide)
  have hk617 : K q231 = 46 := hM _ _ hk583 (by decide)
  have hk618 : K q253 = 48 := hM _ _ hk584 (by decide)
  have hk619 : K q276 = 47 := hM _ _ hk585 (by decide)
  have hk620 : K q300 = 50 := hM _ _ hk586 (by decide)
  have hk621 : K q325 = 48 := hM _ _ hk587 (by decide)
  have hk622 : K q351 = 47 := hM _ _ hk588 (by decide)
  have hk623 : K q378 = 47 := hM _ _ hk589 (by decide)
  have hk624 : K q406 = 51 := hM _ _ hk590 (by decide)
  have hk625 : K q435 = 52 := hM _ _ hk591 (by decide)
  have hk626 : K q465 = 53 := hM _ _ hk592 (by decide)
  have hk627 : K q496 = 54 := hM _ _ hk593 (by decide)
  have hk628 : K q528 = 55 := hM _ _ hk594 (by decide)
  have hk629 : K q561 = 56 := hM _ _ hk562 (by decide)
  have hM0 := KM.tr hM0 hM
  have hU := NU.tr hU hU9
  refine tx_putF (C := RX11) (T := TX11) (N := 52) (ci := 12) (ty := (.array .int)) S hK hT hS inX11 tyX11 tyX11_ok nmX11 0 rfl rfl 49 (by decide) kf_X11_124 rfl hnm rfl (by decide +kernel) rfl rfl (Nat.le_of_ble_eq_true rfl) dX11_init_560 (fun H locs hT hS => ?_)
  have hT : TX E K F (0, [0, 0, 0, 0, 0, (-2147483648), (-2147483648), 0, 0, 0, 0, 0, 0, (-1), 0, 0, 0, 0, 0, 0, 0], [(fun _ => 0), (fun _ => 0), (fun _ => 0), (fun _ => 0), (fun _ => 0), (fun _ => 0), (fun _ => 0), (fun _ => 0), (fun _ => 0), (fun _ => 0), (fun _ => 0)]) ((a, .inr (12, [.int 0, .ref q1, .ref q3, .ref q6, .ref q10, .ref q15, .int 0, .int 0, .ref q21, .ref q28, .ref q36, .ref q45, .ref q55, .ref q66, .ref q78, .ref q91, .int 0, .ref q105, .ref q120, .int 0, .int (-2147483648), .int (-2147483648), .ref q136, .int 0, .ref q153, .ref q171, .ref q190, .ref q210, .ref q231, .ref q253, .ref q276, .ref q300, .ref q325, .ref q351, .ref q378, .ref q406, .int 0, .int 0, .int 0, .int 0, .ref q435, .ref q465, .ref q496, .int 0, .int (-1), .int 0, .int 0, .ref q528, .ref q561, .ref q595, .null, .null])) :: L) H := hT
  refine lv_aload_n hx hb dX11_init_563 rfl (lv_at hl 0 rfl) ?_
  refine lv_bipush (v := 90) hx hb dX11_init_564 (by decide) ?_
  refine tx_na0 S hK hz hT hS (N := 90) (by decide) (by decide) (Nat.le_of_ble_eq_true rfl) (Nat.le_of_ble_eq_true rfl) (Nat.le_of_ble_eq_true rfl) dX11_init_566 (fun q630 H hT hS => ?_)
  obtain ⟨K, F, hM, hk631, hU9, hT⟩ := hT.cl 58 (fun j => 0) (by decide) (fun _ => NU.no hU (hN 58 (by decide)) (by decide) (by decide)) (fun K1 F1 hM hF => ⟨0, 90, fun _ => 0, rfl, rfl, fun _ => trivial, fun j9 hj => by cases hj; rfl⟩)
  have hk632 : K q1 = 30 := hM _ _ hk597 (by decide)
  have hk633 : K q3 = 31 := hM _ _ hk598 (by decide)
  have hk634 : K q6 = 32 := hM _ _ hk599 (by decide)
  have hk635 : K q10 = 31 := hM _ _ hk600 (by decide)
  have hk636 : K q15 = 34 := hM _ _ hk601 (by decide)
  have hk637 : K q21 = 35 := hM _ _ hk602 (by decide)
  have hk638 : K q28 = 36 := hM _ _ hk603 (by decide)
  have hk639 : K q36 = 37 := hM _ _ hk604 (by decide)
  have hk640 : K q45 = 38 := hM _ _ hk605 (by decide)
  have hk641 : K q55 = 38 := hM _ _ hk606 (by decide)
  have hk642 : K q66 = 38 := hM _ _ hk607 (by decide)
  have hk643 : K q78 = 38 := hM _ _ hk608 (by decide)
  have hk644 : K q91 = 42 := hM _ _ hk609 (by decide)
  have hk645 : K q105 = 43 := hM _ _ hk610 (by decide)
  have hk646 : K q120 = 44 := hM _ _ hk611 (by decide)
  have hk647 : K q136 = 45 := hM _ _ hk612 (by decide)
  have hk648 : K q153 = 47 := hM _ _ hk613 (by decide)
  have hk649 : K q171 = 49 := hM _ _ hk614 (by decide)
  have hk650 : K q190 = 49 := hM _ _ hk615 (by decide)
  have hk651 : K q210 = 48 := hM _ _ hk616 (by decide)
  have hk652 : K q231 = 46 := hM _ _ hk617 (by decide)
  have hk653 : K q253 = 48 := hM _ _ hk618 (by decide)
  have hk654 : K q276 = 47 := hM _ _ hk619 (by decide)
  have hk655 : K q300 = 50 := hM _ _ hk620 (by decide)
  have hk656 : K q325 = 48 := hM _ _ hk621 (by decide)
  have hk657 : K q351 = 47 := hM _ _ hk622 (by decide)
  have hk658 : K q378 = 47 := hM _ _ hk623 (by decide)
  have hk659 : K q406 = 51 := hM _ _ hk624 (by decide)
  have hk660 : K q435 = 52 := hM _ _ hk625 (by decide)
  have hk661 : K q465 = 53 := hM _ _ hk626 (by decide)
  have hk662 : K q496 = 54 := hM _ _ hk627 (by decide)
  have hk663 : K q528 = 55 := hM _ _ hk628 (by decide)
  have hk664 : K q561 = 56 := hM _ _ hk629 (by decide)
  have hk665 : K q595 = 57 := hM _ _ hk596 (by decide)
  have hM0 := KM.tr hM0 hM
  have hU := NU.tr hU hU9
  refine tx_putF (C := RX11) (T := TX11) (N := 52) (ci := 12) (ty := (.array .int)) S hK hT hS inX11 tyX11 tyX11_ok nmX11 0 rfl rfl 50 (by decide) kf_X11_127 rfl hnm rfl (by decide +kernel) rfl rfl (Nat.le_of_ble_eq_true rfl) dX11_init_568 (fun H locs hT hS => ?_)
  have hT : TX E K F (0, [0, 0, 0, 0, 0, (-2147483648), (-2147483648), 0, 0, 0, 0, 0, 0, (-1), 0, 0, 0, 0, 0, 0, 0], [(fun _ => 0), (fun _ => 0), (fun _ => 0), (fun _ => 0), (fun _ => 0), (fun _ => 0), (fun _ => 0), (fun _ => 0), (fun _ => 0), (fun _ => 0), (fun _ => 0)]) ((a, .inr (12, [.int 0, .ref q1, .ref q3, .ref q6, .ref q10, .ref q15, .int 0, .int 0, .ref q21, .ref q28, .ref q36, .ref q45, .ref q55, .ref q66, .ref q78, .ref q91, .int 0, .ref q105, .ref q120, .int 0, .int (-2147483648), .int (-2147483648), .ref q136, .int 0, .ref q153, .ref q171, .ref q190, .ref q210, .ref q231, .ref q253, .ref q276, .ref q300, .ref q325, .ref q351, .ref q378, .ref q406, .int 0, .int 0, .int 0, .int 0, .ref q435, .ref q465, .ref q496, .int 0, .int (-1), .int 0, .int 0, .ref q528, .ref q561, .ref q595, .ref q630, .null])) :: L) H := hT
  refine lv_aload_n hx hb dX11_init_571 rfl (lv_at hl 0 rfl) ?_
  refine lv_bipush (v := 90) hx hb dX11_init_572 (by decide) ?_
  refine tx_na3 S hK hz hT hS (N := 90) (by decide) (by decide) (Nat.le_of_ble_eq_true rfl) (Nat.le_of_ble_eq_true rfl) (Nat.le_of_ble_eq_true rfl) dX11_init_574 (fun q666 H hT hS => ?_)
  obtain ⟨K, F, hM, hk667, hU9, hT⟩ := hT.cl 59 (fun j => 0) (by decide) (fun _ => NU.no hU (hN 59 (by decide)) (by decide) (by decide)) (fun K1 F1 hM hF => ⟨3, 90, fun _ => 0, rfl, rfl, fun _ => (show narrow .boolean (.int 0) = .int 0 from rfl), fun j9 hj => by cases hj; rfl⟩)
  have hk668 : K q1 = 30 := hM _ _ hk632 (by decide)
  have hk669 : K q3 = 31 := hM _ _ hk633 (by decide)
  have hk670 : K q6 = 32 := hM _ _ hk634 (by decide)
  have hk671 : K q10 = 31 := hM _ _ hk635 (by decide)
  have hk672 : K q15 = 34 := hM _ _ hk636 (by decide)
  have hk673 : K q21 = 35 := hM _ _ hk637 (by decide)
  have hk674 : K q28 = 36 := hM _ _ hk638 (by decide)
  have hk675 : K q36 = 37 := hM _ _ hk639 (by decide)
  have hk676 : K q45 = 38 := hM _ _ hk640 (by decide)
  have hk677 : K q55 = 38 := hM _ _ hk641 (by decide)
  have hk678 : K q66 = 38 := hM _ _ hk642 (by decide)
  have hk679 : K q78 = 38 := hM _ _ hk643 (by decide)
  have hk680 : K q91 = 42 := hM _ _ hk644 (by decide)
  have hk681 : K q105 = 43 := hM _ _ hk645 (by decide)
  have hk682 : K q120 = 44 := hM _ _ hk646 (by decide)
  have hk683 : K q136 = 45 := hM _ _ hk647 (by decide)
  have hk684 : K q153 = 47 := hM _ _ hk648 (by decide)
  have hk685 : K q171 = 49 := hM _ _ hk649 (by decide)
  have hk686 : K q190 = 49 := hM _ _ hk650 (by decide)
  have hk687 : K q210 = 48 := hM _ _ hk651 (by decide)
  have hk688 : K q231 = 46 := hM _ _ hk652 (by decide)
  have hk689 : K q253 = 48 := hM _ _ hk653 (by decide)
  have hk690 : K q276 = 47 := hM _ _ hk654 (by decide)
  have hk691 : K q300 = 50 := hM _ _ hk655 (by decide)
  have hk692 : K q325 = 48 := hM _ _ hk656 (by decide)
  have hk693 : K q351 = 47 := hM _ _ hk657 (by decide)
  have hk694 : K q378 = 47 := hM _ _ hk658 (by decide)
  have hk695 : K q406 = 51 := hM _ _ hk659 (by decide)
  have hk696 : K q435 = 52 := hM _ _ hk660 (by decide)
  have hk697 : K q465 = 53 := hM _ _ hk661 (by decide)
  have hk698 : K q496 = 54 := hM _ _ hk662 (by decide)
  have hk699 : K q528 = 55 := hM _ _ hk663 (by decide)
  have hk700 : K q561 = 56 := hM _ _ hk664 (by decide)
  have hk701 : K q595 = 57 := hM _ _ hk665 (by decide)
  have hk702 : K q630 = 58 := hM _ _ hk631 (by decide)
  have hM0 := KM.tr hM0 hM
  have hU := NU.tr hU hU9
  refine tx_putF (C := RX11) (T := TX11) (N := 52) (ci := 12) (ty := (.array .boolean)) S hK hT hS inX11 tyX11 tyX11_ok nmX11 0 rfl rfl 51 (by decide) kf_X11_130 rfl hnm rfl (by decide +kernel) rfl rfl (Nat.le_of_ble_eq_true rfl) dX11_init_576 (fun H locs hT hS => ?_)
  have hT : TX E K F (0, [0, 0, 0, 0, 0, (-2147483648), (-2147483648), 0, 0, 0, 0, 0, 0, (-1), 0, 0, 0, 0, 0, 0, 0], [(fun _ => 0), (fun _ => 0), (fun _ => 0), (fun _ => 0), (fun _ => 0), (fun _ => 0), (fun _ => 0), (fun _ => 0), (fun _ => 0), (fun _ => 0), (fun _ => 0)]) ((a, .inr (12, [.int 0, .ref q1, .ref q3, .ref q6, .ref q10, .ref q15, .int 0, .int 0, .ref q21, .ref q28, .ref q36, .ref q45, .ref q55, .ref q66, .ref q78, .ref q91, .int 0, .ref q105, .ref q120, .int 0, .int (-2147483648), .int (-2147483648), .ref q136, .int 0, .ref q153, .ref q171, .ref q190, .ref q210, .ref q231, .ref q253, .ref q276, .ref q300, .ref q325, .ref q351, .ref q378, .ref q406, .int 0, .int 0, .int 0, .int 0, .ref q435, .ref q465, .ref q496, .int 0, .int (-1), .int 0, .int 0, .ref q528, .ref q561, .ref q595, .ref q630, .ref q666])) :: L) H := hT
  refine lv_iconst (v := 0) hx hb dX11_init_579 (by decide) ?_
  have hR : RV (fun _ => 0) := RV0
  refine lv_istore_n (lv' := [(1, .int 0), (0, .ref a)]) hx hb dX11_init_580 rfl hl (by decide) rfl (fun ls hl => ?_)
  have L581 : ∀ (N705 : Nat) (x703 : Int32) (f704 : Nat → Int32) (H : Heap) (locs : List Loc) (ls : Array Slot), RV f704 → x703.toInt ≤ 12 → (0 : Int) ≤ x703.toInt → 2147483648 - x703.toInt < ((N705 : Nat) : Int) → TX E K F (0, [0, 0, 0, 0, 0, (-2147483648), (-2147483648), 0, 0, 0, 0, 0, 0, (-1), 0, 0, 0, 0, 0, 0, 0], [(fun _ => 0), f704, (fun _ => 0), (fun _ => 0), (fun _ => 0), (fun _ => 0), (fun _ => 0), (fun _ => 0), (fun _ => 0), (fun _ => 0), (fun _ => 0)]) ((a, .inr (12, [.int 0, .ref q1, .ref q3, .ref q6, .ref q10, .ref q15, .int 0, .int 0, .ref q21, .ref q28, .ref q36, .ref q45, .ref q55, .ref q66, .ref q78, .ref q91, .int 0, .ref q105, .ref q120, .int 0, .int (-2147483648), .int (-2147483648), .ref q136, .int 0, .ref q153, .ref q171, .ref q190, .ref q210, .ref q231, .ref q253, .ref q276, .ref q300, .ref q325, .ref q351, .ref q378, .ref q406, .int 0, .int 0, .int 0, .int 0, .ref q435, .ref q465, .ref q496, .int 0, .int (-1), .int 0, .int 0, .ref q528, .ref q561, .ref q595, .ref q630, .ref q666])) :: L) H → va_S (xA E) s.heap H locs → lv_has ls 2 [(0, .ref a), (1, .int x703)] → W p l e rm_X11_init s m args below meth c H locs 36 24231 Q (F0 m 581 ls []) := by
    intro N705
    induction N705 with
    | zero =>
      intro x703 f704 H locs ls hR hf706 hf707 hm708
      exact absurd hm708 (z_X11_init_1 x703.toInt hf706 hf707 (xr x703))
    | succ N705 ih709 =>
      intro x703 f704 H locs ls hR hf706 hf707 hm708 hT hS hl
      refine lv_iload_n hx hb dX11_init_581 rfl (lv_at hl 1 rfl) ?_
      refine lv_bipush (v := 12) hx hb dX11_init_582 (by decide) ?_
      refine xi_cge (tgt := 603) hx hb (rfl : Int32.toInt x703 = x703.toInt) ((by decide) : Int32.toInt 12 = (12 : Int)) dX11_init_584 (by decide) (fun c710 => ?_) (fun c710 => ?_)
      · obtain ⟨K, F, hM, hk711, hU9, hT⟩ := hT.cl 13 (fun j => ([0, q1, q3, q6, q10, q15, 0, 0, q21, q28, q36, q45, q55, q66, q78, q91, 0, q105, q120, 0, 0, 0, q136, 0, q153, q171, q190, q210, q231, q253, q276, q300, q325, q351, q378, q406, 0, 0, 0, 0, q435, q465, q496, 0, 0, 0, 0, q528, q561, q595, q630, q666] : List Nat).getD j 0) (by decide) (fun _ => NU.no hU (hN 13 (by decide)) (by decide) (by decide)) (fun K1 F1 hM hF => ⟨by rw [hF 1, hF 2, hF 3, hF 4, hF 5, hF 8, hF 9, hF 10, hF 11, hF 12, hF 13, hF 14, hF 15, hF 17, hF 18, hF 22, hF 24, hF 25, hF 26, hF 27, hF 28, hF 29, hF 30, hF 31, hF 32, hF 33, hF 34, hF 35, hF 40, hF 41, hF 42, hF 47, hF 48, hF 49, hF 50, hF 51]; rfl, by rw [hF 1]; exact hM _ _ hk668 (by decide), by rw [hF 2]; exact hM _ _ hk669 (by decide), by rw [hF 3]; exact hM _ _ hk670 (by decide), by rw [hF 4]; exact hM _ _ hk671 (by decide), by rw [hF 5]; exact hM _ _ hk672 (by decide), by rw [hF 8]; exact hM _ _ hk673 (by decide), by rw [hF 9]; exact hM _ _ hk674 (by decide), by rw [hF 10]; exact hM _ _ hk675 (by decide), by rw [hF 11]; exact hM _ _ hk676 (by decide), by rw [hF 12]; exact hM _ _ hk677 (by decide), by rw [hF 13]; exact hM _ _ hk678 (by decide), by rw [hF 14]; exact hM _ _ hk679 (by decide), by rw [hF 15]; exact hM _ _ hk680 (by decide), by rw [hF 17]; exact hM _ _ hk681 (by decide), by rw [hF 18]; exact hM _ _ hk682 (by decide), by rw [hF 22]; exact hM _ _ hk683 (by decide), by rw [hF 24]; exact hM _ _ hk684 (by decide), by rw [hF 25]; exact hM _ _ hk685 (by decide), by rw [hF 26]; exact hM _ _ hk686 (by decide), by rw [hF 27]; exact hM _ _ hk687 (by decide), by rw [hF 28]; exact hM _ _ hk688 (by decide), by rw [hF 29]; exact hM _ _ hk689 (by decide), by rw [hF 30]; exact hM _ _ hk690 (by decide), by rw [hF 31]; exact hM _ _ hk691 (by decide), by rw [hF 32]; exact hM _ _ hk692 (by decide), by rw [hF 33]; exact hM _ _ hk693 (by decide), by rw [hF 34]; exact hM _ _ hk694 (by decide), by rw [hF 35]; exact hM _ _ hk695 (by decide), by rw [hF 40]; exact hM _ _ hk696 (by decide), by rw [hF 41]; exact hM _ _ hk697 (by decide), by rw [hF 42]; exact hM _ _ hk698 (by decide), by rw [hF 47]; exact hM _ _ hk699 (by decide), by rw [hF 48]; exact hM _ _ hk700 (by decide), by rw [hF 49]; exact hM _ _ hk701 (by decide), by rw [hF 50]; exact hM _ _ hk702 (by decide), by rw [hF 51]; exact hM _ _ hk667 (by decide)⟩)
        have hM0 := KM.tr hM0 hM
        have hU := NU.tr hU hU9
        exact x_rv hx hb hr hlk hQ (Nat.le_of_ble_eq_true rfl) (Nat.le_of_ble_eq_true rfl) hS dX11_init_603 (f704, K, F) ⟨⟨hM0, hk711, NU.sub hU (by decide)⟩, hR⟩ hT
      · refine lv_aload_n hx hb dX11_init_587 rfl (lv_at hl 0 rfl) ?_
        refine tx_get (C := RX11) (T := TX11) (N := 52) (ci := 12) S hK hT inX11 0 rfl rfl 10 (by decide) kf_X11_33 rfl dX11_init_588 ?_
        refine lv_bipush (v := 10) hx hb dX11_init_591 (by decide) ?_
        refine lv_iload_n hx hb dX11_init_593 rfl (lv_at hl 1 rfl) ?_
        refine xi_imul hx hb ((by decide) : Int32.toInt 10 = (10 : Int)) (rfl : Int32.toInt x703 = x703.toInt) dX11_init_594 (fun x712 t713 => ?_)
        refine lv_iconst (v := (-1)) hx hb dX11_init_595 (by decide) ?_
        refine tx_tst S hK hT hS hk675 (at_37 (f := f704) rfl) (fun _ => bt_37 (Nat.le_of_ble_eq_true rfl)) (by decide) (by decide) xti_37 (z_X11_init_2 x703.toInt x712.toInt N705 hf706 hf707 hm708 c710 t713 (xr x703) (xr x712)) dX11_init_596 (fun f714 H locs hu715 hT hS => ?_)
        have hT : TX E K F (0, [0, 0, 0, 0, 0, (-2147483648), (-2147483648), 0, 0, 0, 0, 0, 0, (-1), 0, 0, 0, 0, 0, 0, 0], [(fun _ => 0), f714, (fun _ => 0), (fun _ => 0), (fun _ => 0), (fun _ => 0), (fun _ => 0), (fun _ => 0), (fun _ => 0), (fun _ => 0), (fun _ => 0)]) ((a, .inr (12, [.int 0, .ref q1, .ref q3, .ref q6, .ref q10, .ref q15, .int 0, .int 0, .ref q21, .ref q28, .ref q36, .ref q45, .ref q55, .ref q66, .ref q78, .ref q91, .int 0, .ref q105, .ref q120, .int 0, .int (-2147483648), .int (-2147483648), .ref q136, .int 0, .ref q153, .ref q171, .ref q190, .ref q210, .ref q231, .ref q253, .ref q276, .ref q300, .ref q325, .ref q351, .ref q378, .ref q406, .int 0, .int 0, .int 0, .int 0, .ref q435, .ref q465, .ref q496, .int 0, .int (-1), .int 0, .int 0, .ref q528, .ref q561, .ref q595, .ref q630, .ref q666])) :: L) H := hT
        have hu715 : ∀ z : Int, 0 ≤ z → aI f714 z = if z = x712.toInt then (-1 : Int) else aI f704 z := fun z h9 => by have h8 := hu715 z h9; rw [show Int32.toInt (-1) = (-1 : Int) from by decide] at h8; exact h8
        have v716 : (-1 ≤ (aI f704 (10 * x703.toInt + (0 : Int))) ∧ (aI f704 (10 * x703.toInt + (0 : Int))) ≤ 5) ∧ (0 ≤ (aI f704 (10 * x703.toInt + (1 : Int))) ∧ (aI f704 (10 * x703.toInt + (1 : Int))) ≤ 2) ∧ (0 ≤ (aI f704 (10 * x703.toInt + (2 : Int))) ∧ (aI f704 (10 * x703.toInt + (2 : Int))) ≤ 2) ∧ (-1 ≤ (aI f704 (10 * x703.toInt + (3 : Int))) ∧ (aI f704 (10 * x703.toInt + (3 : Int))) ≤ 2) ∧ ((aI f704 (10 * x703.toInt + (0 : Int))) = 1 ∨ (aI f704 (10 * x703.toInt + (0 : Int))) = 3 ∨ (aI f704 (10 * x703.toInt + (0 : Int))) = 4 → 0 ≤ (aI f704 (10 * x703.toInt + (3 : Int)))) := RV.row hR (z_X11_init_3 x703.toInt x712.toInt N705 hf706 hf707 hm708 c710 t713 (xr x703) (xr x712))
        have v717 : (aI f714 (10 * x703.toInt + (0 : Int))) = (-1 : Int) := (put_at hu715 (10 * x703.toInt + (0 : Int)) (z_X11_init_4 x703.toInt x712.toInt N705 hf706 hf707 hm708 c710 t713 (xr x703) (xr x712))).1 (z_X11_init_5 x703.toInt x712.toInt N705 hf706 hf707 hm708 c710 t713 (xr x703) (xr x712))
        have v718 : (aI f714 (10 * x703.toInt + (1 : Int))) = (aI f704 (10 * x703.toInt + (1 : Int))) := (put_at hu715 (10 * x703.toInt + (1 : Int)) (z_X11_init_6 x703.toInt x712.toInt N705 hf706 hf707 hm708 c710 t713 (xr x703) (xr x712))).2 (z_X11_init_7 x703.toInt x712.toInt N705 hf706 hf707 hm708 c710 t713 (xr x703) (xr x712))
        have v719 : (aI f714 (10 * x703.toInt + (2 : Int))) = (aI f704 (10 * x703.toInt + (2 : Int))) := (put_at hu715 (10 * x703.toInt + (2 : Int)) (z_X11_init_8 x703.toInt x712.toInt N705 hf706 hf707 hm708 c710 t713 (xr x703) (xr x712))).2 (z_X11_init_9 x703.toInt x712.toInt N705 hf706 hf707 hm708 c710 t713 (xr x703) (xr x712))
        have v720 : (aI f714 (10 * x703.toInt + (3 : Int))) = (aI f704 (10 * x703.toInt + (3 : Int))) := (put_at hu715 (10 * x703.toInt + (3 : Int)) (z_X11_init_10 x703.toInt x712.toInt N705 hf706 hf707 hm708 c710 t713 (xr x703) (xr x712))).2 (z_X11_init_11 x703.toInt x712.toInt N705 hf706 hf707 hm708 c710 t713 (xr x703) (xr x712))
        have hX : RVx f714 x703.toInt := RVx.put (RV.x hR x703.toInt) (z_X11_init_12 x703.toInt x712.toInt N705 hf706 hf707 hm708 c710 t713 (xr x703) (xr x712)) (z_X11_init_13 x703.toInt x712.toInt N705 hf706 hf707 hm708 c710 t713 (xr x703) (xr x712)) hu715
        have hR : RV f714 := RVx.all hX (z_X11_init_14 (aI f704 (10 * x703.toInt + (0 : Int))) (aI f704 (10 * x703.toInt + (1 : Int))) (aI f704 (10 * x703.toInt + (2 : Int))) (aI f704 (10 * x703.toInt + (3 : Int))) (aI f714 (10 * x703.toInt + (0 : Int))) (aI f714 (10 * x703.toInt + (1 : Int))) (aI f714 (10 * x703.toInt + (2 : Int))) (aI f714 (10 * x703.toInt + (3 : Int))) v716 v717 v718 v719 v720)
        refine xi_iinc (n := 1) (lv' := fun z9 => [(1, .int z9), (0, .ref a)]) (k := 1) hx hb (rfl : Int32.toInt x703 = x703.toInt) (by decide) dX11_init_597 hl rfl (by decide) (fun _ => rfl) (fun x721 ls t722 hl => ?_)
        have hl : lv_has ls 2 [(1, .int x721), (0, .ref a)] := hl
        refine lv_goto (tgt := 581) hx hb dX11_init_600 (by decide) ?_
        exact ih709 x721 f714 _ _ _ hR (z_X11_init_15 x703.toInt x712.toInt x721.toInt N705 hf706 hf707 hm708 c710 t713 t722 (xr x703) (xr x712) (xr x721)) (z_X11_init_16 x703.toInt x712.toInt x721.toInt N705 hf706 hf707 hm708 c710 t713 t722 (xr x703) (xr x712) (xr x721)) (z_X11_init_17 x703.toInt x712.toInt x721.toInt N705 hf706 hf707 hm708 c710 t713 t722 (xr x703) (xr x712) (xr x721)) hT hS (lv_sub hl [1, 0] rfl)
  exact L581 4294967297 0 (fun _ => 0) _ _ _ hR (by decide) (by decide) (by decide) hT hS (lv_sub hl [1, 0] rfl)
