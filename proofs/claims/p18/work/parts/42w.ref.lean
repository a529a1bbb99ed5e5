theorem z_X11_cutAll_3 (a0 : Int) (h0 : 0 ≤ a0) : ¬ (a0 < ((0 : Nat) : Int)) := by omega
theorem z_X11_cutAll_4 (a0 : Int) (h0 : ¬ (a0 ≤ 0)) : 0 < a0 := by omega
theorem z_X11_cutAll_5 (a0 : Int) (a1 : Int) (h0 : 0 ≤ a0 ∧ a0 ≤ 90) (h1 : a1 = (a0 - (1 : Int)) ∨ (a0 - (1 : Int)) < -2147483648 ∨ 2147483648 ≤ (a0 - (1 : Int))) : a1 = (a0 - (1 : Int)) := by omega
theorem z_X11_cutAll_6 (a0 : Int) (h0 : 0 ≤ a0 ∧ a0 ≤ 90) (h1 : ¬ (a0 ≤ 0)) : 0 ≤ (a0 - (1 : Int)) ∧ (a0 - (1 : Int)) < ((90 : Nat) : Int) := by omega
theorem z_X11_cutAll_7 (a0 : Int) : (a0 - (1 : Int)) = a0 - 1 := by omega
theorem z_X11_cutAll_12 (a0 : Int) (a1 : Int) (a2 : Int) (a3 : Int) (a4 : Int) (a5 : Int) (a6 : Int) (h0 : ((0 ≤ a2 ∧ a2 < 3) ∧ (0 ≤ a3 ∧ a3 < 30) ∧ (0 ≤ a4 ∧ a4 ≤ 12) ∧ (0 ≤ a5 ∧ a5 ≤ 30)) ∧ a0 + a6 ≤ 90) (h1 : a1 = (a4 + (1 : Int)) ∨ (a4 + (1 : Int)) < -2147483648 ∨ 2147483648 ≤ (a4 + (1 : Int))) : a1 = (a4 + (1 : Int)) := by omega
theorem z_X11_cutAll_17 (a0 : Int) (a1 : Int) (h0 : a0 < a1 ∧ 0 ≤ a0) : 0 ≤ a0 := by omega
theorem z_X11_cutAll_18 (a0 : Nat) (a1 : Int) (a2 : Int) (h0 : a2 < ((a0 + 1 : Nat) : Int)) (h1 : a1 < a2 ∧ 0 ≤ a1) : a1 < ((a0 : Nat) : Int) := by omega
theorem z_X11_cutAll_23 (a0 : Int) (a1 : Int) (a2 : Int) (a3 : Int) (a4 : Int) (a5 : Int) (h0 : ((0 ≤ a1 ∧ a1 < 3) ∧ (0 ≤ a2 ∧ a2 < 30) ∧ (0 ≤ a3 ∧ a3 ≤ 12) ∧ (0 ≤ a4 ∧ a4 ≤ 30)) ∧ a0 + a5 ≤ 90) (h1 : a3 ≠ (12 : Int)) : 0 ≤ a3 ∧ a3 ≤ 11 := by omega
theorem z_X11_cutAll_30 (a0 : Int) (a1 : Int) (a2 : Int) (a3 : Int) (a4 : Int) (a5 : Int) (a6 : Int) (h0 : ((0 ≤ a2 ∧ a2 < 3) ∧ (0 ≤ a3 ∧ a3 < 30) ∧ (0 ≤ a4 ∧ a4 ≤ 12) ∧ (0 ≤ a5 ∧ a5 ≤ 30)) ∧ a0 + a6 ≤ 90) (h1 : a1 = (a5 + (1 : Int)) ∨ (a5 + (1 : Int)) < -2147483648 ∨ 2147483648 ≤ (a5 + (1 : Int))) : a1 = (a5 + (1 : Int)) := by omega
theorem z_X11_cutAll_33 (a0 : Int) (a1 : Int) (a2 : Int) (a3 : Int) (a4 : Int) (a5 : Int) (a6 : Int) (a7 : Int) (a8 : Int) (h0 : ((0 ≤ a4 ∧ a4 < 3) ∧ (0 ≤ a5 ∧ a5 < 30) ∧ (0 ≤ a6 ∧ a6 ≤ 12) ∧ (0 ≤ a7 ∧ a7 ≤ 30)) ∧ a0 + a8 ≤ 90) (h1 : ¬ (a7 = (30 : Int))) (h2 : (-1 ≤ a1 ∧ a1 ≤ 5) ∧ (0 ≤ a2 ∧ a2 ≤ 2) ∧ (0 ≤ a3 ∧ a3 ≤ 2)) : 0 ≤ a2 ∧ a2 < 3 ∧ 0 ≤ a7 ∧ a7 < 30 ∧ 0 ≤ a3 ∧ a3 < 3 := by omega
theorem z_X11_cutAll_34 (a0 : Int) (a1 : Int) (a2 : Int) (a3 : Int) (a4 : Int) (a5 : Int) (a6 : Int) (a7 : Int) (a8 : Int) (a9 : Int) (h0 : ((0 ≤ a5 ∧ a5 < 3) ∧ (0 ≤ a6 ∧ a6 < 30) ∧ (0 ≤ a7 ∧ a7 ≤ 12) ∧ (0 ≤ a8 ∧ a8 ≤ 30)) ∧ a0 + a9 ≤ 90) (h1 : ¬ (a8 = (30 : Int))) (h2 : (-1 ≤ a2 ∧ a2 ≤ 5) ∧ (0 ≤ a3 ∧ a3 ≤ 2) ∧ (0 ≤ a4 ∧ a4 ≤ 2)) (h3 : 0 ≤ a3 ∧ a3 ≤ 2 ∧ 0 ≤ a8 ∧ a8 ≤ 29 → a1 = 4 * (30 * a3 + a8)) : 0 ≤ a1 ∧ a1 < ((360 : Nat) : Int) := by omega
theorem z_X11_cutAll_35 (a0 : Int) (a1 : Int) (a2 : Int) (a3 : Int) (a4 : Int) (a5 : Int) (a6 : Int) (a7 : Int) (a8 : Int) (a9 : Int) (h0 : ((0 ≤ a5 ∧ a5 < 3) ∧ (0 ≤ a6 ∧ a6 < 30) ∧ (0 ≤ a7 ∧ a7 ≤ 12) ∧ (0 ≤ a8 ∧ a8 ≤ 30)) ∧ a0 + a9 ≤ 90) (h1 : ¬ (a8 = (30 : Int))) (h2 : (-1 ≤ a2 ∧ a2 ≤ 5) ∧ (0 ≤ a3 ∧ a3 ≤ 2) ∧ (0 ≤ a4 ∧ a4 ≤ 2)) (h3 : 0 ≤ a3 ∧ a3 ≤ 2 ∧ 0 ≤ a8 ∧ a8 ≤ 29 → a1 = 4 * (30 * a3 + a8)) : a1 = 0 + 4 * (30 * a3 + a8) := by omega
theorem z_X11_cutAll_41 (a0 : Int) (a1 : Int) (a2 : Int) (a3 : Int) (a4 : Int) (a5 : Int) (a6 : Int) (a7 : Int) (a8 : Int) (a9 : Int) (a10 : Int) (a11 : Int) (h0 : ((0 ≤ a7 ∧ a7 < 3) ∧ (0 ≤ a8 ∧ a8 < 30) ∧ (0 ≤ a9 ∧ a9 ≤ 12) ∧ (0 ≤ a10 ∧ a10 ≤ 30)) ∧ a0 + a11 ≤ 90) (h1 : ¬ (a10 = (30 : Int))) (h2 : (-1 ≤ a4 ∧ a4 ≤ 5) ∧ (0 ≤ a5 ∧ a5 ≤ 2) ∧ (0 ≤ a6 ∧ a6 ≤ 2)) (h3 : 0 ≤ a5 ∧ a5 ≤ 2 ∧ 0 ≤ a10 ∧ a10 ≤ 29 → a1 = 4 * (30 * a5 + a10)) (h4 : a2 = a1 + (1 : Int) ∨ a1 + (1 : Int) < -2147483648 ∨ 2147483648 ≤ a1 + (1 : Int)) (h5 : a3 = a2 + a6 ∨ a2 + a6 < -2147483648 ∨ 2147483648 ≤ a2 + a6) : 0 ≤ a3 ∧ a3 < ((360 : Nat) : Int) := by omega
theorem z_X11_cutAll_42 (a0 : Int) (a1 : Int) (a2 : Int) (a3 : Int) (a4 : Int) (a5 : Int) (a6 : Int) (a7 : Int) (a8 : Int) (a9 : Int) (a10 : Int) (a11 : Int) (h0 : ((0 ≤ a7 ∧ a7 < 3) ∧ (0 ≤ a8 ∧ a8 < 30) ∧ (0 ≤ a9 ∧ a9 ≤ 12) ∧ (0 ≤ a10 ∧ a10 ≤ 30)) ∧ a0 + a11 ≤ 90) (h1 : ¬ (a10 = (30 : Int))) (h2 : (-1 ≤ a4 ∧ a4 ≤ 5) ∧ (0 ≤ a5 ∧ a5 ≤ 2) ∧ (0 ≤ a6 ∧ a6 ≤ 2)) (h3 : 0 ≤ a5 ∧ a5 ≤ 2 ∧ 0 ≤ a10 ∧ a10 ≤ 29 → a1 = 4 * (30 * a5 + a10)) (h4 : a2 = a1 + (1 : Int) ∨ a1 + (1 : Int) < -2147483648 ∨ 2147483648 ≤ a1 + (1 : Int)) (h5 : a3 = a2 + a6 ∨ a2 + a6 < -2147483648 ∨ 2147483648 ≤ a2 + a6) : a3 = 0 + 4 * (30 * a5 + a10) + 1 + a6 := by omega
theorem z_X11_cutAll_50 (a0 : Int) (a1 : Int) (a2 : Int) (a3 : Int) (a4 : Int) (a5 : Int) (a6 : Int) (a7 : Int) (a8 : Int) (h0 : ((0 ≤ a3 ∧ a3 < 3) ∧ (0 ≤ a4 ∧ a4 < 30) ∧ (0 ≤ a5 ∧ a5 ≤ 12) ∧ (0 ≤ a6 ∧ a6 ≤ 30)) ∧ a0 + a8 ≤ 90) (h1 : (a2 = 0 ∧ a7 = -2000) ∨ (a2 = 1 ∧ a7 = a1)) (h2 : ¬ (a2 ≠ (1 : Int))) (h3 : ¬ (a1 ≠ a4)) : a7 ≠ -2000 := by omega
theorem z_X11_cutAll_52 (a0 : Int) (a1 : Int) (a2 : Int) (a3 : Int) (a4 : Int) (a5 : Int) (h0 : ¬ (a0 ≤ 0)) (h1 : ((0 ≤ a1 ∧ a1 < 3) ∧ (0 ≤ a2 ∧ a2 < 30) ∧ (0 ≤ a3 ∧ a3 ≤ 12) ∧ (0 ≤ a4 ∧ a4 ≤ 30)) ∧ a0 + a5 ≤ 90) (h2 : 1 ≤ a5) : 0 ≤ a0 ∧ a0 < 90 := by omega
theorem z_X11_cutAll_53 (a0 : Int) (a1 : Int) (a2 : Int) (h0 : (-1 ≤ a0 ∧ a0 ≤ 5) ∧ (0 ≤ a1 ∧ a1 ≤ 2) ∧ (0 ≤ a2 ∧ a2 ≤ 2)) : 0 ≤ a1 ∧ a1 < 3 := by omega
theorem z_X11_cutAll_54 (a0 : Int) (a1 : Int) (a2 : Int) (a3 : Int) (a4 : Int) (a5 : Int) (h0 : ((0 ≤ a1 ∧ a1 < 3) ∧ (0 ≤ a2 ∧ a2 < 30) ∧ (0 ≤ a3 ∧ a3 ≤ 12) ∧ (0 ≤ a4 ∧ a4 ≤ 30)) ∧ a0 + a5 ≤ 90) (h1 : ¬ (a4 = (30 : Int))) : 0 ≤ a4 ∧ a4 < 30 := by omega
theorem z_X11_cutAll_55 (a0 : Int) (a1 : Int) (h0 : 0 ≤ a0 ∧ a0 ≤ 90) (h1 : a1 = (a0 + 1) ∨ (a0 + 1) < -2147483648 ∨ 2147483648 ≤ (a0 + 1)) : a1 = (a0 + 1) := by omega
theorem z_X11_cutAll_57 (a0 : Int) (a1 : Int) (a2 : Int) (a3 : Int) (a4 : Int) (a5 : Int) (h0 : ¬ (a0 ≤ 0)) (h1 : ((0 ≤ a1 ∧ a1 < 3) ∧ (0 ≤ a2 ∧ a2 < 30) ∧ (0 ≤ a3 ∧ a3 ≤ 12) ∧ (0 ≤ a4 ∧ a4 ≤ 30)) ∧ a0 + a5 ≤ 90) (h2 : 1 ≤ a5) : 0 ≤ (a0 + 1) ∧ (a0 + 1) ≤ 90 := by omega
theorem z_X11_cutAll_75 (a0 : Int) (a1 : Int) (h0 : 0 ≤ a0 ∧ a0 ≤ 90) (h1 : a1 = (a0 + (-1)) ∨ (a0 + (-1)) < -2147483648 ∨ 2147483648 ≤ (a0 + (-1))) : a1 = (a0 + (-1)) := by omega
theorem z_X11_cutAll_77 (a0 : Int) (h0 : 0 ≤ a0 ∧ a0 ≤ 90) (h1 : ¬ (a0 ≤ 0)) : 0 ≤ (a0 + (-1)) ∧ (a0 + (-1)) ≤ 90 := by omega
theorem z_X11_cutAll_80 (a0 : Int) (h0 : 0 ≤ a0 ∧ a0 < 40000) : 0 ≤ a0 := by omega
theorem z_X11_cutAll_81 (a0 : Int) (h0 : 0 ≤ a0 ∧ a0 < 40000) : a0 < ((4294967297 : Nat) : Int) := by omega
abbrev rm_X11_cutAll : Room := { frames := 3, cells := 0, slots := 0, locals := 68 }
set_option maxHeartbeats 4000000 in
set_option maxRecDepth 100000 in
theorem c_X11_cutAll (l : Launch) (E : XE) (K : Nat → Nat) (F : Nat → Nat → Nat) (G : XG) (a : Nat) (p0 : Int32) (p1 : Int32) (ha : K a = 13) (e1 : 0 ≤ p0.toInt ∧ p0.toInt < 3) (e2 : 0 ≤ p1.toInt ∧ p1.toInt < 30) (e3 : (cel (mw (G.2.1 (F a 1)) 0) (p0.toInt) (p1.toInt) 0) ≠ -2000) (hR : RV (G.2.1 (F a 10))) (hM : RM (G.2.1 (F a 1)) (0)) : Met l yX11_cutAll (xw yX11_cutAll cX11_cutAll 8 none) rm_X11_cutAll (va_Pc [.ref a, .int p0, .int p1] (XP E K F G)) (XQv E (fun (u : XG) => XFr [] [F a 47, F a 48, F a 49, F a 50, F a 1] [] G u ∧ (mw (u.2.1 (F a 1)) 0 = cfin (refA (G.2.1 (F a 10))) (refT (G.2.1 (F a 10))) (refC (G.2.1 (F a 10))) ([(p0.toInt, p1.toInt, 0, 0)], rfil (mw (G.2.1 (F a 1)) 0) p0.toInt p1.toInt (-2000) 3)) ∧ (RM (u.2.1 (F a 1)) 0)) (fun u H => TW E K F u H)) 0 0 (xA E) := by
  refine x_enter (by decide) (Nat.le_of_ble_eq_true rfl) ?_
  intro p e s m args below meth c Q S hr hlk hnm hQ hP ls hl
  obtain ⟨hz, hK, hT⟩ := hP
  obtain ⟨hx, hb, -, -, -⟩ := id S
  obtain ⟨H, hT, hS, hgo⟩ : ∃ H : Heap, TW E K F G H ∧ va_S (xA E) s.heap H [] ∧ H = s.heap := ⟨_, hT, va_S.rf, rfl⟩
  rw [← hgo]
  have hl : lv_has ls 8 [(0, .ref a), (1, .int p0), (2, .int p1)] := hl
  obtain ⟨hk9999, hj9999⟩ := fkX11_47 hT ha
  obtain ⟨hk9999a, hj9999a⟩ := fkX11_48 hT ha
  obtain ⟨hk9999b, hj9999b⟩ := fkX11_49 hT ha
  obtain ⟨hk9999c, hj9999c⟩ := fkX11_50 hT ha
  obtain ⟨hk9999d, hj9999d⟩ := fkX11_1 hT ha
  obtain ⟨hk9999e, hj9999e⟩ := fkX11_10 hT ha
  refine lv_aload_n hx hb dX11_cutAll_0 rfl (lv_at hl 0 rfl) ?_
  refine lv_iconst (v := 0) hx hb dX11_cutAll_1 (by decide) ?_
  refine lv_iload_n hx hb dX11_cutAll_2 rfl (lv_at hl 1 rfl) ?_
  refine lv_iload_n hx hb dX11_cutAll_3 rfl (lv_at hl 2 rfl) ?_
  refine x_cv0 (x_runV (b := a) (As := [.int 0, .int p0, .int p1]) (rest := []) S (c_X11_goes l E K F G a 0 p0 p1 ha (by decide) (e1) (e2) (v_X11_cutAll_4_1 (K := K) (F := F) a G p0 p1 ha hk9999 hj9999 hk9999a hj9999a hk9999b hj9999b hk9999c hj9999c hk9999d hj9999d hk9999e hj9999e hR hM e1 e2 e3)) mv_X11_goes km_X11_363 rfl rfl ⟨Nat.le_of_ble_eq_true rfl, Nat.le_of_ble_eq_true rfl⟩ (rc_13 hK hT ha) hK (fun _ => XP.blind) (fun U hU hW => XP.at hK hz hS hT hU hW) rfl hl.1 (Nat.le_of_ble_eq_true rfl) dX11_cutAll_4 ⟨Nat.le_of_ble_eq_true rfl, Nat.le_of_ble_eq_true rfl⟩) hS ?_
  rintro G4 H locs ⟨hF4, oq4, oq4a, oq4b, oq4c, oq4d, oq4e⟩ hT hS
  refine lv_iconst (v := 1) hx hb dX11_cutAll_7 (by decide) ?_
  have en8 : 0 ≤ (cmu (gst (G4.2.1 (F a 47)) (G4.2.1 (F a 48)) (G4.2.1 (F a 49)) (G4.2.1 (F a 50)) (Int.toNat 1), mw (G4.2.1 (F a 1)) 0)) ∧ (cmu (gst (G4.2.1 (F a 47)) (G4.2.1 (F a 48)) (G4.2.1 (F a 49)) (G4.2.1 (F a 50)) (Int.toNat 1), mw (G4.2.1 (F a 1)) 0)) < 40000 := (v_X11_cutAll_8_2 (K := K) (F := F) a G G4 p0 p1 ha oq4 oq4a oq4b oq4c e1 e2 e3)
  refine lv_istore_n (lv' := [(3, .int 1), (0, .ref a), (1, .int p0), (2, .int p1)]) hx hb dX11_cutAll_8 rfl hl (by decide) rfl (fun ls hl => ?_)
  have L9 : ∀ (N9 : Nat) (l3_9 : Int32) (G_9 : XG) (H : Heap) (locs : List Loc) (ls : Array Slot), XFr [] [F a 47, F a 48, F a 49, F a 50, F a 1] [] G4 G_9 → RM (G_9.2.1 (F a 1)) 0 → CIv (gst (G_9.2.1 (F a 47)) (G_9.2.1 (F a 48)) (G_9.2.1 (F a 49)) (G_9.2.1 (F a 50)) (Int.toNat (l3_9.toInt)), mw (G_9.2.1 (F a 1)) 0) → cfin (refA (G.2.1 (F a 10))) (refT (G.2.1 (F a 10))) (refC (G.2.1 (F a 10))) (gst (G_9.2.1 (F a 47)) (G_9.2.1 (F a 48)) (G_9.2.1 (F a 49)) (G_9.2.1 (F a 50)) (Int.toNat (l3_9.toInt)), mw (G_9.2.1 (F a 1)) 0) = cfin (refA (G.2.1 (F a 10))) (refT (G.2.1 (F a 10))) (refC (G.2.1 (F a 10))) ([(p0.toInt, p1.toInt, 0, 0)], rfil (mw (G.2.1 (F a 1)) 0) p0.toInt p1.toInt (-2000) 3) → 0 ≤ l3_9.toInt ∧ l3_9.toInt ≤ 90 → 0 ≤ (cmu (gst (G_9.2.1 (F a 47)) (G_9.2.1 (F a 48)) (G_9.2.1 (F a 49)) (G_9.2.1 (F a 50)) (Int.toNat (l3_9.toInt)), mw (G_9.2.1 (F a 1)) 0)) → (cmu (gst (G_9.2.1 (F a 47)) (G_9.2.1 (F a 48)) (G_9.2.1 (F a 49)) (G_9.2.1 (F a 50)) (Int.toNat (l3_9.toInt)), mw (G_9.2.1 (F a 1)) 0)) < ((N9 : Nat) : Int) → TW E K F G_9 H → va_S (xA E) s.heap H locs → lv_has ls 8 [(0, .ref a), (3, .int l3_9)] → W p l e rm_X11_cutAll s m args below meth c H locs 0 0 Q (F0 m 9 ls []) := by
    intro N9
    induction N9 with
    | zero =>
      intro l3_9 G_9 H locs ls hF_9 rm iv fi I9_0 I9_1 hm9
      exact absurd hm9 (z_X11_cutAll_3 (cmu (gst (G_9.2.1 (F a 47)) (G_9.2.1 (F a 48)) (G_9.2.1 (F a 49)) (G_9.2.1 (F a 50)) (Int.toNat (l3_9.toInt)), mw (G_9.2.1 (F a 1)) 0)) I9_1)
    | succ N9 ih9 =>
      intro l3_9 G_9 H locs ls hF_9 rm iv fi I9_0 I9_1 hm9 hT hS hl
      refine lv_iload_n hx hb dX11_cutAll_9 rfl (lv_at hl 1 rfl) ?_
      refine xi_zle (tgt := 227) hx hb (rfl : Int32.toInt l3_9 = l3_9.toInt) dX11_cutAll_10 (by decide) (fun c10 => ?_) (fun c10 => ?_)
      · exact x_rv hx hb hr hlk hQ (Nat.le_of_ble_eq_true rfl) (Nat.le_of_ble_eq_true rfl) hS dX11_cutAll_227 G_9 ⟨(XFr.call (XFr.call XFr.rf hF4 xm0 (xm1 0 rfl (xm1 1 rfl (xm1 2 rfl (xm1 3 rfl (xm1 4 rfl xm0))))) xm0) hF_9 xm0 (xm1 0 rfl (xm1 1 rfl (xm1 2 rfl (xm1 3 rfl (xm1 4 rfl xm0))))) xm0), (v_X11_cutAll_227_3 (K := K) (F := F) a G G4 G_9 p0 p1 l3_9 N9 ha fi e1 e2 e3 en8 I9_0 I9_1 hm9 c10), (v_X11_cutAll_227_4 (F := F) a G_9 rm)⟩ hT
      · have z13 : ((0 ≤ (aI (G_9.2.1 (F a 47)) (l3_9.toInt - 1)) ∧ (aI (G_9.2.1 (F a 47)) (l3_9.toInt - 1)) < 3) ∧ (0 ≤ (aI (G_9.2.1 (F a 48)) (l3_9.toInt - 1)) ∧ (aI (G_9.2.1 (F a 48)) (l3_9.toInt - 1)) < 30) ∧ (0 ≤ (aI (G_9.2.1 (F a 49)) (l3_9.toInt - 1)) ∧ (aI (G_9.2.1 (F a 49)) (l3_9.toInt - 1)) ≤ 12) ∧ (0 ≤ (aI (G_9.2.1 (F a 50)) (l3_9.toInt - 1)) ∧ (aI (G_9.2.1 (F a 50)) (l3_9.toInt - 1)) ≤ 30)) ∧ l3_9.toInt + (pn (mw (G_9.2.1 (F a 1)) 0)) ≤ 90 := gst_top (z_X11_cutAll_4 l3_9.toInt c10) iv
        refine lv_iload_n hx hb dX11_cutAll_13 rfl (lv_at hl 1 rfl) ?_
        refine lv_iconst (v := 1) hx hb dX11_cutAll_14 (by decide) ?_
        refine xi_isub hx hb (rfl : Int32.toInt l3_9 = l3_9.toInt) ((by decide) : Int32.toInt 1 = (1 : Int)) dX11_cutAll_15 (fun x15 t15 => ?_)
        have e15 : x15.toInt = (l3_9.toInt - (1 : Int)) := (z_X11_cutAll_5 l3_9.toInt x15.toInt I9_0 t15)
        refine lv_istore (lv' := [(4, .int x15), (0, .ref a), (3, .int l3_9)]) hx hb dX11_cutAll_16 hl (by decide) rfl (fun ls hl => ?_)
        refine lv_aload_n hx hb dX11_cutAll_18 rfl (lv_at hl 1 rfl) ?_
        refine gX11_49 S hK hT ha kf_X11_124 dX11_cutAll_19 (fun _ _ => ?_)
        refine lv_iload hx hb dX11_cutAll_22 (lv_at hl 0 rfl) ?_
        refine al_0 S hK hT hk9999b ar_57 (by decide) (by rw [(e15 : Int32.toInt x15 = (l3_9.toInt - (1 : Int)))]; exact (z_X11_cutAll_6 l3_9.toInt I9_0 c10)) dX11_cutAll_24 (fun x24 hv24 o24 => ?_)
        have hv24 : x24.toInt = (aI (G_9.2.1 (F a 49)) (l3_9.toInt - 1)) := hv24.trans (by rw [((e15 : Int32.toInt x15 = (l3_9.toInt - (1 : Int))).trans (z_X11_cutAll_7 l3_9.toInt))])
        refine lv_bipush (v := 12) hx hb dX11_cutAll_25 (by decide) ?_
        refine xi_cne (tgt := 36) hx hb (hv24 : Int32.toInt x24 = (aI (G_9.2.1 (F a 49)) (l3_9.toInt - 1))) ((by decide) : Int32.toInt 12 = (12 : Int)) dX11_cutAll_27 (by decide) (fun c27 => ?_) (fun c27 => ?_)
        · refine lv_aload_n hx hb dX11_cutAll_36 rfl (lv_at hl 1 rfl) ?_
          refine gX11_50 S hK hT ha kf_X11_127 dX11_cutAll_37 (fun _ _ => ?_)
          refine lv_iload hx hb dX11_cutAll_40 (lv_at hl 0 rfl) ?_
          refine al_0 S hK hT hk9999c ar_58 (by decide) (by rw [(e15 : Int32.toInt x15 = (l3_9.toInt - (1 : Int)))]; exact (z_X11_cutAll_6 l3_9.toInt I9_0 c10)) dX11_cutAll_42 (fun x42 hv42 o42 => ?_)
          have hv42 : x42.toInt = (aI (G_9.2.1 (F a 50)) (l3_9.toInt - 1)) := hv42.trans (by rw [((e15 : Int32.toInt x15 = (l3_9.toInt - (1 : Int))).trans (z_X11_cutAll_7 l3_9.toInt))])
          refine lv_bipush (v := 30) hx hb dX11_cutAll_43 (by decide) ?_
          refine xi_ceq (tgt := 69) hx hb (hv42 : Int32.toInt x42 = (aI (G_9.2.1 (F a 50)) (l3_9.toInt - 1))) ((by decide) : Int32.toInt 30 = (30 : Int)) dX11_cutAll_45 (by decide) (fun c45 => ?_) (fun c45 => ?_)
          · refine lv_aload_n hx hb dX11_cutAll_69 rfl (lv_at hl 1 rfl) ?_
            refine gX11_49 S hK hT ha kf_X11_124 dX11_cutAll_70 (fun _ _ => ?_)
            refine lv_iload hx hb dX11_cutAll_73 (lv_at hl 0 rfl) ?_
            refine lv_dup2_11 hx hb dX11_cutAll_75 rfl rfl ?_
            refine al_0 S hK hT hk9999b ar_57 (by decide) (by rw [(e15 : Int32.toInt x15 = (l3_9.toInt - (1 : Int)))]; exact (z_X11_cutAll_6 l3_9.toInt I9_0 c10)) dX11_cutAll_76 (fun x76 hv76 o76 => ?_)
            have hv76 : x76.toInt = (aI (G_9.2.1 (F a 49)) (l3_9.toInt - 1)) := hv76.trans (by rw [((e15 : Int32.toInt x15 = (l3_9.toInt - (1 : Int))).trans (z_X11_cutAll_7 l3_9.toInt))])
            refine lv_iconst (v := 1) hx hb dX11_cutAll_77 (by decide) ?_
            refine xi_iadd hx hb (hv76 : Int32.toInt x76 = (aI (G_9.2.1 (F a 49)) (l3_9.toInt - 1))) ((by decide) : Int32.toInt 1 = (1 : Int)) dX11_cutAll_78 (fun x78 t78 => ?_)
            have e78 : x78.toInt = ((aI (G_9.2.1 (F a 49)) (l3_9.toInt - 1)) + (1 : Int)) := (z_X11_cutAll_12 l3_9.toInt x78.toInt (aI (G_9.2.1 (F a 47)) (l3_9.toInt - 1)) (aI (G_9.2.1 (F a 48)) (l3_9.toInt - 1)) (aI (G_9.2.1 (F a 49)) (l3_9.toInt - 1)) (aI (G_9.2.1 (F a 50)) (l3_9.toInt - 1)) (pn (mw (G_9.2.1 (F a 1)) 0)) z13 t78)
            refine as_0 (x := x78) S hK hT hS hk9999b ar_57 aw_57 (by decide) (by rw [(e15 : Int32.toInt x15 = (l3_9.toInt - (1 : Int)))]; exact (z_X11_cutAll_6 l3_9.toInt I9_0 c10)) dX11_cutAll_79 (fun H locs hT hS => ?_)
            obtain ⟨G79, hG79⟩ : ∃ GG : XG, GG = cput G_9 (F a 49) x15.toNatClampNeg x78 := ⟨_, rfl⟩
            rw [← hG79] at hT
            refine lv_aload_n hx hb dX11_cutAll_80 rfl (lv_at hl 1 rfl) ?_
            refine gX11_50 S hK hT ha kf_X11_127 dX11_cutAll_81 (fun _ _ => ?_)
            refine lv_iload hx hb dX11_cutAll_84 (lv_at hl 0 rfl) ?_
            refine lv_iconst (v := 0) hx hb dX11_cutAll_86 (by decide) ?_
            refine as_0 (x := 0) S hK hT hS hk9999c ar_58 aw_58 (by decide) (by rw [(e15 : Int32.toInt x15 = (l3_9.toInt - (1 : Int)))]; exact (z_X11_cutAll_6 l3_9.toInt I9_0 c10)) dX11_cutAll_87 (fun H locs hT hS => ?_)
            obtain ⟨G87, hG87⟩ : ∃ GG : XG, GG = cput G79 (F a 50) x15.toNatClampNeg 0 := ⟨_, rfl⟩
            rw [← hG87] at hT
            refine lv_goto (tgt := 224) hx hb dX11_cutAll_88 (by decide) ?_
            have cs224 : cst (refA (G.2.1 (F a 10))) (refT (G.2.1 (F a 10))) (refC (G.2.1 (F a 10))) (gst (G_9.2.1 (F a 47)) (G_9.2.1 (F a 48)) (G_9.2.1 (F a 49)) (G_9.2.1 (F a 50)) (Int.toNat (l3_9.toInt)), mw (G_9.2.1 (F a 1)) 0) = (gst (G_9.2.1 (F a 47)) (G_9.2.1 (F a 48)) (G79.2.1 (F a 49)) (G87.2.1 (F a 50)) (Int.toNat (l3_9.toInt)), mw (G_9.2.1 (F a 1)) 0) := (v_X11_cutAll_224_5 (K := K) (F := F) a G G4 G_9 G79 x15 x78 G87 p0 p1 l3_9 N9 ha hG79 hG87 e15 e78 e1 e2 e3 en8 I9_0 I9_1 hm9 c10 z13 c27 c45 (lc_c hG79 (xne_k hk9999c hk9999b (by decide))))
            have mu224 : (cmu (gst (G_9.2.1 (F a 47)) (G_9.2.1 (F a 48)) (G79.2.1 (F a 49)) (G87.2.1 (F a 50)) (Int.toNat (l3_9.toInt)), mw (G_9.2.1 (F a 1)) 0)) < (cmu (gst (G_9.2.1 (F a 47)) (G_9.2.1 (F a 48)) (G_9.2.1 (F a 49)) (G_9.2.1 (F a 50)) (Int.toNat (l3_9.toInt)), mw (G_9.2.1 (F a 1)) 0)) ∧ 0 ≤ (cmu (gst (G_9.2.1 (F a 47)) (G_9.2.1 (F a 48)) (G79.2.1 (F a 49)) (G87.2.1 (F a 50)) (Int.toNat (l3_9.toInt)), mw (G_9.2.1 (F a 1)) 0)) := ⟨cst_dn (refTo hR) iv cs224 (gst_p (z_X11_cutAll_4 l3_9.toInt c10)), cmu_b (cm_st (refTo hR) iv cs224).1⟩
            refine lv_goto (tgt := 9) hx hb dX11_cutAll_224 (by decide) ?_
            exact ih9 l3_9 G87 _ _ _ (by rw [hG87]; exact XFr.cput (by rw [hG79]; exact XFr.cput (XFr.call XFr.rf hF_9 xm0 (xm1 0 rfl (xm1 1 rfl (xm1 2 rfl (xm1 3 rfl (xm1 4 rfl xm0))))) xm0) (List.mem_of_getElem? (i := 2) rfl)) (List.mem_of_getElem? (i := 3) rfl)) (by rw [(show G87.2.1 (F a 1) = G_9.2.1 (F a 1) from ((lc_c hG87 (xne_k hk9999d hk9999c (by decide))).trans (lc_c hG79 (xne_k hk9999d hk9999b (by decide)))))] <;> exact (v_X11_cutAll_224_6 (K := K) (F := F) a G G4 G_9 G79 G87 p0 p1 l3_9 N9 ha rm e1 e2 e3 en8 I9_0 I9_1 hm9 c10 z13 c27 c45 mu224)) (by rw [(show G87.2.1 (F a 47) = G_9.2.1 (F a 47) from ((lc_c hG87 (xne_k hk9999 hk9999c (by decide))).trans (lc_c hG79 (xne_k hk9999 hk9999b (by decide))))), (show G87.2.1 (F a 48) = G_9.2.1 (F a 48) from ((lc_c hG87 (xne_k hk9999a hk9999c (by decide))).trans (lc_c hG79 (xne_k hk9999a hk9999b (by decide))))), (show G87.2.1 (F a 49) = G79.2.1 (F a 49) from (lc_c hG87 (xne_k hk9999b hk9999c (by decide)))), (show G87.2.1 (F a 1) = G_9.2.1 (F a 1) from ((lc_c hG87 (xne_k hk9999d hk9999c (by decide))).trans (lc_c hG79 (xne_k hk9999d hk9999b (by decide)))))] <;> exact (v_X11_cutAll_224_7 (F := F) a G G_9 G79 G87 l3_9 hR iv cs224)) (by rw [(show G87.2.1 (F a 47) = G_9.2.1 (F a 47) from ((lc_c hG87 (xne_k hk9999 hk9999c (by decide))).trans (lc_c hG79 (xne_k hk9999 hk9999b (by decide))))), (show G87.2.1 (F a 48) = G_9.2.1 (F a 48) from ((lc_c hG87 (xne_k hk9999a hk9999c (by decide))).trans (lc_c hG79 (xne_k hk9999a hk9999b (by decide))))), (show G87.2.1 (F a 49) = G79.2.1 (F a 49) from (lc_c hG87 (xne_k hk9999b hk9999c (by decide)))), (show G87.2.1 (F a 1) = G_9.2.1 (F a 1) from ((lc_c hG87 (xne_k hk9999d hk9999c (by decide))).trans (lc_c hG79 (xne_k hk9999d hk9999b (by decide)))))] <;> exact (v_X11_cutAll_224_8 (F := F) a G G_9 G79 G87 p0 p1 l3_9 hR iv fi cs224)) (I9_0) (by rw [(show G87.2.1 (F a 47) = G_9.2.1 (F a 47) from ((lc_c hG87 (xne_k hk9999 hk9999c (by decide))).trans (lc_c hG79 (xne_k hk9999 hk9999b (by decide))))), (show G87.2.1 (F a 48) = G_9.2.1 (F a 48) from ((lc_c hG87 (xne_k hk9999a hk9999c (by decide))).trans (lc_c hG79 (xne_k hk9999a hk9999b (by decide))))), (show G87.2.1 (F a 49) = G79.2.1 (F a 49) from (lc_c hG87 (xne_k hk9999b hk9999c (by decide)))), (show G87.2.1 (F a 1) = G_9.2.1 (F a 1) from ((lc_c hG87 (xne_k hk9999d hk9999c (by decide))).trans (lc_c hG79 (xne_k hk9999d hk9999b (by decide)))))] <;> exact (z_X11_cutAll_17 (cmu (gst (G_9.2.1 (F a 47)) (G_9.2.1 (F a 48)) (G79.2.1 (F a 49)) (G87.2.1 (F a 50)) (Int.toNat (l3_9.toInt)), mw (G_9.2.1 (F a 1)) 0)) (cmu (gst (G_9.2.1 (F a 47)) (G_9.2.1 (F a 48)) (G_9.2.1 (F a 49)) (G_9.2.1 (F a 50)) (Int.toNat (l3_9.toInt)), mw (G_9.2.1 (F a 1)) 0)) mu224)) (by rw [(show G87.2.1 (F a 47) = G_9.2.1 (F a 47) from ((lc_c hG87 (xne_k hk9999 hk9999c (by decide))).trans (lc_c hG79 (xne_k hk9999 hk9999b (by decide))))), (show G87.2.1 (F a 48) = G_9.2.1 (F a 48) from ((lc_c hG87 (xne_k hk9999a hk9999c (by decide))).trans (lc_c hG79 (xne_k hk9999a hk9999b (by decide))))), (show G87.2.1 (F a 49) = G79.2.1 (F a 49) from (lc_c hG87 (xne_k hk9999b hk9999c (by decide)))), (show G87.2.1 (F a 1) = G_9.2.1 (F a 1) from ((lc_c hG87 (xne_k hk9999d hk9999c (by decide))).trans (lc_c hG79 (xne_k hk9999d hk9999b (by decide)))))] <;> exact (z_X11_cutAll_18 N9 (cmu (gst (G_9.2.1 (F a 47)) (G_9.2.1 (F a 48)) (G79.2.1 (F a 49)) (G87.2.1 (F a 50)) (Int.toNat (l3_9.toInt)), mw (G_9.2.1 (F a 1)) 0)) (cmu (gst (G_9.2.1 (F a 47)) (G_9.2.1 (F a 48)) (G_9.2.1 (F a 49)) (G_9.2.1 (F a 50)) (Int.toNat (l3_9.toInt)), mw (G_9.2.1 (F a 1)) 0)) hm9 mu224)) hT hS (lv_sub hl [1, 2] rfl)
          · refine lv_aload_n hx hb dX11_cutAll_48 rfl (lv_at hl 1 rfl) ?_
            refine lv_aload_n hx hb dX11_cutAll_49 rfl (lv_at hl 1 rfl) ?_
            refine gX11_49 S hK hT ha kf_X11_124 dX11_cutAll_50 (fun _ _ => ?_)
            refine lv_iload hx hb dX11_cutAll_53 (lv_at hl 0 rfl) ?_
            refine al_0 S hK hT hk9999b ar_57 (by decide) (by rw [(e15 : Int32.toInt x15 = (l3_9.toInt - (1 : Int)))]; exact (z_X11_cutAll_6 l3_9.toInt I9_0 c10)) dX11_cutAll_55 (fun x55 hv55 o55 => ?_)
            have hv55 : x55.toInt = (aI (G_9.2.1 (F a 49)) (l3_9.toInt - 1)) := hv55.trans (by rw [((e15 : Int32.toInt x15 = (l3_9.toInt - (1 : Int))).trans (z_X11_cutAll_7 l3_9.toInt))])
            refine lv_aload_n hx hb dX11_cutAll_56 rfl (lv_at hl 1 rfl) ?_
            refine gX11_47 S hK hT ha kf_X11_118 dX11_cutAll_57 (fun _ _ => ?_)
            refine lv_iload hx hb dX11_cutAll_60 (lv_at hl 0 rfl) ?_
            refine al_0 S hK hT hk9999 ar_55 (by decide) (by rw [(e15 : Int32.toInt x15 = (l3_9.toInt - (1 : Int)))]; exact (z_X11_cutAll_6 l3_9.toInt I9_0 c10)) dX11_cutAll_62 (fun x62 hv62 o62 => ?_)
            have hv62 : x62.toInt = (aI (G_9.2.1 (F a 47)) (l3_9.toInt - 1)) := hv62.trans (by rw [((e15 : Int32.toInt x15 = (l3_9.toInt - (1 : Int))).trans (z_X11_cutAll_7 l3_9.toInt))])
            refine x_clp (x_runV (b := a) (As := [.int x55, .int x62]) (rest := []) S (c_X11_isFor l E K F G_9 H a x55 x62 ha) mv_X11_isFor km_X11_367 rfl rfl ⟨Nat.le_of_ble_eq_true rfl, Nat.le_of_ble_eq_true rfl⟩ (rc_13 hK hT ha) hK (fun _ => XPh.blind) (fun U hU hW => XPh.at hK hz hS hT hU hW) rfl hl.1 (Nat.le_of_ble_eq_true rfl) dX11_cutAll_63 ⟨Nat.le_of_ble_eq_true rfl, Nat.le_of_ble_eq_true rfl⟩) hS ?_
            rintro _ _ locs ⟨x63, rfl, b63, t63⟩ hS
            have t63 : (x63.toInt = 1 ∧ 0 < (refA (G.2.1 (F a 10)) (aI (G_9.2.1 (F a 49)) (l3_9.toInt - 1)) (aI (G_9.2.1 (F a 47)) (l3_9.toInt - 1)))) ∨ (x63.toInt = 0 ∧ ¬ (0 < (refA (G.2.1 (F a 10)) (aI (G_9.2.1 (F a 49)) (l3_9.toInt - 1)) (aI (G_9.2.1 (F a 47)) (l3_9.toInt - 1))))) := by rw [(hv55 : Int32.toInt x55 = (aI (G_9.2.1 (F a 49)) (l3_9.toInt - 1)))] at t63; rw [(hv62 : Int32.toInt x62 = (aI (G_9.2.1 (F a 47)) (l3_9.toInt - 1)))] at t63; rw [(show G_9.2.1 (F a 10) = G.2.1 (F a 10) from ((hF_9.2.1 _ (xn1 (xne_k hk9999e hk9999 (by decide)) (xn1 (xne_k hk9999e hk9999a (by decide)) (xn1 (xne_k hk9999e hk9999b (by decide)) (xn1 (xne_k hk9999e hk9999c (by decide)) (xn1 (xne_k hk9999e hk9999d (by decide)) xn0)))))).trans (hF4.2.1 _ (xn1 (xne_k hk9999e hk9999 (by decide)) (xn1 (xne_k hk9999e hk9999a (by decide)) (xn1 (xne_k hk9999e hk9999b (by decide)) (xn1 (xne_k hk9999e hk9999c (by decide)) (xn1 (xne_k hk9999e hk9999d (by decide)) xn0))))))))] at t63; exact t63
            refine xi_zne (tgt := 91) hx hb (rfl : Int32.toInt x63 = x63.toInt) dX11_cutAll_66 (by decide) (fun c66 => ?_) (fun c66 => ?_)
            · have z91 : ((0 ≤ (aI (G_9.2.1 (F a 49)) (l3_9.toInt - 1)) ∧ (aI (G_9.2.1 (F a 49)) (l3_9.toInt - 1)) < 12 ∧ (aI (G.2.1 (F a 10)) (10 * (aI (G_9.2.1 (F a 49)) (l3_9.toInt - 1)) + 0)) = 1 ∧ (aI (G.2.1 (F a 10)) (10 * (aI (G_9.2.1 (F a 49)) (l3_9.toInt - 1)) + 3)) = (aI (G_9.2.1 (F a 47)) (l3_9.toInt - 1))) ∧ (refA (G.2.1 (F a 10)) (aI (G_9.2.1 (F a 49)) (l3_9.toInt - 1)) (aI (G_9.2.1 (F a 47)) (l3_9.toInt - 1))) = (aI (G.2.1 (F a 10)) (10 * (aI (G_9.2.1 (F a 49)) (l3_9.toInt - 1)) + 8))) ∨ (¬ (0 ≤ (aI (G_9.2.1 (F a 49)) (l3_9.toInt - 1)) ∧ (aI (G_9.2.1 (F a 49)) (l3_9.toInt - 1)) < 12 ∧ (aI (G.2.1 (F a 10)) (10 * (aI (G_9.2.1 (F a 49)) (l3_9.toInt - 1)) + 0)) = 1 ∧ (aI (G.2.1 (F a 10)) (10 * (aI (G_9.2.1 (F a 49)) (l3_9.toInt - 1)) + 3)) = (aI (G_9.2.1 (F a 47)) (l3_9.toInt - 1))) ∧ (refA (G.2.1 (F a 10)) (aI (G_9.2.1 (F a 49)) (l3_9.toInt - 1)) (aI (G_9.2.1 (F a 47)) (l3_9.toInt - 1))) = 0) := refA_f
              have z91a : (-1 ≤ (aI (G.2.1 (F a 10)) (10 * (aI (G_9.2.1 (F a 49)) (l3_9.toInt - 1)) + 0)) ∧ (aI (G.2.1 (F a 10)) (10 * (aI (G_9.2.1 (F a 49)) (l3_9.toInt - 1)) + 0)) ≤ 5) ∧ (0 ≤ (aI (G.2.1 (F a 10)) (10 * (aI (G_9.2.1 (F a 49)) (l3_9.toInt - 1)) + 1)) ∧ (aI (G.2.1 (F a 10)) (10 * (aI (G_9.2.1 (F a 49)) (l3_9.toInt - 1)) + 1)) ≤ 2) ∧ (0 ≤ (aI (G.2.1 (F a 10)) (10 * (aI (G_9.2.1 (F a 49)) (l3_9.toInt - 1)) + 2)) ∧ (aI (G.2.1 (F a 10)) (10 * (aI (G_9.2.1 (F a 49)) (l3_9.toInt - 1)) + 2)) ≤ 2) := (fun h => ⟨h.1, h.2.1, h.2.2.1⟩) (RV.row hR (z_X11_cutAll_23 l3_9.toInt (aI (G_9.2.1 (F a 47)) (l3_9.toInt - 1)) (aI (G_9.2.1 (F a 48)) (l3_9.toInt - 1)) (aI (G_9.2.1 (F a 49)) (l3_9.toInt - 1)) (aI (G_9.2.1 (F a 50)) (l3_9.toInt - 1)) (pn (mw (G_9.2.1 (F a 1)) 0)) z13 c27))
              refine lv_aload_n hx hb dX11_cutAll_91 rfl (lv_at hl 1 rfl) ?_
              refine gX11_49 S hK hT ha kf_X11_124 dX11_cutAll_92 (fun _ _ => ?_)
              refine lv_iload hx hb dX11_cutAll_95 (lv_at hl 0 rfl) ?_
              refine al_0 S hK hT hk9999b ar_57 (by decide) (by rw [(e15 : Int32.toInt x15 = (l3_9.toInt - (1 : Int)))]; exact (z_X11_cutAll_6 l3_9.toInt I9_0 c10)) dX11_cutAll_97 (fun x97 hv97 o97 => ?_)
              have hv97 : x97.toInt = (aI (G_9.2.1 (F a 49)) (l3_9.toInt - 1)) := hv97.trans (by rw [((e15 : Int32.toInt x15 = (l3_9.toInt - (1 : Int))).trans (z_X11_cutAll_7 l3_9.toInt))])
              refine lv_istore (lv' := [(5, .int x97), (4, .int x15), (0, .ref a), (3, .int l3_9)]) hx hb dX11_cutAll_98 hl (by decide) rfl (fun ls hl => ?_)
              refine lv_aload_n hx hb dX11_cutAll_100 rfl (lv_at hl 2 rfl) ?_
              refine gX11_50 S hK hT ha kf_X11_127 dX11_cutAll_101 (fun _ _ => ?_)
              refine lv_iload hx hb dX11_cutAll_104 (lv_at hl 1 rfl) ?_
              refine al_0 S hK hT hk9999c ar_58 (by decide) (by rw [(e15 : Int32.toInt x15 = (l3_9.toInt - (1 : Int)))]; exact (z_X11_cutAll_6 l3_9.toInt I9_0 c10)) dX11_cutAll_106 (fun x106 hv106 o106 => ?_)
              have hv106 : x106.toInt = (aI (G_9.2.1 (F a 50)) (l3_9.toInt - 1)) := hv106.trans (by rw [((e15 : Int32.toInt x15 = (l3_9.toInt - (1 : Int))).trans (z_X11_cutAll_7 l3_9.toInt))])
              refine lv_istore (lv' := [(6, .int x106), (5, .int x97), (4, .int x15), (0, .ref a), (3, .int l3_9)]) hx hb dX11_cutAll_107 hl (by decide) rfl (fun ls hl => ?_)
              refine lv_aload_n hx hb dX11_cutAll_109 rfl (lv_at hl 3 rfl) ?_
              refine gX11_50 S hK hT ha kf_X11_127 dX11_cutAll_110 (fun _ _ => ?_)
              refine lv_iload hx hb dX11_cutAll_113 (lv_at hl 2 rfl) ?_
              refine lv_dup2_11 hx hb dX11_cutAll_115 rfl rfl ?_
              refine al_0 S hK hT hk9999c ar_58 (by decide) (by rw [(e15 : Int32.toInt x15 = (l3_9.toInt - (1 : Int)))]; exact (z_X11_cutAll_6 l3_9.toInt I9_0 c10)) dX11_cutAll_116 (fun x116 hv116 o116 => ?_)
              have hv116 : x116.toInt = (aI (G_9.2.1 (F a 50)) (l3_9.toInt - 1)) := hv116.trans (by rw [((e15 : Int32.toInt x15 = (l3_9.toInt - (1 : Int))).trans (z_X11_cutAll_7 l3_9.toInt))])
              refine lv_iconst (v := 1) hx hb dX11_cutAll_117 (by decide) ?_
              refine xi_iadd hx hb (hv116 : Int32.toInt x116 = (aI (G_9.2.1 (F a 50)) (l3_9.toInt - 1))) ((by decide) : Int32.toInt 1 = (1 : Int)) dX11_cutAll_118 (fun x118 t118 => ?_)
              have e118 : x118.toInt = ((aI (G_9.2.1 (F a 50)) (l3_9.toInt - 1)) + (1 : Int)) := (z_X11_cutAll_30 l3_9.toInt x118.toInt (aI (G_9.2.1 (F a 47)) (l3_9.toInt - 1)) (aI (G_9.2.1 (F a 48)) (l3_9.toInt - 1)) (aI (G_9.2.1 (F a 49)) (l3_9.toInt - 1)) (aI (G_9.2.1 (F a 50)) (l3_9.toInt - 1)) (pn (mw (G_9.2.1 (F a 1)) 0)) z13 t118)
              refine as_0 (x := x118) S hK hT hS hk9999c ar_58 aw_58 (by decide) (by rw [(e15 : Int32.toInt x15 = (l3_9.toInt - (1 : Int)))]; exact (z_X11_cutAll_6 l3_9.toInt I9_0 c10)) dX11_cutAll_119 (fun H locs hT hS => ?_)
              obtain ⟨G119, hG119⟩ : ∃ GG : XG, GG = cput G_9 (F a 50) x15.toNatClampNeg x118 := ⟨_, rfl⟩
              rw [← hG119] at hT
              refine lv_aload_n hx hb dX11_cutAll_120 rfl (lv_at hl 3 rfl) ?_
              refine lv_iload hx hb dX11_cutAll_121 (lv_at hl 1 rfl) ?_
              refine lv_iconst (v := 1) hx hb dX11_cutAll_123 (by decide) ?_
              refine x_clp (x_runV (b := a) (As := [.int x97, .int 1]) (rest := []) S (c_X11_of l E K F G119 H a x97 1 ha (by rw [(hv97 : Int32.toInt x97 = (aI (G_9.2.1 (F a 49)) (l3_9.toInt - 1)))] <;> exact (z_X11_cutAll_23 l3_9.toInt (aI (G_9.2.1 (F a 47)) (l3_9.toInt - 1)) (aI (G_9.2.1 (F a 48)) (l3_9.toInt - 1)) (aI (G_9.2.1 (F a 49)) (l3_9.toInt - 1)) (aI (G_9.2.1 (F a 50)) (l3_9.toInt - 1)) (pn (mw (G_9.2.1 (F a 1)) 0)) z13 c27)) (by decide)) mv_X11_of km_X11_165 rfl rfl ⟨Nat.le_of_ble_eq_true rfl, Nat.le_of_ble_eq_true rfl⟩ (rc_13 hK hT ha) hK (fun _ => XPh.blind) (fun U hU hW => XPh.at hK hz hS hT hU hW) rfl hl.1 (Nat.le_of_ble_eq_true rfl) dX11_cutAll_124 ⟨Nat.le_of_ble_eq_true rfl, Nat.le_of_ble_eq_true rfl⟩) hS ?_
              rintro _ _ locs ⟨x124, rfl, t124⟩ hS
              have t124 : x124.toInt = (aI (G.2.1 (F a 10)) (10 * (aI (G_9.2.1 (F a 49)) (l3_9.toInt - 1)) + 1)) := by rw [(hv97 : Int32.toInt x97 = (aI (G_9.2.1 (F a 49)) (l3_9.toInt - 1)))] at t124; rw [(show G119.2.1 (F a 10) = G.2.1 (F a 10) from ((lc_c hG119 (xne_k hk9999e hk9999c (by decide))).trans ((hF_9.2.1 _ (xn1 (xne_k hk9999e hk9999 (by decide)) (xn1 (xne_k hk9999e hk9999a (by decide)) (xn1 (xne_k hk9999e hk9999b (by decide)) (xn1 (xne_k hk9999e hk9999c (by decide)) (xn1 (xne_k hk9999e hk9999d (by decide)) xn0)))))).trans (hF4.2.1 _ (xn1 (xne_k hk9999e hk9999 (by decide)) (xn1 (xne_k hk9999e hk9999a (by decide)) (xn1 (xne_k hk9999e hk9999b (by decide)) (xn1 (xne_k hk9999e hk9999c (by decide)) (xn1 (xne_k hk9999e hk9999d (by decide)) xn0)))))))))] at t124; exact t124
              refine lv_iload hx hb dX11_cutAll_127 (lv_at hl 0 rfl) ?_
              refine x_clp (x_runS (As := [.int x124, .int x106]) (rest := []) S (c_X11_at l E K F G119 H x124 x106) ms_X11_at km_X11_156 rfl rfl ⟨Nat.le_of_ble_eq_true rfl, Nat.le_of_ble_eq_true rfl⟩ hK (fun _ => XPh.blind) (fun U hU hW => XPh.at hK hz hS hT hU hW) rfl hl.1 (Nat.le_of_ble_eq_true rfl) dX11_cutAll_129 ⟨Nat.le_of_ble_eq_true rfl, Nat.le_of_ble_eq_true rfl⟩) hS ?_
              rintro _ _ locs ⟨x129, rfl, t129⟩ hS
              have t129 : 0 ≤ (aI (G.2.1 (F a 10)) (10 * (aI (G_9.2.1 (F a 49)) (l3_9.toInt - 1)) + 1)) ∧ (aI (G.2.1 (F a 10)) (10 * (aI (G_9.2.1 (F a 49)) (l3_9.toInt - 1)) + 1)) ≤ 2 ∧ 0 ≤ (aI (G_9.2.1 (F a 50)) (l3_9.toInt - 1)) ∧ (aI (G_9.2.1 (F a 50)) (l3_9.toInt - 1)) ≤ 29 → x129.toInt = 4 * (30 * (aI (G.2.1 (F a 10)) (10 * (aI (G_9.2.1 (F a 49)) (l3_9.toInt - 1)) + 1)) + (aI (G_9.2.1 (F a 50)) (l3_9.toInt - 1))) := by rw [(t124 : Int32.toInt x124 = (aI (G.2.1 (F a 10)) (10 * (aI (G_9.2.1 (F a 49)) (l3_9.toInt - 1)) + 1)))] at t129; rw [(hv106 : Int32.toInt x106 = (aI (G_9.2.1 (F a 50)) (l3_9.toInt - 1)))] at t129; exact t129
              refine lv_istore (lv' := [(7, .int x129), (6, .int x106), (5, .int x97), (4, .int x15), (0, .ref a), (3, .int l3_9)]) hx hb dX11_cutAll_132 hl (by decide) rfl (fun ls hl => ?_)
              have z134 : ((aI (G_9.2.1 (F a 1)) (0 + 4 * (30 * (aI (G.2.1 (F a 10)) (10 * (aI (G_9.2.1 (F a 49)) (l3_9.toInt - 1)) + 1)) + (aI (G_9.2.1 (F a 50)) (l3_9.toInt - 1))))) = 0 ∧ (cel (mw (G_9.2.1 (F a 1)) 0) (aI (G.2.1 (F a 10)) (10 * (aI (G_9.2.1 (F a 49)) (l3_9.toInt - 1)) + 1)) (aI (G_9.2.1 (F a 50)) (l3_9.toInt - 1)) (aI (G.2.1 (F a 10)) (10 * (aI (G_9.2.1 (F a 49)) (l3_9.toInt - 1)) + 2))) = -2000) ∨ ((aI (G_9.2.1 (F a 1)) (0 + 4 * (30 * (aI (G.2.1 (F a 10)) (10 * (aI (G_9.2.1 (F a 49)) (l3_9.toInt - 1)) + 1)) + (aI (G_9.2.1 (F a 50)) (l3_9.toInt - 1))))) = 1 ∧ (cel (mw (G_9.2.1 (F a 1)) 0) (aI (G.2.1 (F a 10)) (10 * (aI (G_9.2.1 (F a 49)) (l3_9.toInt - 1)) + 1)) (aI (G_9.2.1 (F a 50)) (l3_9.toInt - 1)) (aI (G.2.1 (F a 10)) (10 * (aI (G_9.2.1 (F a 49)) (l3_9.toInt - 1)) + 2))) = (aI (G_9.2.1 (F a 1)) (0 + 4 * (30 * (aI (G.2.1 (F a 10)) (10 * (aI (G_9.2.1 (F a 49)) (l3_9.toInt - 1)) + 1)) + (aI (G_9.2.1 (F a 50)) (l3_9.toInt - 1))) + 1 + (aI (G.2.1 (F a 10)) (10 * (aI (G_9.2.1 (F a 49)) (l3_9.toInt - 1)) + 2))))) := (rm.okc (z_X11_cutAll_33 l3_9.toInt (aI (G.2.1 (F a 10)) (10 * (aI (G_9.2.1 (F a 49)) (l3_9.toInt - 1)) + 0)) (aI (G.2.1 (F a 10)) (10 * (aI (G_9.2.1 (F a 49)) (l3_9.toInt - 1)) + 1)) (aI (G.2.1 (F a 10)) (10 * (aI (G_9.2.1 (F a 49)) (l3_9.toInt - 1)) + 2)) (aI (G_9.2.1 (F a 47)) (l3_9.toInt - 1)) (aI (G_9.2.1 (F a 48)) (l3_9.toInt - 1)) (aI (G_9.2.1 (F a 49)) (l3_9.toInt - 1)) (aI (G_9.2.1 (F a 50)) (l3_9.toInt - 1)) (pn (mw (G_9.2.1 (F a 1)) 0)) z13 c45 z91a)).imp id (fun h => ⟨h.1, h.2.1⟩)
              refine lv_aload_n hx hb dX11_cutAll_134 rfl (lv_at hl 4 rfl) ?_
              refine gX11_1 S hK hT ha kf_X11_9 dX11_cutAll_135 (fun _ _ => ?_)
              refine lv_iload hx hb dX11_cutAll_138 (lv_at hl 0 rfl) ?_
              refine al_0 S hK hT hk9999d ar_30 (by decide) (z_X11_cutAll_34 l3_9.toInt x129.toInt (aI (G.2.1 (F a 10)) (10 * (aI (G_9.2.1 (F a 49)) (l3_9.toInt - 1)) + 0)) (aI (G.2.1 (F a 10)) (10 * (aI (G_9.2.1 (F a 49)) (l3_9.toInt - 1)) + 1)) (aI (G.2.1 (F a 10)) (10 * (aI (G_9.2.1 (F a 49)) (l3_9.toInt - 1)) + 2)) (aI (G_9.2.1 (F a 47)) (l3_9.toInt - 1)) (aI (G_9.2.1 (F a 48)) (l3_9.toInt - 1)) (aI (G_9.2.1 (F a 49)) (l3_9.toInt - 1)) (aI (G_9.2.1 (F a 50)) (l3_9.toInt - 1)) (pn (mw (G_9.2.1 (F a 1)) 0)) z13 c45 z91a t129) dX11_cutAll_140 (fun x140 hv140 o140 => ?_)
              have hv140 : x140.toInt = (aI (G_9.2.1 (F a 1)) (0 + 4 * (30 * (aI (G.2.1 (F a 10)) (10 * (aI (G_9.2.1 (F a 49)) (l3_9.toInt - 1)) + 1)) + (aI (G_9.2.1 (F a 50)) (l3_9.toInt - 1))))) := hv140.trans (by rw [((rfl : Int32.toInt x129 = x129.toInt).trans (z_X11_cutAll_35 l3_9.toInt x129.toInt (aI (G.2.1 (F a 10)) (10 * (aI (G_9.2.1 (F a 49)) (l3_9.toInt - 1)) + 0)) (aI (G.2.1 (F a 10)) (10 * (aI (G_9.2.1 (F a 49)) (l3_9.toInt - 1)) + 1)) (aI (G.2.1 (F a 10)) (10 * (aI (G_9.2.1 (F a 49)) (l3_9.toInt - 1)) + 2)) (aI (G_9.2.1 (F a 47)) (l3_9.toInt - 1)) (aI (G_9.2.1 (F a 48)) (l3_9.toInt - 1)) (aI (G_9.2.1 (F a 49)) (l3_9.toInt - 1)) (aI (G_9.2.1 (F a 50)) (l3_9.toInt - 1)) (pn (mw (G_9.2.1 (F a 1)) 0)) z13 c45 z91a t129)), ((lc_c hG119 (xne_k hk9999d hk9999c (by decide))) : G119.2.1 (F a 1) = G_9.2.1 (F a 1))])
              refine lv_iconst (v := 1) hx hb dX11_cutAll_141 (by decide) ?_
              refine xi_cne (tgt := 224) hx hb (hv140 : Int32.toInt x140 = (aI (G_9.2.1 (F a 1)) (0 + 4 * (30 * (aI (G.2.1 (F a 10)) (10 * (aI (G_9.2.1 (F a 49)) (l3_9.toInt - 1)) + 1)) + (aI (G_9.2.1 (F a 50)) (l3_9.toInt - 1)))))) ((by decide) : Int32.toInt 1 = (1 : Int)) dX11_cutAll_142 (by decide) (fun c142 => ?_) (fun c142 => ?_)
              · have cs224 : cst (refA (G.2.1 (F a 10))) (refT (G.2.1 (F a 10))) (refC (G.2.1 (F a 10))) (gst (G_9.2.1 (F a 47)) (G_9.2.1 (F a 48)) (G_9.2.1 (F a 49)) (G_9.2.1 (F a 50)) (Int.toNat (l3_9.toInt)), mw (G_9.2.1 (F a 1)) 0) = (gst (G_9.2.1 (F a 47)) (G_9.2.1 (F a 48)) (G_9.2.1 (F a 49)) (G119.2.1 (F a 50)) (Int.toNat (l3_9.toInt)), mw (G_9.2.1 (F a 1)) 0) := (v_X11_cutAll_224_9 (K := K) (F := F) a G G4 G_9 G119 x15 x118 p0 p1 l3_9 N9 x63 x129 ha hG119 e15 e118 e1 e2 e3 en8 I9_0 I9_1 hm9 c10 z13 c27 c45 t63 c66 z91 z91a t129 z134 c142)
                have mu224 : (cmu (gst (G_9.2.1 (F a 47)) (G_9.2.1 (F a 48)) (G_9.2.1 (F a 49)) (G119.2.1 (F a 50)) (Int.toNat (l3_9.toInt)), mw (G_9.2.1 (F a 1)) 0)) < (cmu (gst (G_9.2.1 (F a 47)) (G_9.2.1 (F a 48)) (G_9.2.1 (F a 49)) (G_9.2.1 (F a 50)) (Int.toNat (l3_9.toInt)), mw (G_9.2.1 (F a 1)) 0)) ∧ 0 ≤ (cmu (gst (G_9.2.1 (F a 47)) (G_9.2.1 (F a 48)) (G_9.2.1 (F a 49)) (G119.2.1 (F a 50)) (Int.toNat (l3_9.toInt)), mw (G_9.2.1 (F a 1)) 0)) := ⟨cst_dn (refTo hR) iv cs224 (gst_p (z_X11_cutAll_4 l3_9.toInt c10)), cmu_b (cm_st (refTo hR) iv cs224).1⟩
                refine lv_goto (tgt := 9) hx hb dX11_cutAll_224 (by decide) ?_
                exact ih9 l3_9 G119 _ _ _ (by rw [hG119]; exact XFr.cput (XFr.call XFr.rf hF_9 xm0 (xm1 0 rfl (xm1 1 rfl (xm1 2 rfl (xm1 3 rfl (xm1 4 rfl xm0))))) xm0) (List.mem_of_getElem? (i := 3) rfl)) (by rw [(show G119.2.1 (F a 1) = G_9.2.1 (F a 1) from (lc_c hG119 (xne_k hk9999d hk9999c (by decide))))] <;> exact (v_X11_cutAll_224_10 (K := K) (F := F) a G G4 G_9 G119 p0 p1 l3_9 N9 x63 x129 ha rm e1 e2 e3 en8 I9_0 I9_1 hm9 c10 z13 c27 c45 t63 c66 z91 z91a t129 z134 c142 mu224 (lc_c hG119 (xne_k hk9999d hk9999c (by decide))))) (by rw [(show G119.2.1 (F a 47) = G_9.2.1 (F a 47) from (lc_c hG119 (xne_k hk9999 hk9999c (by decide)))), (show G119.2.1 (F a 48) = G_9.2.1 (F a 48) from (lc_c hG119 (xne_k hk9999a hk9999c (by decide)))), (show G119.2.1 (F a 49) = G_9.2.1 (F a 49) from (lc_c hG119 (xne_k hk9999b hk9999c (by decide)))), (show G119.2.1 (F a 1) = G_9.2.1 (F a 1) from (lc_c hG119 (xne_k hk9999d hk9999c (by decide))))] <;> exact (v_X11_cutAll_224_11 (F := F) a G G_9 G119 l3_9 hR iv cs224)) (by rw [(show G119.2.1 (F a 47) = G_9.2.1 (F a 47) from (lc_c hG119 (xne_k hk9999 hk9999c (by decide)))), (show G119.2.1 (F a 48) = G_9.2.1 (F a 48) from (lc_c hG119 (xne_k hk9999a hk9999c (by decide)))), (show G119.2.1 (F a 49) = G_9.2.1 (F a 49) from (lc_c hG119 (xne_k hk9999b hk9999c (by decide)))), (show G119.2.1 (F a 1) = G_9.2.1 (F a 1) from (lc_c hG119 (xne_k hk9999d hk9999c (by decide))))] <;> exact (v_X11_cutAll_224_12 (F := F) a G G_9 G119 p0 p1 l3_9 hR iv fi cs224)) (I9_0) (by rw [(show G119.2.1 (F a 47) = G_9.2.1 (F a 47) from (lc_c hG119 (xne_k hk9999 hk9999c (by decide)))), (show G119.2.1 (F a 48) = G_9.2.1 (F a 48) from (lc_c hG119 (xne_k hk9999a hk9999c (by decide)))), (show G119.2.1 (F a 49) = G_9.2.1 (F a 49) from (lc_c hG119 (xne_k hk9999b hk9999c (by decide)))), (show G119.2.1 (F a 1) = G_9.2.1 (F a 1) from (lc_c hG119 (xne_k hk9999d hk9999c (by decide))))] <;> exact (z_X11_cutAll_17 (cmu (gst (G_9.2.1 (F a 47)) (G_9.2.1 (F a 48)) (G_9.2.1 (F a 49)) (G119.2.1 (F a 50)) (Int.toNat (l3_9.toInt)), mw (G_9.2.1 (F a 1)) 0)) (cmu (gst (G_9.2.1 (F a 47)) (G_9.2.1 (F a 48)) (G_9.2.1 (F a 49)) (G_9.2.1 (F a 50)) (Int.toNat (l3_9.toInt)), mw (G_9.2.1 (F a 1)) 0)) mu224)) (by rw [(show G119.2.1 (F a 47) = G_9.2.1 (F a 47) from (lc_c hG119 (xne_k hk9999 hk9999c (by decide)))), (show G119.2.1 (F a 48) = G_9.2.1 (F a 48) from (lc_c hG119 (xne_k hk9999a hk9999c (by decide)))), (show G119.2.1 (F a 49) = G_9.2.1 (F a 49) from (lc_c hG119 (xne_k hk9999b hk9999c (by decide)))), (show G119.2.1 (F a 1) = G_9.2.1 (F a 1) from (lc_c hG119 (xne_k hk9999d hk9999c (by decide))))] <;> exact (z_X11_cutAll_18 N9 (cmu (gst (G_9.2.1 (F a 47)) (G_9.2.1 (F a 48)) (G_9.2.1 (F a 49)) (G119.2.1 (F a 50)) (Int.toNat (l3_9.toInt)), mw (G_9.2.1 (F a 1)) 0)) (cmu (gst (G_9.2.1 (F a 47)) (G_9.2.1 (F a 48)) (G_9.2.1 (F a 49)) (G_9.2.1 (F a 50)) (Int.toNat (l3_9.toInt)), mw (G_9.2.1 (F a 1)) 0)) hm9 mu224)) hT hS (lv_sub hl [4, 5] rfl)
              · refine lv_aload_n hx hb dX11_cutAll_145 rfl (lv_at hl 4 rfl) ?_
                refine gX11_1 S hK hT ha kf_X11_9 dX11_cutAll_146 (fun _ _ => ?_)
                refine lv_iload hx hb dX11_cutAll_149 (lv_at hl 0 rfl) ?_
                refine lv_iconst (v := 1) hx hb dX11_cutAll_151 (by decide) ?_
                refine xi_iadd hx hb (rfl : Int32.toInt x129 = x129.toInt) ((by decide) : Int32.toInt 1 = (1 : Int)) dX11_cutAll_152 (fun x152 t152 => ?_)
                refine lv_aload_n hx hb dX11_cutAll_153 rfl (lv_at hl 4 rfl) ?_
                refine lv_iload hx hb dX11_cutAll_154 (lv_at hl 2 rfl) ?_
                refine lv_iconst (v := 2) hx hb dX11_cutAll_156 (by decide) ?_
                refine x_clp (x_runV (b := a) (As := [.int x97, .int 2]) (rest := [.int x152, .ref (F a 1)]) S (c_X11_of l E K F G119 H a x97 2 ha (by rw [(hv97 : Int32.toInt x97 = (aI (G_9.2.1 (F a 49)) (l3_9.toInt - 1)))] <;> exact (z_X11_cutAll_23 l3_9.toInt (aI (G_9.2.1 (F a 47)) (l3_9.toInt - 1)) (aI (G_9.2.1 (F a 48)) (l3_9.toInt - 1)) (aI (G_9.2.1 (F a 49)) (l3_9.toInt - 1)) (aI (G_9.2.1 (F a 50)) (l3_9.toInt - 1)) (pn (mw (G_9.2.1 (F a 1)) 0)) z13 c27)) (by decide)) mv_X11_of km_X11_165 rfl rfl ⟨Nat.le_of_ble_eq_true rfl, Nat.le_of_ble_eq_true rfl⟩ (rc_13 hK hT ha) hK (fun _ => XPh.blind) (fun U hU hW => XPh.at hK hz hS hT hU hW) rfl hl.1 (Nat.le_of_ble_eq_true rfl) dX11_cutAll_157 ⟨Nat.le_of_ble_eq_true rfl, Nat.le_of_ble_eq_true rfl⟩) hS ?_
                rintro _ _ locs ⟨x157, rfl, t157⟩ hS
                have t157 : x157.toInt = (aI (G.2.1 (F a 10)) (10 * (aI (G_9.2.1 (F a 49)) (l3_9.toInt - 1)) + 2)) := by rw [(hv97 : Int32.toInt x97 = (aI (G_9.2.1 (F a 49)) (l3_9.toInt - 1)))] at t157; rw [(show G119.2.1 (F a 10) = G.2.1 (F a 10) from ((lc_c hG119 (xne_k hk9999e hk9999c (by decide))).trans ((hF_9.2.1 _ (xn1 (xne_k hk9999e hk9999 (by decide)) (xn1 (xne_k hk9999e hk9999a (by decide)) (xn1 (xne_k hk9999e hk9999b (by decide)) (xn1 (xne_k hk9999e hk9999c (by decide)) (xn1 (xne_k hk9999e hk9999d (by decide)) xn0)))))).trans (hF4.2.1 _ (xn1 (xne_k hk9999e hk9999 (by decide)) (xn1 (xne_k hk9999e hk9999a (by decide)) (xn1 (xne_k hk9999e hk9999b (by decide)) (xn1 (xne_k hk9999e hk9999c (by decide)) (xn1 (xne_k hk9999e hk9999d (by decide)) xn0)))))))))] at t157; exact t157
                refine xi_iadd hx hb (rfl : Int32.toInt x152 = x152.toInt) (t157 : Int32.toInt x157 = (aI (G.2.1 (F a 10)) (10 * (aI (G_9.2.1 (F a 49)) (l3_9.toInt - 1)) + 2))) dX11_cutAll_160 (fun x160 t160 => ?_)
                refine al_0 S hK hT hk9999d ar_30 (by decide) (z_X11_cutAll_41 l3_9.toInt x129.toInt x152.toInt x160.toInt (aI (G.2.1 (F a 10)) (10 * (aI (G_9.2.1 (F a 49)) (l3_9.toInt - 1)) + 0)) (aI (G.2.1 (F a 10)) (10 * (aI (G_9.2.1 (F a 49)) (l3_9.toInt - 1)) + 1)) (aI (G.2.1 (F a 10)) (10 * (aI (G_9.2.1 (F a 49)) (l3_9.toInt - 1)) + 2)) (aI (G_9.2.1 (F a 47)) (l3_9.toInt - 1)) (aI (G_9.2.1 (F a 48)) (l3_9.toInt - 1)) (aI (G_9.2.1 (F a 49)) (l3_9.toInt - 1)) (aI (G_9.2.1 (F a 50)) (l3_9.toInt - 1)) (pn (mw (G_9.2.1 (F a 1)) 0)) z13 c45 z91a t129 t152 t160) dX11_cutAll_161 (fun x161 hv161 o161 => ?_)
                have hv161 : x161.toInt = (aI (G_9.2.1 (F a 1)) (0 + 4 * (30 * (aI (G.2.1 (F a 10)) (10 * (aI (G_9.2.1 (F a 49)) (l3_9.toInt - 1)) + 1)) + (aI (G_9.2.1 (F a 50)) (l3_9.toInt - 1))) + 1 + (aI (G.2.1 (F a 10)) (10 * (aI (G_9.2.1 (F a 49)) (l3_9.toInt - 1)) + 2)))) := hv161.trans (by rw [((rfl : Int32.toInt x160 = x160.toInt).trans (z_X11_cutAll_42 l3_9.toInt x129.toInt x152.toInt x160.toInt (aI (G.2.1 (F a 10)) (10 * (aI (G_9.2.1 (F a 49)) (l3_9.toInt - 1)) + 0)) (aI (G.2.1 (F a 10)) (10 * (aI (G_9.2.1 (F a 49)) (l3_9.toInt - 1)) + 1)) (aI (G.2.1 (F a 10)) (10 * (aI (G_9.2.1 (F a 49)) (l3_9.toInt - 1)) + 2)) (aI (G_9.2.1 (F a 47)) (l3_9.toInt - 1)) (aI (G_9.2.1 (F a 48)) (l3_9.toInt - 1)) (aI (G_9.2.1 (F a 49)) (l3_9.toInt - 1)) (aI (G_9.2.1 (F a 50)) (l3_9.toInt - 1)) (pn (mw (G_9.2.1 (F a 1)) 0)) z13 c45 z91a t129 t152 t160)), ((lc_c hG119 (xne_k hk9999d hk9999c (by decide))) : G119.2.1 (F a 1) = G_9.2.1 (F a 1))])
                refine lv_aload_n hx hb dX11_cutAll_162 rfl (lv_at hl 4 rfl) ?_
                refine gX11_48 S hK hT ha kf_X11_121 dX11_cutAll_163 (fun _ _ => ?_)
                refine lv_iload hx hb dX11_cutAll_166 (lv_at hl 3 rfl) ?_
                refine al_0 S hK hT hk9999a ar_56 (by decide) (by rw [(e15 : Int32.toInt x15 = (l3_9.toInt - (1 : Int)))]; exact (z_X11_cutAll_6 l3_9.toInt I9_0 c10)) dX11_cutAll_168 (fun x168 hv168 o168 => ?_)
                have hv168 : x168.toInt = (aI (G_9.2.1 (F a 48)) (l3_9.toInt - 1)) := hv168.trans (by rw [((e15 : Int32.toInt x15 = (l3_9.toInt - (1 : Int))).trans (z_X11_cutAll_7 l3_9.toInt)), ((lc_c hG119 (xne_k hk9999a hk9999c (by decide))) : G119.2.1 (F a 48) = G_9.2.1 (F a 48))])
                refine xi_cne (tgt := 224) hx hb (hv161 : Int32.toInt x161 = (aI (G_9.2.1 (F a 1)) (0 + 4 * (30 * (aI (G.2.1 (F a 10)) (10 * (aI (G_9.2.1 (F a 49)) (l3_9.toInt - 1)) + 1)) + (aI (G_9.2.1 (F a 50)) (l3_9.toInt - 1))) + 1 + (aI (G.2.1 (F a 10)) (10 * (aI (G_9.2.1 (F a 49)) (l3_9.toInt - 1)) + 2))))) (hv168 : Int32.toInt x168 = (aI (G_9.2.1 (F a 48)) (l3_9.toInt - 1))) dX11_cutAll_169 (by decide) (fun c169 => ?_) (fun c169 => ?_)
                · have cs224 : cst (refA (G.2.1 (F a 10))) (refT (G.2.1 (F a 10))) (refC (G.2.1 (F a 10))) (gst (G_9.2.1 (F a 47)) (G_9.2.1 (F a 48)) (G_9.2.1 (F a 49)) (G_9.2.1 (F a 50)) (Int.toNat (l3_9.toInt)), mw (G_9.2.1 (F a 1)) 0) = (gst (G_9.2.1 (F a 47)) (G_9.2.1 (F a 48)) (G_9.2.1 (F a 49)) (G119.2.1 (F a 50)) (Int.toNat (l3_9.toInt)), mw (G_9.2.1 (F a 1)) 0) := (v_X11_cutAll_224_13 (K := K) (F := F) a G G4 G_9 G119 x15 x118 p0 p1 l3_9 N9 x63 x129 ha hG119 e15 e118 e1 e2 e3 en8 I9_0 I9_1 hm9 c10 z13 c27 c45 t63 c66 z91 z91a t129 z134 c142 c169)
                  have mu224 : (cmu (gst (G_9.2.1 (F a 47)) (G_9.2.1 (F a 48)) (G_9.2.1 (F a 49)) (G119.2.1 (F a 50)) (Int.toNat (l3_9.toInt)), mw (G_9.2.1 (F a 1)) 0)) < (cmu (gst (G_9.2.1 (F a 47)) (G_9.2.1 (F a 48)) (G_9.2.1 (F a 49)) (G_9.2.1 (F a 50)) (Int.toNat (l3_9.toInt)), mw (G_9.2.1 (F a 1)) 0)) ∧ 0 ≤ (cmu (gst (G_9.2.1 (F a 47)) (G_9.2.1 (F a 48)) (G_9.2.1 (F a 49)) (G119.2.1 (F a 50)) (Int.toNat (l3_9.toInt)), mw (G_9.2.1 (F a 1)) 0)) := ⟨cst_dn (refTo hR) iv cs224 (gst_p (z_X11_cutAll_4 l3_9.toInt c10)), cmu_b (cm_st (refTo hR) iv cs224).1⟩
                  refine lv_goto (tgt := 9) hx hb dX11_cutAll_224 (by decide) ?_
                  exact ih9 l3_9 G119 _ _ _ (by rw [hG119]; exact XFr.cput (XFr.call XFr.rf hF_9 xm0 (xm1 0 rfl (xm1 1 rfl (xm1 2 rfl (xm1 3 rfl (xm1 4 rfl xm0))))) xm0) (List.mem_of_getElem? (i := 3) rfl)) (by rw [(show G119.2.1 (F a 1) = G_9.2.1 (F a 1) from (lc_c hG119 (xne_k hk9999d hk9999c (by decide))))] <;> exact (v_X11_cutAll_224_14 (K := K) (F := F) a G G4 G_9 G119 p0 p1 l3_9 N9 x63 x129 ha rm e1 e2 e3 en8 I9_0 I9_1 hm9 c10 z13 c27 c45 t63 c66 z91 z91a t129 z134 c142 c169 mu224 (lc_c hG119 (xne_k hk9999d hk9999c (by decide))))) (by rw [(show G119.2.1 (F a 47) = G_9.2.1 (F a 47) from (lc_c hG119 (xne_k hk9999 hk9999c (by decide)))), (show G119.2.1 (F a 48) = G_9.2.1 (F a 48) from (lc_c hG119 (xne_k hk9999a hk9999c (by decide)))), (show G119.2.1 (F a 49) = G_9.2.1 (F a 49) from (lc_c hG119 (xne_k hk9999b hk9999c (by decide)))), (show G119.2.1 (F a 1) = G_9.2.1 (F a 1) from (lc_c hG119 (xne_k hk9999d hk9999c (by decide))))] <;> exact (v_X11_cutAll_224_15 (F := F) a G G_9 G119 l3_9 hR iv cs224)) (by rw [(show G119.2.1 (F a 47) = G_9.2.1 (F a 47) from (lc_c hG119 (xne_k hk9999 hk9999c (by decide)))), (show G119.2.1 (F a 48) = G_9.2.1 (F a 48) from (lc_c hG119 (xne_k hk9999a hk9999c (by decide)))), (show G119.2.1 (F a 49) = G_9.2.1 (F a 49) from (lc_c hG119 (xne_k hk9999b hk9999c (by decide)))), (show G119.2.1 (F a 1) = G_9.2.1 (F a 1) from (lc_c hG119 (xne_k hk9999d hk9999c (by decide))))] <;> exact (v_X11_cutAll_224_16 (F := F) a G G_9 G119 p0 p1 l3_9 hR iv fi cs224)) (I9_0) (by rw [(show G119.2.1 (F a 47) = G_9.2.1 (F a 47) from (lc_c hG119 (xne_k hk9999 hk9999c (by decide)))), (show G119.2.1 (F a 48) = G_9.2.1 (F a 48) from (lc_c hG119 (xne_k hk9999a hk9999c (by decide)))), (show G119.2.1 (F a 49) = G_9.2.1 (F a 49) from (lc_c hG119 (xne_k hk9999b hk9999c (by decide)))), (show G119.2.1 (F a 1) = G_9.2.1 (F a 1) from (lc_c hG119 (xne_k hk9999d hk9999c (by decide))))] <;> exact (z_X11_cutAll_17 (cmu (gst (G_9.2.1 (F a 47)) (G_9.2.1 (F a 48)) (G_9.2.1 (F a 49)) (G119.2.1 (F a 50)) (Int.toNat (l3_9.toInt)), mw (G_9.2.1 (F a 1)) 0)) (cmu (gst (G_9.2.1 (F a 47)) (G_9.2.1 (F a 48)) (G_9.2.1 (F a 49)) (G_9.2.1 (F a 50)) (Int.toNat (l3_9.toInt)), mw (G_9.2.1 (F a 1)) 0)) mu224)) (by rw [(show G119.2.1 (F a 47) = G_9.2.1 (F a 47) from (lc_c hG119 (xne_k hk9999 hk9999c (by decide)))), (show G119.2.1 (F a 48) = G_9.2.1 (F a 48) from (lc_c hG119 (xne_k hk9999a hk9999c (by decide)))), (show G119.2.1 (F a 49) = G_9.2.1 (F a 49) from (lc_c hG119 (xne_k hk9999b hk9999c (by decide)))), (show G119.2.1 (F a 1) = G_9.2.1 (F a 1) from (lc_c hG119 (xne_k hk9999d hk9999c (by decide))))] <;> exact (z_X11_cutAll_18 N9 (cmu (gst (G_9.2.1 (F a 47)) (G_9.2.1 (F a 48)) (G_9.2.1 (F a 49)) (G119.2.1 (F a 50)) (Int.toNat (l3_9.toInt)), mw (G_9.2.1 (F a 1)) 0)) (cmu (gst (G_9.2.1 (F a 47)) (G_9.2.1 (F a 48)) (G_9.2.1 (F a 49)) (G_9.2.1 (F a 50)) (Int.toNat (l3_9.toInt)), mw (G_9.2.1 (F a 1)) 0)) hm9 mu224)) hT hS (lv_sub hl [4, 5] rfl)
                · refine lv_aload_n hx hb dX11_cutAll_172 rfl (lv_at hl 4 rfl) ?_
                  refine lv_iload hx hb dX11_cutAll_173 (lv_at hl 2 rfl) ?_
                  refine lv_bipush (v := 8) hx hb dX11_cutAll_175 (by decide) ?_
                  refine x_clp (x_runV (b := a) (As := [.int x97, .int 8]) (rest := []) S (c_X11_of l E K F G119 H a x97 8 ha (by rw [(hv97 : Int32.toInt x97 = (aI (G_9.2.1 (F a 49)) (l3_9.toInt - 1)))] <;> exact (z_X11_cutAll_23 l3_9.toInt (aI (G_9.2.1 (F a 47)) (l3_9.toInt - 1)) (aI (G_9.2.1 (F a 48)) (l3_9.toInt - 1)) (aI (G_9.2.1 (F a 49)) (l3_9.toInt - 1)) (aI (G_9.2.1 (F a 50)) (l3_9.toInt - 1)) (pn (mw (G_9.2.1 (F a 1)) 0)) z13 c27)) (by decide)) mv_X11_of km_X11_165 rfl rfl ⟨Nat.le_of_ble_eq_true rfl, Nat.le_of_ble_eq_true rfl⟩ (rc_13 hK hT ha) hK (fun _ => XPh.blind) (fun U hU hW => XPh.at hK hz hS hT hU hW) rfl hl.1 (Nat.le_of_ble_eq_true rfl) dX11_cutAll_177 ⟨Nat.le_of_ble_eq_true rfl, Nat.le_of_ble_eq_true rfl⟩) hS ?_
                  rintro _ _ locs ⟨x177, rfl, t177⟩ hS
                  have t177 : x177.toInt = (aI (G.2.1 (F a 10)) (10 * (aI (G_9.2.1 (F a 49)) (l3_9.toInt - 1)) + 8)) := by rw [(hv97 : Int32.toInt x97 = (aI (G_9.2.1 (F a 49)) (l3_9.toInt - 1)))] at t177; rw [(show G119.2.1 (F a 10) = G.2.1 (F a 10) from ((lc_c hG119 (xne_k hk9999e hk9999c (by decide))).trans ((hF_9.2.1 _ (xn1 (xne_k hk9999e hk9999 (by decide)) (xn1 (xne_k hk9999e hk9999a (by decide)) (xn1 (xne_k hk9999e hk9999b (by decide)) (xn1 (xne_k hk9999e hk9999c (by decide)) (xn1 (xne_k hk9999e hk9999d (by decide)) xn0)))))).trans (hF4.2.1 _ (xn1 (xne_k hk9999e hk9999 (by decide)) (xn1 (xne_k hk9999e hk9999a (by decide)) (xn1 (xne_k hk9999e hk9999b (by decide)) (xn1 (xne_k hk9999e hk9999c (by decide)) (xn1 (xne_k hk9999e hk9999d (by decide)) xn0)))))))))] at t177; exact t177
                  refine lv_iconst (v := 2) hx hb dX11_cutAll_180 (by decide) ?_
                  refine xi_cne (tgt := 207) hx hb (t177 : Int32.toInt x177 = (aI (G.2.1 (F a 10)) (10 * (aI (G_9.2.1 (F a 49)) (l3_9.toInt - 1)) + 8))) ((by decide) : Int32.toInt 2 = (2 : Int)) dX11_cutAll_181 (by decide) (fun c181 => ?_) (fun c181 => ?_)
                  · have z207 : 1 ≤ (pn (mw (G_9.2.1 (F a 1)) 0)) := pn_pos (t := aI (G.2.1 (F a 10)) (10 * (aI (G_9.2.1 (F a 49)) (l3_9.toInt - 1)) + 1)) (k := aI (G_9.2.1 (F a 50)) (l3_9.toInt - 1)) (c := aI (G.2.1 (F a 10)) (10 * (aI (G_9.2.1 (F a 49)) (l3_9.toInt - 1)) + 2)) rm.rc (z_X11_cutAll_50 l3_9.toInt (aI (G_9.2.1 (F a 1)) (0 + 4 * (30 * (aI (G.2.1 (F a 10)) (10 * (aI (G_9.2.1 (F a 49)) (l3_9.toInt - 1)) + 1)) + (aI (G_9.2.1 (F a 50)) (l3_9.toInt - 1))) + 1 + (aI (G.2.1 (F a 10)) (10 * (aI (G_9.2.1 (F a 49)) (l3_9.toInt - 1)) + 2)))) (aI (G_9.2.1 (F a 1)) (0 + 4 * (30 * (aI (G.2.1 (F a 10)) (10 * (aI (G_9.2.1 (F a 49)) (l3_9.toInt - 1)) + 1)) + (aI (G_9.2.1 (F a 50)) (l3_9.toInt - 1))))) (aI (G_9.2.1 (F a 47)) (l3_9.toInt - 1)) (aI (G_9.2.1 (F a 48)) (l3_9.toInt - 1)) (aI (G_9.2.1 (F a 49)) (l3_9.toInt - 1)) (aI (G_9.2.1 (F a 50)) (l3_9.toInt - 1)) (cel (mw (G_9.2.1 (F a 1)) 0) (aI (G.2.1 (F a 10)) (10 * (aI (G_9.2.1 (F a 49)) (l3_9.toInt - 1)) + 1)) (aI (G_9.2.1 (F a 50)) (l3_9.toInt - 1)) (aI (G.2.1 (F a 10)) (10 * (aI (G_9.2.1 (F a 49)) (l3_9.toInt - 1)) + 2))) (pn (mw (G_9.2.1 (F a 1)) 0)) z13 z134 c142 c169)
                    refine lv_aload_n hx hb dX11_cutAll_207 rfl (lv_at hl 4 rfl) ?_
                    refine lv_iload_n hx hb dX11_cutAll_208 rfl (lv_at hl 5 rfl) ?_
                    refine lv_aload_n hx hb dX11_cutAll_209 rfl (lv_at hl 4 rfl) ?_
                    refine lv_iload hx hb dX11_cutAll_210 (lv_at hl 2 rfl) ?_
                    refine lv_iconst (v := 1) hx hb dX11_cutAll_212 (by decide) ?_
                    refine x_clp (x_runV (b := a) (As := [.int x97, .int 1]) (rest := [.int l3_9, .ref a]) S (c_X11_of l E K F G119 H a x97 1 ha (by rw [(hv97 : Int32.toInt x97 = (aI (G_9.2.1 (F a 49)) (l3_9.toInt - 1)))] <;> exact (z_X11_cutAll_23 l3_9.toInt (aI (G_9.2.1 (F a 47)) (l3_9.toInt - 1)) (aI (G_9.2.1 (F a 48)) (l3_9.toInt - 1)) (aI (G_9.2.1 (F a 49)) (l3_9.toInt - 1)) (aI (G_9.2.1 (F a 50)) (l3_9.toInt - 1)) (pn (mw (G_9.2.1 (F a 1)) 0)) z13 c27)) (by decide)) mv_X11_of km_X11_165 rfl rfl ⟨Nat.le_of_ble_eq_true rfl, Nat.le_of_ble_eq_true rfl⟩ (rc_13 hK hT ha) hK (fun _ => XPh.blind) (fun U hU hW => XPh.at hK hz hS hT hU hW) rfl hl.1 (Nat.le_of_ble_eq_true rfl) dX11_cutAll_213 ⟨Nat.le_of_ble_eq_true rfl, Nat.le_of_ble_eq_true rfl⟩) hS ?_
                    rintro _ _ locs ⟨x213, rfl, t213⟩ hS
                    have t213 : x213.toInt = (aI (G.2.1 (F a 10)) (10 * (aI (G_9.2.1 (F a 49)) (l3_9.toInt - 1)) + 1)) := by rw [(hv97 : Int32.toInt x97 = (aI (G_9.2.1 (F a 49)) (l3_9.toInt - 1)))] at t213; rw [(show G119.2.1 (F a 10) = G.2.1 (F a 10) from ((lc_c hG119 (xne_k hk9999e hk9999c (by decide))).trans ((hF_9.2.1 _ (xn1 (xne_k hk9999e hk9999 (by decide)) (xn1 (xne_k hk9999e hk9999a (by decide)) (xn1 (xne_k hk9999e hk9999b (by decide)) (xn1 (xne_k hk9999e hk9999c (by decide)) (xn1 (xne_k hk9999e hk9999d (by decide)) xn0)))))).trans (hF4.2.1 _ (xn1 (xne_k hk9999e hk9999 (by decide)) (xn1 (xne_k hk9999e hk9999a (by decide)) (xn1 (xne_k hk9999e hk9999b (by decide)) (xn1 (xne_k hk9999e hk9999c (by decide)) (xn1 (xne_k hk9999e hk9999d (by decide)) xn0)))))))))] at t213; exact t213
                    refine lv_iload hx hb dX11_cutAll_216 (lv_at hl 1 rfl) ?_
                    refine x_cv0 (x_runV (b := a) (As := [.int l3_9, .int x213, .int x106]) (rest := []) S (c_X11_goes l E K F G119 a l3_9 x213 x106 ha (z_X11_cutAll_52 l3_9.toInt (aI (G_9.2.1 (F a 47)) (l3_9.toInt - 1)) (aI (G_9.2.1 (F a 48)) (l3_9.toInt - 1)) (aI (G_9.2.1 (F a 49)) (l3_9.toInt - 1)) (aI (G_9.2.1 (F a 50)) (l3_9.toInt - 1)) (pn (mw (G_9.2.1 (F a 1)) 0)) c10 z13 z207) (by rw [(t213 : Int32.toInt x213 = (aI (G.2.1 (F a 10)) (10 * (aI (G_9.2.1 (F a 49)) (l3_9.toInt - 1)) + 1)))] <;> exact (z_X11_cutAll_53 (aI (G.2.1 (F a 10)) (10 * (aI (G_9.2.1 (F a 49)) (l3_9.toInt - 1)) + 0)) (aI (G.2.1 (F a 10)) (10 * (aI (G_9.2.1 (F a 49)) (l3_9.toInt - 1)) + 1)) (aI (G.2.1 (F a 10)) (10 * (aI (G_9.2.1 (F a 49)) (l3_9.toInt - 1)) + 2)) z91a)) (by rw [(hv106 : Int32.toInt x106 = (aI (G_9.2.1 (F a 50)) (l3_9.toInt - 1)))] <;> exact (z_X11_cutAll_54 l3_9.toInt (aI (G_9.2.1 (F a 47)) (l3_9.toInt - 1)) (aI (G_9.2.1 (F a 48)) (l3_9.toInt - 1)) (aI (G_9.2.1 (F a 49)) (l3_9.toInt - 1)) (aI (G_9.2.1 (F a 50)) (l3_9.toInt - 1)) (pn (mw (G_9.2.1 (F a 1)) 0)) z13 c45)) (v_X11_cutAll_218_17 (F := F) a G G4 G_9 G119 hM oq4e rm (lc_c hG119 (xne_k hk9999d hk9999c (by decide))))) mv_X11_goes km_X11_363 rfl rfl ⟨Nat.le_of_ble_eq_true rfl, Nat.le_of_ble_eq_true rfl⟩ (rc_13 hK hT ha) hK (fun _ => XP.blind) (fun U hU hW => XP.at hK hz hS hT hU hW) rfl hl.1 (Nat.le_of_ble_eq_true rfl) dX11_cutAll_218 ⟨Nat.le_of_ble_eq_true rfl, Nat.le_of_ble_eq_true rfl⟩) hS ?_
                    rintro G218 H locs ⟨hF218, oq218, oq218a, oq218b, oq218c, oq218d, oq218e⟩ hT hS
                    have oq218 : ∀ z : Int, 0 ≤ z → aI (G218.2.1 (F a 47)) z = if z = l3_9.toInt then (aI (G.2.1 (F a 10)) (10 * (aI (G_9.2.1 (F a 49)) (l3_9.toInt - 1)) + 1)) else aI (G_9.2.1 (F a 47)) z := by simp only [(t213 : Int32.toInt x213 = (aI (G.2.1 (F a 10)) (10 * (aI (G_9.2.1 (F a 49)) (l3_9.toInt - 1)) + 1))), (show G119.2.1 (F a 47) = G_9.2.1 (F a 47) from (lc_c hG119 (xne_k hk9999 hk9999c (by decide))))] at oq218; exact oq218
                    have oq218a : ∀ z : Int, 0 ≤ z → aI (G218.2.1 (F a 48)) z = if z = l3_9.toInt then (aI (G_9.2.1 (F a 50)) (l3_9.toInt - 1)) else aI (G_9.2.1 (F a 48)) z := by simp only [(hv106 : Int32.toInt x106 = (aI (G_9.2.1 (F a 50)) (l3_9.toInt - 1))), (show G119.2.1 (F a 48) = G_9.2.1 (F a 48) from (lc_c hG119 (xne_k hk9999a hk9999c (by decide))))] at oq218a; exact oq218a
                    have oq218b : ∀ z : Int, 0 ≤ z → aI (G218.2.1 (F a 49)) z = if z = l3_9.toInt then 0 else aI (G_9.2.1 (F a 49)) z := by simp only [(show G119.2.1 (F a 49) = G_9.2.1 (F a 49) from (lc_c hG119 (xne_k hk9999b hk9999c (by decide))))] at oq218b; exact oq218b
                    have oq218d : mw (G218.2.1 (F a 1)) 0 = rfil (mw (G_9.2.1 (F a 1)) 0) (aI (G.2.1 (F a 10)) (10 * (aI (G_9.2.1 (F a 49)) (l3_9.toInt - 1)) + 1)) (aI (G_9.2.1 (F a 50)) (l3_9.toInt - 1)) (-2000) 3 := by simp only [(t213 : Int32.toInt x213 = (aI (G.2.1 (F a 10)) (10 * (aI (G_9.2.1 (F a 49)) (l3_9.toInt - 1)) + 1))), (hv106 : Int32.toInt x106 = (aI (G_9.2.1 (F a 50)) (l3_9.toInt - 1))), (show G119.2.1 (F a 1) = G_9.2.1 (F a 1) from (lc_c hG119 (xne_k hk9999d hk9999c (by decide))))] at oq218d; exact oq218d
                    refine xi_iinc (n := 1) (lv' := fun z9 => [(3, .int z9), (7, .int x129), (6, .int x106), (5, .int x97), (4, .int x15), (0, .ref a)]) (k := 5) hx hb (rfl : Int32.toInt l3_9 = l3_9.toInt) (by decide) dX11_cutAll_221 hl rfl (by decide) (fun _ => rfl) (fun x221 ls t221 hl => ?_)
                    have e221 : x221.toInt = (l3_9.toInt + 1) := (z_X11_cutAll_55 l3_9.toInt x221.toInt I9_0 t221)
                    have hl : lv_has ls 8 [(3, .int x221), (7, .int x129), (6, .int x106), (5, .int x97), (4, .int x15), (0, .ref a)] := hl
                    have cs224 : cst (refA (G.2.1 (F a 10))) (refT (G.2.1 (F a 10))) (refC (G.2.1 (F a 10))) (gst (G_9.2.1 (F a 47)) (G_9.2.1 (F a 48)) (G_9.2.1 (F a 49)) (G_9.2.1 (F a 50)) (Int.toNat (l3_9.toInt)), mw (G_9.2.1 (F a 1)) 0) = (gst (G218.2.1 (F a 47)) (G218.2.1 (F a 48)) (G218.2.1 (F a 49)) (G218.2.1 (F a 50)) (Int.toNat (l3_9.toInt + 1)), mw (G218.2.1 (F a 1)) 0) := (v_X11_cutAll_224_18 (K := K) (F := F) a G G4 G_9 G119 x15 x118 G218 p0 p1 l3_9 N9 x63 x129 ha hG119 e15 e118 oq218 oq218a oq218b oq218c oq218d e1 e2 e3 en8 I9_0 I9_1 hm9 c10 z13 c27 c45 t63 c66 z91 z91a t129 z134 c142 c169 c181 z207)
                    have mu224 : (cmu (gst (G218.2.1 (F a 47)) (G218.2.1 (F a 48)) (G218.2.1 (F a 49)) (G218.2.1 (F a 50)) (Int.toNat (l3_9.toInt + 1)), mw (G218.2.1 (F a 1)) 0)) < (cmu (gst (G_9.2.1 (F a 47)) (G_9.2.1 (F a 48)) (G_9.2.1 (F a 49)) (G_9.2.1 (F a 50)) (Int.toNat (l3_9.toInt)), mw (G_9.2.1 (F a 1)) 0)) ∧ 0 ≤ (cmu (gst (G218.2.1 (F a 47)) (G218.2.1 (F a 48)) (G218.2.1 (F a 49)) (G218.2.1 (F a 50)) (Int.toNat (l3_9.toInt + 1)), mw (G218.2.1 (F a 1)) 0)) := ⟨cst_dn (refTo hR) iv cs224 (gst_p (z_X11_cutAll_4 l3_9.toInt c10)), cmu_b (cm_st (refTo hR) iv cs224).1⟩
                    refine lv_goto (tgt := 9) hx hb dX11_cutAll_224 (by decide) ?_
                    exact ih9 x221 G218 _ _ _ (XFr.call (by rw [hG119]; exact XFr.cput (XFr.call XFr.rf hF_9 xm0 (xm1 0 rfl (xm1 1 rfl (xm1 2 rfl (xm1 3 rfl (xm1 4 rfl xm0))))) xm0) (List.mem_of_getElem? (i := 3) rfl)) hF218 xm0 (xm1 0 rfl (xm1 1 rfl (xm1 2 rfl (xm1 3 rfl (xm1 4 rfl xm0))))) xm0) (v_X11_cutAll_224_19 (K := K) (F := F) a G G4 G_9 G119 G218 p0 p1 l3_9 N9 x63 x129 ha rm oq218e e1 e2 e3 en8 I9_0 I9_1 hm9 c10 z13 c27 c45 t63 c66 z91 z91a t129 z134 c142 c169 c181 z207 mu224 (lc_c hG119 (xne_k hk9999d hk9999c (by decide)))) (by rw [(e221 : Int32.toInt x221 = (l3_9.toInt + 1))] <;> exact (v_X11_cutAll_224_20 (F := F) a G G_9 G218 l3_9 hR iv cs224)) (by rw [(e221 : Int32.toInt x221 = (l3_9.toInt + 1))] <;> exact (v_X11_cutAll_224_21 (F := F) a G G_9 G218 p0 p1 l3_9 hR iv fi cs224)) (by rw [(e221 : Int32.toInt x221 = (l3_9.toInt + 1))] <;> exact (z_X11_cutAll_57 l3_9.toInt (aI (G_9.2.1 (F a 47)) (l3_9.toInt - 1)) (aI (G_9.2.1 (F a 48)) (l3_9.toInt - 1)) (aI (G_9.2.1 (F a 49)) (l3_9.toInt - 1)) (aI (G_9.2.1 (F a 50)) (l3_9.toInt - 1)) (pn (mw (G_9.2.1 (F a 1)) 0)) c10 z13 z207)) (by rw [(e221 : Int32.toInt x221 = (l3_9.toInt + 1))] <;> exact (z_X11_cutAll_17 (cmu (gst (G218.2.1 (F a 47)) (G218.2.1 (F a 48)) (G218.2.1 (F a 49)) (G218.2.1 (F a 50)) (Int.toNat (l3_9.toInt + 1)), mw (G218.2.1 (F a 1)) 0)) (cmu (gst (G_9.2.1 (F a 47)) (G_9.2.1 (F a 48)) (G_9.2.1 (F a 49)) (G_9.2.1 (F a 50)) (Int.toNat (l3_9.toInt)), mw (G_9.2.1 (F a 1)) 0)) mu224)) (by rw [(e221 : Int32.toInt x221 = (l3_9.toInt + 1))] <;> exact (z_X11_cutAll_18 N9 (cmu (gst (G218.2.1 (F a 47)) (G218.2.1 (F a 48)) (G218.2.1 (F a 49)) (G218.2.1 (F a 50)) (Int.toNat (l3_9.toInt + 1)), mw (G218.2.1 (F a 1)) 0)) (cmu (gst (G_9.2.1 (F a 47)) (G_9.2.1 (F a 48)) (G_9.2.1 (F a 49)) (G_9.2.1 (F a 50)) (Int.toNat (l3_9.toInt)), mw (G_9.2.1 (F a 1)) 0)) hm9 mu224)) hT hS (lv_sub hl [5, 0] rfl)
                  · refine lv_aload_n hx hb dX11_cutAll_184 rfl (lv_at hl 4 rfl) ?_
                    refine gX11_1 S hK hT ha kf_X11_9 dX11_cutAll_185 (fun _ _ => ?_)
                    refine lv_iload hx hb dX11_cutAll_188 (lv_at hl 0 rfl) ?_
                    refine lv_iconst (v := 1) hx hb dX11_cutAll_190 (by decide) ?_
                    refine xi_iadd hx hb (rfl : Int32.toInt x129 = x129.toInt) ((by decide) : Int32.toInt 1 = (1 : Int)) dX11_cutAll_191 (fun x191 t191 => ?_)
                    refine lv_aload_n hx hb dX11_cutAll_192 rfl (lv_at hl 4 rfl) ?_
                    refine lv_iload hx hb dX11_cutAll_193 (lv_at hl 2 rfl) ?_
                    refine lv_iconst (v := 2) hx hb dX11_cutAll_195 (by decide) ?_
                    refine x_clp (x_runV (b := a) (As := [.int x97, .int 2]) (rest := [.int x191, .ref (F a 1)]) S (c_X11_of l E K F G119 H a x97 2 ha (by rw [(hv97 : Int32.toInt x97 = (aI (G_9.2.1 (F a 49)) (l3_9.toInt - 1)))] <;> exact (z_X11_cutAll_23 l3_9.toInt (aI (G_9.2.1 (F a 47)) (l3_9.toInt - 1)) (aI (G_9.2.1 (F a 48)) (l3_9.toInt - 1)) (aI (G_9.2.1 (F a 49)) (l3_9.toInt - 1)) (aI (G_9.2.1 (F a 50)) (l3_9.toInt - 1)) (pn (mw (G_9.2.1 (F a 1)) 0)) z13 c27)) (by decide)) mv_X11_of km_X11_165 rfl rfl ⟨Nat.le_of_ble_eq_true rfl, Nat.le_of_ble_eq_true rfl⟩ (rc_13 hK hT ha) hK (fun _ => XPh.blind) (fun U hU hW => XPh.at hK hz hS hT hU hW) rfl hl.1 (Nat.le_of_ble_eq_true rfl) dX11_cutAll_196 ⟨Nat.le_of_ble_eq_true rfl, Nat.le_of_ble_eq_true rfl⟩) hS ?_
                    rintro _ _ locs ⟨x196, rfl, t196⟩ hS
                    have t196 : x196.toInt = (aI (G.2.1 (F a 10)) (10 * (aI (G_9.2.1 (F a 49)) (l3_9.toInt - 1)) + 2)) := by rw [(hv97 : Int32.toInt x97 = (aI (G_9.2.1 (F a 49)) (l3_9.toInt - 1)))] at t196; rw [(show G119.2.1 (F a 10) = G.2.1 (F a 10) from ((lc_c hG119 (xne_k hk9999e hk9999c (by decide))).trans ((hF_9.2.1 _ (xn1 (xne_k hk9999e hk9999 (by decide)) (xn1 (xne_k hk9999e hk9999a (by decide)) (xn1 (xne_k hk9999e hk9999b (by decide)) (xn1 (xne_k hk9999e hk9999c (by decide)) (xn1 (xne_k hk9999e hk9999d (by decide)) xn0)))))).trans (hF4.2.1 _ (xn1 (xne_k hk9999e hk9999 (by decide)) (xn1 (xne_k hk9999e hk9999a (by decide)) (xn1 (xne_k hk9999e hk9999b (by decide)) (xn1 (xne_k hk9999e hk9999c (by decide)) (xn1 (xne_k hk9999e hk9999d (by decide)) xn0)))))))))] at t196; exact t196
                    refine xi_iadd hx hb (rfl : Int32.toInt x191 = x191.toInt) (t196 : Int32.toInt x196 = (aI (G.2.1 (F a 10)) (10 * (aI (G_9.2.1 (F a 49)) (l3_9.toInt - 1)) + 2))) dX11_cutAll_199 (fun x199 t199 => ?_)
                    refine lv_sipush (v := (-1000)) hx hb dX11_cutAll_200 (by decide) ?_
                    refine as_0 (x := (-1000)) S hK hT hS hk9999d ar_30 aw_30 (by decide) (z_X11_cutAll_41 l3_9.toInt x129.toInt x191.toInt x199.toInt (aI (G.2.1 (F a 10)) (10 * (aI (G_9.2.1 (F a 49)) (l3_9.toInt - 1)) + 0)) (aI (G.2.1 (F a 10)) (10 * (aI (G_9.2.1 (F a 49)) (l3_9.toInt - 1)) + 1)) (aI (G.2.1 (F a 10)) (10 * (aI (G_9.2.1 (F a 49)) (l3_9.toInt - 1)) + 2)) (aI (G_9.2.1 (F a 47)) (l3_9.toInt - 1)) (aI (G_9.2.1 (F a 48)) (l3_9.toInt - 1)) (aI (G_9.2.1 (F a 49)) (l3_9.toInt - 1)) (aI (G_9.2.1 (F a 50)) (l3_9.toInt - 1)) (pn (mw (G_9.2.1 (F a 1)) 0)) z13 c45 z91a t129 t191 t199) dX11_cutAll_203 (fun H locs hT hS => ?_)
                    obtain ⟨G203, hG203⟩ : ∃ GG : XG, GG = cput G119 (F a 1) x199.toNatClampNeg (-1000) := ⟨_, rfl⟩
                    rw [← hG203] at hT
                    refine lv_goto (tgt := 224) hx hb dX11_cutAll_204 (by decide) ?_
                    have cs224 : cst (refA (G.2.1 (F a 10))) (refT (G.2.1 (F a 10))) (refC (G.2.1 (F a 10))) (gst (G_9.2.1 (F a 47)) (G_9.2.1 (F a 48)) (G_9.2.1 (F a 49)) (G_9.2.1 (F a 50)) (Int.toNat (l3_9.toInt)), mw (G_9.2.1 (F a 1)) 0) = (gst (G_9.2.1 (F a 47)) (G_9.2.1 (F a 48)) (G_9.2.1 (F a 49)) (G119.2.1 (F a 50)) (Int.toNat (l3_9.toInt)), mw (G203.2.1 (F a 1)) 0) := (v_X11_cutAll_224_22 (K := K) (F := F) a G G4 G_9 G119 x15 x118 G203 x199 p0 p1 l3_9 N9 x63 x129 x191 ha hG119 hG203 e15 e118 e1 e2 e3 en8 I9_0 I9_1 hm9 c10 z13 c27 c45 t63 c66 z91 z91a t129 z134 c142 c169 c181 t191 t199 (lc_c hG119 (xne_k hk9999d hk9999c (by decide))))
                    have mu224 : (cmu (gst (G_9.2.1 (F a 47)) (G_9.2.1 (F a 48)) (G_9.2.1 (F a 49)) (G119.2.1 (F a 50)) (Int.toNat (l3_9.toInt)), mw (G203.2.1 (F a 1)) 0)) < (cmu (gst (G_9.2.1 (F a 47)) (G_9.2.1 (F a 48)) (G_9.2.1 (F a 49)) (G_9.2.1 (F a 50)) (Int.toNat (l3_9.toInt)), mw (G_9.2.1 (F a 1)) 0)) ∧ 0 ≤ (cmu (gst (G_9.2.1 (F a 47)) (G_9.2.1 (F a 48)) (G_9.2.1 (F a 49)) (G119.2.1 (F a 50)) (Int.toNat (l3_9.toInt)), mw (G203.2.1 (F a 1)) 0)) := ⟨cst_dn (refTo hR) iv cs224 (gst_p (z_X11_cutAll_4 l3_9.toInt c10)), cmu_b (cm_st (refTo hR) iv cs224).1⟩
                    refine lv_goto (tgt := 9) hx hb dX11_cutAll_224 (by decide) ?_
                    exact ih9 l3_9 G203 _ _ _ (by rw [hG203]; exact XFr.cput (by rw [hG119]; exact XFr.cput (XFr.call XFr.rf hF_9 xm0 (xm1 0 rfl (xm1 1 rfl (xm1 2 rfl (xm1 3 rfl (xm1 4 rfl xm0))))) xm0) (List.mem_of_getElem? (i := 3) rfl)) (List.mem_of_getElem? (i := 4) rfl)) (v_X11_cutAll_224_23 (K := K) (F := F) a G G4 G_9 G119 G203 x199 p0 p1 l3_9 N9 x63 x129 x191 ha hG203 rm e1 e2 e3 en8 I9_0 I9_1 hm9 c10 z13 c27 c45 t63 c66 z91 z91a t129 z134 c142 c169 c181 t191 t199 mu224 (lc_c hG119 (xne_k hk9999d hk9999c (by decide)))) (by rw [(show G203.2.1 (F a 47) = G_9.2.1 (F a 47) from ((lc_c hG203 (xne_k hk9999 hk9999d (by decide))).trans (lc_c hG119 (xne_k hk9999 hk9999c (by decide))))), (show G203.2.1 (F a 48) = G_9.2.1 (F a 48) from ((lc_c hG203 (xne_k hk9999a hk9999d (by decide))).trans (lc_c hG119 (xne_k hk9999a hk9999c (by decide))))), (show G203.2.1 (F a 49) = G_9.2.1 (F a 49) from ((lc_c hG203 (xne_k hk9999b hk9999d (by decide))).trans (lc_c hG119 (xne_k hk9999b hk9999c (by decide))))), (show G203.2.1 (F a 50) = G119.2.1 (F a 50) from (lc_c hG203 (xne_k hk9999c hk9999d (by decide))))] <;> exact (v_X11_cutAll_224_24 (F := F) a G G_9 G119 G203 l3_9 hR iv cs224)) (by rw [(show G203.2.1 (F a 47) = G_9.2.1 (F a 47) from ((lc_c hG203 (xne_k hk9999 hk9999d (by decide))).trans (lc_c hG119 (xne_k hk9999 hk9999c (by decide))))), (show G203.2.1 (F a 48) = G_9.2.1 (F a 48) from ((lc_c hG203 (xne_k hk9999a hk9999d (by decide))).trans (lc_c hG119 (xne_k hk9999a hk9999c (by decide))))), (show G203.2.1 (F a 49) = G_9.2.1 (F a 49) from ((lc_c hG203 (xne_k hk9999b hk9999d (by decide))).trans (lc_c hG119 (xne_k hk9999b hk9999c (by decide))))), (show G203.2.1 (F a 50) = G119.2.1 (F a 50) from (lc_c hG203 (xne_k hk9999c hk9999d (by decide))))] <;> exact (v_X11_cutAll_224_25 (F := F) a G G_9 G119 G203 p0 p1 l3_9 hR iv fi cs224)) (I9_0) (by rw [(show G203.2.1 (F a 47) = G_9.2.1 (F a 47) from ((lc_c hG203 (xne_k hk9999 hk9999d (by decide))).trans (lc_c hG119 (xne_k hk9999 hk9999c (by decide))))), (show G203.2.1 (F a 48) = G_9.2.1 (F a 48) from ((lc_c hG203 (xne_k hk9999a hk9999d (by decide))).trans (lc_c hG119 (xne_k hk9999a hk9999c (by decide))))), (show G203.2.1 (F a 49) = G_9.2.1 (F a 49) from ((lc_c hG203 (xne_k hk9999b hk9999d (by decide))).trans (lc_c hG119 (xne_k hk9999b hk9999c (by decide))))), (show G203.2.1 (F a 50) = G119.2.1 (F a 50) from (lc_c hG203 (xne_k hk9999c hk9999d (by decide))))] <;> exact (z_X11_cutAll_17 (cmu (gst (G_9.2.1 (F a 47)) (G_9.2.1 (F a 48)) (G_9.2.1 (F a 49)) (G119.2.1 (F a 50)) (Int.toNat (l3_9.toInt)), mw (G203.2.1 (F a 1)) 0)) (cmu (gst (G_9.2.1 (F a 47)) (G_9.2.1 (F a 48)) (G_9.2.1 (F a 49)) (G_9.2.1 (F a 50)) (Int.toNat (l3_9.toInt)), mw (G_9.2.1 (F a 1)) 0)) mu224)) (by rw [(show G203.2.1 (F a 47) = G_9.2.1 (F a 47) from ((lc_c hG203 (xne_k hk9999 hk9999d (by decide))).trans (lc_c hG119 (xne_k hk9999 hk9999c (by decide))))), (show G203.2.1 (F a 48) = G_9.2.1 (F a 48) from ((lc_c hG203 (xne_k hk9999a hk9999d (by decide))).trans (lc_c hG119 (xne_k hk9999a hk9999c (by decide))))), (show G203.2.1 (F a 49) = G_9.2.1 (F a 49) from ((lc_c hG203 (xne_k hk9999b hk9999d (by decide))).trans (lc_c hG119 (xne_k hk9999b hk9999c (by decide))))), (show G203.2.1 (F a 50) = G119.2.1 (F a 50) from (lc_c hG203 (xne_k hk9999c hk9999d (by decide))))] <;> exact (z_X11_cutAll_18 N9 (cmu (gst (G_9.2.1 (F a 47)) (G_9.2.1 (F a 48)) (G_9.2.1 (F a 49)) (G119.2.1 (F a 50)) (Int.toNat (l3_9.toInt)), mw (G203.2.1 (F a 1)) 0)) (cmu (gst (G_9.2.1 (F a 47)) (G_9.2.1 (F a 48)) (G_9.2.1 (F a 49)) (G_9.2.1 (F a 50)) (Int.toNat (l3_9.toInt)), mw (G_9.2.1 (F a 1)) 0)) hm9 mu224)) hT hS (lv_sub hl [4, 5] rfl)
            · refine lv_aload_n hx hb dX11_cutAll_69 rfl (lv_at hl 1 rfl) ?_
              refine gX11_49 S hK hT ha kf_X11_124 dX11_cutAll_70 (fun _ _ => ?_)
              refine lv_iload hx hb dX11_cutAll_73 (lv_at hl 0 rfl) ?_
              refine lv_dup2_11 hx hb dX11_cutAll_75 rfl rfl ?_
              refine al_0 S hK hT hk9999b ar_57 (by decide) (by rw [(e15 : Int32.toInt x15 = (l3_9.toInt - (1 : Int)))]; exact (z_X11_cutAll_6 l3_9.toInt I9_0 c10)) dX11_cutAll_76 (fun x76 hv76 o76 => ?_)
              have hv76 : x76.toInt = (aI (G_9.2.1 (F a 49)) (l3_9.toInt - 1)) := hv76.trans (by rw [((e15 : Int32.toInt x15 = (l3_9.toInt - (1 : Int))).trans (z_X11_cutAll_7 l3_9.toInt))])
              refine lv_iconst (v := 1) hx hb dX11_cutAll_77 (by decide) ?_
              refine xi_iadd hx hb (hv76 : Int32.toInt x76 = (aI (G_9.2.1 (F a 49)) (l3_9.toInt - 1))) ((by decide) : Int32.toInt 1 = (1 : Int)) dX11_cutAll_78 (fun x78 t78 => ?_)
              have e78 : x78.toInt = ((aI (G_9.2.1 (F a 49)) (l3_9.toInt - 1)) + (1 : Int)) := (z_X11_cutAll_12 l3_9.toInt x78.toInt (aI (G_9.2.1 (F a 47)) (l3_9.toInt - 1)) (aI (G_9.2.1 (F a 48)) (l3_9.toInt - 1)) (aI (G_9.2.1 (F a 49)) (l3_9.toInt - 1)) (aI (G_9.2.1 (F a 50)) (l3_9.toInt - 1)) (pn (mw (G_9.2.1 (F a 1)) 0)) z13 t78)
              refine as_0 (x := x78) S hK hT hS hk9999b ar_57 aw_57 (by decide) (by rw [(e15 : Int32.toInt x15 = (l3_9.toInt - (1 : Int)))]; exact (z_X11_cutAll_6 l3_9.toInt I9_0 c10)) dX11_cutAll_79 (fun H locs hT hS => ?_)
              obtain ⟨G79, hG79⟩ : ∃ GG : XG, GG = cput G_9 (F a 49) x15.toNatClampNeg x78 := ⟨_, rfl⟩
              rw [← hG79] at hT
              refine lv_aload_n hx hb dX11_cutAll_80 rfl (lv_at hl 1 rfl) ?_
              refine gX11_50 S hK hT ha kf_X11_127 dX11_cutAll_81 (fun _ _ => ?_)
              refine lv_iload hx hb dX11_cutAll_84 (lv_at hl 0 rfl) ?_
              refine lv_iconst (v := 0) hx hb dX11_cutAll_86 (by decide) ?_
              refine as_0 (x := 0) S hK hT hS hk9999c ar_58 aw_58 (by decide) (by rw [(e15 : Int32.toInt x15 = (l3_9.toInt - (1 : Int)))]; exact (z_X11_cutAll_6 l3_9.toInt I9_0 c10)) dX11_cutAll_87 (fun H locs hT hS => ?_)
              obtain ⟨G87, hG87⟩ : ∃ GG : XG, GG = cput G79 (F a 50) x15.toNatClampNeg 0 := ⟨_, rfl⟩
              rw [← hG87] at hT
              refine lv_goto (tgt := 224) hx hb dX11_cutAll_88 (by decide) ?_
              have cs224 : cst (refA (G.2.1 (F a 10))) (refT (G.2.1 (F a 10))) (refC (G.2.1 (F a 10))) (gst (G_9.2.1 (F a 47)) (G_9.2.1 (F a 48)) (G_9.2.1 (F a 49)) (G_9.2.1 (F a 50)) (Int.toNat (l3_9.toInt)), mw (G_9.2.1 (F a 1)) 0) = (gst (G_9.2.1 (F a 47)) (G_9.2.1 (F a 48)) (G79.2.1 (F a 49)) (G87.2.1 (F a 50)) (Int.toNat (l3_9.toInt)), mw (G_9.2.1 (F a 1)) 0) := (v_X11_cutAll_224_26 (K := K) (F := F) a G G4 G_9 G79 x15 x78 G87 p0 p1 l3_9 N9 x63 ha hG79 hG87 e15 e78 e1 e2 e3 en8 I9_0 I9_1 hm9 c10 z13 c27 c45 t63 c66 (lc_c hG79 (xne_k hk9999c hk9999b (by decide))))
              have mu224 : (cmu (gst (G_9.2.1 (F a 47)) (G_9.2.1 (F a 48)) (G79.2.1 (F a 49)) (G87.2.1 (F a 50)) (Int.toNat (l3_9.toInt)), mw (G_9.2.1 (F a 1)) 0)) < (cmu (gst (G_9.2.1 (F a 47)) (G_9.2.1 (F a 48)) (G_9.2.1 (F a 49)) (G_9.2.1 (F a 50)) (Int.toNat (l3_9.toInt)), mw (G_9.2.1 (F a 1)) 0)) ∧ 0 ≤ (cmu (gst (G_9.2.1 (F a 47)) (G_9.2.1 (F a 48)) (G79.2.1 (F a 49)) (G87.2.1 (F a 50)) (Int.toNat (l3_9.toInt)), mw (G_9.2.1 (F a 1)) 0)) := ⟨cst_dn (refTo hR) iv cs224 (gst_p (z_X11_cutAll_4 l3_9.toInt c10)), cmu_b (cm_st (refTo hR) iv cs224).1⟩
              refine lv_goto (tgt := 9) hx hb dX11_cutAll_224 (by decide) ?_
              exact ih9 l3_9 G87 _ _ _ (by rw [hG87]; exact XFr.cput (by rw [hG79]; exact XFr.cput (XFr.call XFr.rf hF_9 xm0 (xm1 0 rfl (xm1 1 rfl (xm1 2 rfl (xm1 3 rfl (xm1 4 rfl xm0))))) xm0) (List.mem_of_getElem? (i := 2) rfl)) (List.mem_of_getElem? (i := 3) rfl)) (by rw [(show G87.2.1 (F a 1) = G_9.2.1 (F a 1) from ((lc_c hG87 (xne_k hk9999d hk9999c (by decide))).trans (lc_c hG79 (xne_k hk9999d hk9999b (by decide)))))] <;> exact (v_X11_cutAll_224_27 (K := K) (F := F) a G G4 G_9 G79 G87 p0 p1 l3_9 N9 x63 ha rm e1 e2 e3 en8 I9_0 I9_1 hm9 c10 z13 c27 c45 t63 c66 mu224)) (by rw [(show G87.2.1 (F a 47) = G_9.2.1 (F a 47) from ((lc_c hG87 (xne_k hk9999 hk9999c (by decide))).trans (lc_c hG79 (xne_k hk9999 hk9999b (by decide))))), (show G87.2.1 (F a 48) = G_9.2.1 (F a 48) from ((lc_c hG87 (xne_k hk9999a hk9999c (by decide))).trans (lc_c hG79 (xne_k hk9999a hk9999b (by decide))))), (show G87.2.1 (F a 49) = G79.2.1 (F a 49) from (lc_c hG87 (xne_k hk9999b hk9999c (by decide)))), (show G87.2.1 (F a 1) = G_9.2.1 (F a 1) from ((lc_c hG87 (xne_k hk9999d hk9999c (by decide))).trans (lc_c hG79 (xne_k hk9999d hk9999b (by decide)))))] <;> exact (v_X11_cutAll_224_28 (F := F) a G G_9 G79 G87 l3_9 hR iv cs224)) (by rw [(show G87.2.1 (F a 47) = G_9.2.1 (F a 47) from ((lc_c hG87 (xne_k hk9999 hk9999c (by decide))).trans (lc_c hG79 (xne_k hk9999 hk9999b (by decide))))), (show G87.2.1 (F a 48) = G_9.2.1 (F a 48) from ((lc_c hG87 (xne_k hk9999a hk9999c (by decide))).trans (lc_c hG79 (xne_k hk9999a hk9999b (by decide))))), (show G87.2.1 (F a 49) = G79.2.1 (F a 49) from (lc_c hG87 (xne_k hk9999b hk9999c (by decide)))), (show G87.2.1 (F a 1) = G_9.2.1 (F a 1) from ((lc_c hG87 (xne_k hk9999d hk9999c (by decide))).trans (lc_c hG79 (xne_k hk9999d hk9999b (by decide)))))] <;> exact (v_X11_cutAll_224_29 (F := F) a G G_9 G79 G87 p0 p1 l3_9 hR iv fi cs224)) (I9_0) (by rw [(show G87.2.1 (F a 47) = G_9.2.1 (F a 47) from ((lc_c hG87 (xne_k hk9999 hk9999c (by decide))).trans (lc_c hG79 (xne_k hk9999 hk9999b (by decide))))), (show G87.2.1 (F a 48) = G_9.2.1 (F a 48) from ((lc_c hG87 (xne_k hk9999a hk9999c (by decide))).trans (lc_c hG79 (xne_k hk9999a hk9999b (by decide))))), (show G87.2.1 (F a 49) = G79.2.1 (F a 49) from (lc_c hG87 (xne_k hk9999b hk9999c (by decide)))), (show G87.2.1 (F a 1) = G_9.2.1 (F a 1) from ((lc_c hG87 (xne_k hk9999d hk9999c (by decide))).trans (lc_c hG79 (xne_k hk9999d hk9999b (by decide)))))] <;> exact (z_X11_cutAll_17 (cmu (gst (G_9.2.1 (F a 47)) (G_9.2.1 (F a 48)) (G79.2.1 (F a 49)) (G87.2.1 (F a 50)) (Int.toNat (l3_9.toInt)), mw (G_9.2.1 (F a 1)) 0)) (cmu (gst (G_9.2.1 (F a 47)) (G_9.2.1 (F a 48)) (G_9.2.1 (F a 49)) (G_9.2.1 (F a 50)) (Int.toNat (l3_9.toInt)), mw (G_9.2.1 (F a 1)) 0)) mu224)) (by rw [(show G87.2.1 (F a 47) = G_9.2.1 (F a 47) from ((lc_c hG87 (xne_k hk9999 hk9999c (by decide))).trans (lc_c hG79 (xne_k hk9999 hk9999b (by decide))))), (show G87.2.1 (F a 48) = G_9.2.1 (F a 48) from ((lc_c hG87 (xne_k hk9999a hk9999c (by decide))).trans (lc_c hG79 (xne_k hk9999a hk9999b (by decide))))), (show G87.2.1 (F a 49) = G79.2.1 (F a 49) from (lc_c hG87 (xne_k hk9999b hk9999c (by decide)))), (show G87.2.1 (F a 1) = G_9.2.1 (F a 1) from ((lc_c hG87 (xne_k hk9999d hk9999c (by decide))).trans (lc_c hG79 (xne_k hk9999d hk9999b (by decide)))))] <;> exact (z_X11_cutAll_18 N9 (cmu (gst (G_9.2.1 (F a 47)) (G_9.2.1 (F a 48)) (G79.2.1 (F a 49)) (G87.2.1 (F a 50)) (Int.toNat (l3_9.toInt)), mw (G_9.2.1 (F a 1)) 0)) (cmu (gst (G_9.2.1 (F a 47)) (G_9.2.1 (F a 48)) (G_9.2.1 (F a 49)) (G_9.2.1 (F a 50)) (Int.toNat (l3_9.toInt)), mw (G_9.2.1 (F a 1)) 0)) hm9 mu224)) hT hS (lv_sub hl [1, 2] rfl)
        · refine xi_iinc (n := (-1)) (lv' := fun z9 => [(3, .int z9), (4, .int x15), (0, .ref a)]) (k := 2) hx hb (rfl : Int32.toInt l3_9 = l3_9.toInt) (by decide) dX11_cutAll_30 hl rfl (by decide) (fun _ => rfl) (fun x30 ls t30 hl => ?_)
          have e30 : x30.toInt = (l3_9.toInt + (-1)) := (z_X11_cutAll_75 l3_9.toInt x30.toInt I9_0 t30)
          have hl : lv_has ls 8 [(3, .int x30), (4, .int x15), (0, .ref a)] := hl
          refine lv_goto (tgt := 224) hx hb dX11_cutAll_33 (by decide) ?_
          have cs224 : cst (refA (G.2.1 (F a 10))) (refT (G.2.1 (F a 10))) (refC (G.2.1 (F a 10))) (gst (G_9.2.1 (F a 47)) (G_9.2.1 (F a 48)) (G_9.2.1 (F a 49)) (G_9.2.1 (F a 50)) (Int.toNat (l3_9.toInt)), mw (G_9.2.1 (F a 1)) 0) = (gst (G_9.2.1 (F a 47)) (G_9.2.1 (F a 48)) (G_9.2.1 (F a 49)) (G_9.2.1 (F a 50)) (Int.toNat (l3_9.toInt + (-1))), mw (G_9.2.1 (F a 1)) 0) := (v_X11_cutAll_224_30 (K := K) (F := F) a G G4 G_9 p0 p1 l3_9 N9 ha e1 e2 e3 en8 I9_0 I9_1 hm9 c10 z13 c27)
          have mu224 : (cmu (gst (G_9.2.1 (F a 47)) (G_9.2.1 (F a 48)) (G_9.2.1 (F a 49)) (G_9.2.1 (F a 50)) (Int.toNat (l3_9.toInt + (-1))), mw (G_9.2.1 (F a 1)) 0)) < (cmu (gst (G_9.2.1 (F a 47)) (G_9.2.1 (F a 48)) (G_9.2.1 (F a 49)) (G_9.2.1 (F a 50)) (Int.toNat (l3_9.toInt)), mw (G_9.2.1 (F a 1)) 0)) ∧ 0 ≤ (cmu (gst (G_9.2.1 (F a 47)) (G_9.2.1 (F a 48)) (G_9.2.1 (F a 49)) (G_9.2.1 (F a 50)) (Int.toNat (l3_9.toInt + (-1))), mw (G_9.2.1 (F a 1)) 0)) := ⟨cst_dn (refTo hR) iv cs224 (gst_p (z_X11_cutAll_4 l3_9.toInt c10)), cmu_b (cm_st (refTo hR) iv cs224).1⟩
          refine lv_goto (tgt := 9) hx hb dX11_cutAll_224 (by decide) ?_
          exact ih9 x30 G_9 _ _ _ (XFr.call XFr.rf hF_9 xm0 (xm1 0 rfl (xm1 1 rfl (xm1 2 rfl (xm1 3 rfl (xm1 4 rfl xm0))))) xm0) (v_X11_cutAll_224_31 (K := K) (F := F) a G G4 G_9 p0 p1 l3_9 N9 ha rm e1 e2 e3 en8 I9_0 I9_1 hm9 c10 z13 c27 mu224) (by rw [(e30 : Int32.toInt x30 = (l3_9.toInt + (-1)))] <;> exact (v_X11_cutAll_224_32 (F := F) a G G_9 l3_9 hR iv cs224)) (by rw [(e30 : Int32.toInt x30 = (l3_9.toInt + (-1)))] <;> exact (v_X11_cutAll_224_33 (F := F) a G G_9 p0 p1 l3_9 hR iv fi cs224)) (by rw [(e30 : Int32.toInt x30 = (l3_9.toInt + (-1)))] <;> exact (z_X11_cutAll_77 l3_9.toInt I9_0 c10)) (by rw [(e30 : Int32.toInt x30 = (l3_9.toInt + (-1)))] <;> exact (z_X11_cutAll_17 (cmu (gst (G_9.2.1 (F a 47)) (G_9.2.1 (F a 48)) (G_9.2.1 (F a 49)) (G_9.2.1 (F a 50)) (Int.toNat (l3_9.toInt + (-1))), mw (G_9.2.1 (F a 1)) 0)) (cmu (gst (G_9.2.1 (F a 47)) (G_9.2.1 (F a 48)) (G_9.2.1 (F a 49)) (G_9.2.1 (F a 50)) (Int.toNat (l3_9.toInt)), mw (G_9.2.1 (F a 1)) 0)) mu224)) (by rw [(e30 : Int32.toInt x30 = (l3_9.toInt + (-1)))] <;> exact (z_X11_cutAll_18 N9 (cmu (gst (G_9.2.1 (F a 47)) (G_9.2.1 (F a 48)) (G_9.2.1 (F a 49)) (G_9.2.1 (F a 50)) (Int.toNat (l3_9.toInt + (-1))), mw (G_9.2.1 (F a 1)) 0)) (cmu (gst (G_9.2.1 (F a 47)) (G_9.2.1 (F a 48)) (G_9.2.1 (F a 49)) (G_9.2.1 (F a 50)) (Int.toNat (l3_9.toInt)), mw (G_9.2.1 (F a 1)) 0)) hm9 mu224)) hT hS (lv_sub hl [2, 0] rfl)
  exact L9 4294967297 1 G4 _ _ _ XFr.rf (v_X11_cutAll_8_34 (F := F) a G4 oq4e) (v_X11_cutAll_8_35 (K := K) (F := F) a G G4 p0 p1 ha hM oq4 oq4a oq4b oq4c oq4d e1 e2 e3 en8) (v_X11_cutAll_8_36 (F := F) a G G4 p0 p1 oq4 oq4a oq4b oq4c oq4d) (by decide) (z_X11_cutAll_80 (cmu (gst (G4.2.1 (F a 47)) (G4.2.1 (F a 48)) (G4.2.1 (F a 49)) (G4.2.1 (F a 50)) (Int.toNat 1), mw (G4.2.1 (F a 1)) 0)) en8) (z_X11_cutAll_81 (cmu (gst (G4.2.1 (F a 47)) (G4.2.1 (F a 48)) (G4.2.1 (F a 49)) (G4.2.1 (F a 50)) (Int.toNat 1), mw (G4.2.1 (F a 1)) 0)) en8) hT hS (lv_sub hl [1, 0] rfl)

theorem z_X11_cut_1 (a0 : Int) (a1 : Int) (a2 : Int) (a3 : Int) (h0 : 0 ≤ a0 ∧ a0 ≤ 2388) (h1 : a1 = -2147483648 ∧ a2 = -2147483648 ∧ a3 = 0) : (0 ≤ a3 ∧ a3 ≤ 24) ∧ (0 ≤ a0 ∧ a0 ≤ 2388) := by omega
theorem z_X11_cut_2 (a0 : Int) (a1 : Int) (h0 : (a1 = 1 ∧ 0 ≤ a0 ∧ a0 ≤ 2) ∨ (a1 = 0 ∧ (a0 < 0 ∨ 2 < a0))) (h1 : ¬ (a1 = 0)) : 0 ≤ a0 ∧ a0 < 3 := by omega
theorem z_X11_cut_3 (a0 : Int) (a1 : Int) (h0 : (a1 = 1 ∧ 0 ≤ a0 ∧ a0 ≤ 29) ∨ (a1 = 0 ∧ (a0 < 0 ∨ 29 < a0))) (h1 : a1 ≠ 0) : 0 ≤ a0 ∧ a0 < 30 := by omega
theorem z_X11_cut_6 (a0 : Int) (a1 : Int) (h0 : (a0 = 1 ∧ a1 ≠ -2000) ∨ (a0 = 0 ∧ a1 = -2000)) (h1 : a0 ≠ 0) : a1 ≠ -2000 := by omega
theorem z_X11_cut_7 (a0 : Int) (a1 : Int) (a2 : Int) (h0 : a0 = -2147483648 ∧ a1 = -2147483648 ∧ a2 = 0) : 0 ≤ a2 ∧ a2 ≤ 24 := by omega
abbrev rm_X11_cut : Room := { frames := 8, cells := 0, slots := 0, locals := 186 }
set_option maxHeartbeats 4000000 in
set_option maxRecDepth 100000 in
theorem c_X11_cut (l : Launch) (E : XE) (K : Nat → Nat) (F : Nat → Nat → Nat) (G : XG) (a : Nat) (p0 : Int32) (p1 : Int32) (ha : K a = 13) (am : 0 ≤ ((G.1 a 43).toInt) ∧ ((G.1 a 43).toInt) ≤ 2388) (hR : RV (G.2.1 (F a 10))) (hM : RM (G.2.1 (F a 1)) (0)) (hB : RM (G.2.1 (F a 2)) 0) : Met l yX11_cut (xw yX11_cut cX11_cut 3 (some .int)) rm_X11_cut (va_Pc [.ref a, .int p0, .int p1] (XP E K F G)) (XQ E (fun v (u : XG) => ∃ r : Int32, v = .int r ∧ XFr [(a, 16), (a, 19), (a, 20), (a, 21), (a, 23), (a, 45), (a, 46), (a, 43), (a, 44), (a, 0)] [F a 15, F a 17, F a 18, F a 1, F a 8, F a 22, F a 11, F a 13, F a 9, F a 41, F a 42, F a 4, F a 12, F a 47, F a 48, F a 49, F a 50] [] G u ∧ ((0 ≤ ((u.1 a 23).toInt) ∧ ((u.1 a 23).toInt) ≤ 24) ∧ (0 ≤ ((u.1 a 43).toInt) ∧ ((u.1 a 43).toInt) ≤ 2388)) ∧ ((¬ ((0 ≤ p0.toInt ∧ p0.toInt < 3) ∧ (0 ≤ p1.toInt ∧ p1.toInt < 30)) ∧ r.toInt = -1 ∧ mw (u.2.1 (F a 1)) 0 = (mw (G.2.1 (F a 1)) 0)) ∨ (((0 ≤ p0.toInt ∧ p0.toInt < 3) ∧ (0 ≤ p1.toInt ∧ p1.toInt < 30)) ∧ cel (mw (G.2.1 (F a 1)) 0) p0.toInt p1.toInt 0 = -2000 ∧ r.toInt = -2 ∧ mw (u.2.1 (F a 1)) 0 = (mw (G.2.1 (F a 1)) 0)) ∨ (((0 ≤ p0.toInt ∧ p0.toInt < 3) ∧ (0 ≤ p1.toInt ∧ p1.toInt < 30)) ∧ cel (mw (G.2.1 (F a 1)) 0) p0.toInt p1.toInt 0 ≠ -2000 ∧ StR ((G.1 a 6).toInt) r.toInt (G.2.1 (F a 10)) (mw (G.2.1 (F a 1)) 0) (cfin (refA (G.2.1 (F a 10))) (refT (G.2.1 (F a 10))) (refC (G.2.1 (F a 10))) ([(p0.toInt, p1.toInt, 0, 0)], rfil (mw (G.2.1 (F a 1)) 0) p0.toInt p1.toInt (-2000) 3)) (mw (u.2.1 (F a 1)) 0))) ∧ (RM (u.2.1 (F a 1)) 0)) (fun u H => TW E K F u H)) 0 0 (xA E) := by
  refine x_enter (by decide) (Nat.le_of_ble_eq_true rfl) ?_
  intro p e s m args below meth c Q S hr hlk hnm hQ hP ls hl
  obtain ⟨hz, hK, hT⟩ := hP
  obtain ⟨hx, hb, -, -, -⟩ := id S
  obtain ⟨H, hT, hS, hgo⟩ : ∃ H : Heap, TW E K F G H ∧ va_S (xA E) s.heap H [] ∧ H = s.heap := ⟨_, hT, va_S.rf, rfl⟩
  rw [← hgo]
  have hl : lv_has ls 3 [(0, .ref a), (1, .int p0), (2, .int p1)] := hl
  obtain ⟨hk9999, hj9999⟩ := fkX11_15 hT ha
  obtain ⟨hk9999a, hj9999a⟩ := fkX11_17 hT ha
  obtain ⟨hk9999b, hj9999b⟩ := fkX11_18 hT ha
  obtain ⟨hk9999c, hj9999c⟩ := fkX11_1 hT ha
  obtain ⟨hk9999d, hj9999d⟩ := fkX11_8 hT ha
  obtain ⟨hk9999e, hj9999e⟩ := fkX11_22 hT ha
  obtain ⟨hk9999f, hj9999f⟩ := fkX11_11 hT ha
  obtain ⟨hk9999g, hj9999g⟩ := fkX11_13 hT ha
  obtain ⟨hk9999h, hj9999h⟩ := fkX11_9 hT ha
  obtain ⟨hk9999i, hj9999i⟩ := fkX11_41 hT ha
  obtain ⟨hk9999j, hj9999j⟩ := fkX11_42 hT ha
  obtain ⟨hk9999k, hj9999k⟩ := fkX11_4 hT ha
  obtain ⟨hk9999l, hj9999l⟩ := fkX11_12 hT ha
  obtain ⟨hk9999m, hj9999m⟩ := fkX11_47 hT ha
  obtain ⟨hk9999n, hj9999n⟩ := fkX11_48 hT ha
  obtain ⟨hk9999o, hj9999o⟩ := fkX11_49 hT ha
  obtain ⟨hk9999p, hj9999p⟩ := fkX11_50 hT ha
  obtain ⟨hk9999q, hj9999q⟩ := fkX11_10 hT ha
  obtain ⟨hk9999r, hj9999r⟩ := fkX11_2 hT ha
  refine lv_aload_n hx hb dX11_cut_0 rfl (lv_at hl 0 rfl) ?_
  refine lv_iconst (v := 0) hx hb dX11_cut_1 (by decide) ?_
  refine pX11_0 (v := 0) S hK hT hS ha kf_X11_134 dX11_cut_2 (fun H locs hT hS => ?_)
  obtain ⟨G2, hG2⟩ : ∃ GG : XG, GG = dput G a 0 0 := ⟨_, rfl⟩
  rw [← hG2] at hT
  refine lv_aload_n hx hb dX11_cut_5 rfl (lv_at hl 0 rfl) ?_
  refine x_cv0 (x_runV (b := a) (As := []) (rest := []) S (c_X11_nothing l E K F G2 a ha) mv_X11_nothing km_X11_231 rfl rfl ⟨Nat.le_of_ble_eq_true rfl, Nat.le_of_ble_eq_true rfl⟩ (rc_13 hK hT ha) hK (fun _ => XP.blind) (fun U hU hW => XP.at hK hz hS hT hU hW) rfl hl.1 (Nat.le_of_ble_eq_true rfl) dX11_cut_6 ⟨Nat.le_of_ble_eq_true rfl, Nat.le_of_ble_eq_true rfl⟩) hS ?_
  rintro G6 H locs ⟨hF6, t6⟩ hT hS
  have t6 : ((G6.1 a 20).toInt) = -2147483648 ∧ ((G6.1 a 21).toInt) = -2147483648 ∧ ((G6.1 a 23).toInt) = 0 := t6
  refine lv_iload_n hx hb dX11_cut_9 rfl (lv_at hl 1 rfl) ?_
  refine x_clp (x_runS (As := [.int p0]) (rest := []) S (c_X11_isTable l E K F G6 H p0) ms_X11_isTable km_X11_149 rfl rfl ⟨Nat.le_of_ble_eq_true rfl, Nat.le_of_ble_eq_true rfl⟩ hK (fun _ => XPh.blind) (fun U hU hW => XPh.at hK hz hS hT hU hW) rfl hl.1 (Nat.le_of_ble_eq_true rfl) dX11_cut_10 ⟨Nat.le_of_ble_eq_true rfl, Nat.le_of_ble_eq_true rfl⟩) hS ?_
  rintro _ _ locs ⟨x10, rfl, b10, t10⟩ hS
  have t10 : (x10.toInt = 1 ∧ 0 ≤ p0.toInt ∧ p0.toInt ≤ 2) ∨ (x10.toInt = 0 ∧ (p0.toInt < 0 ∨ 2 < p0.toInt)) := t10
  refine xi_zeq (tgt := 23) hx hb (rfl : Int32.toInt x10 = x10.toInt) dX11_cut_13 (by decide) (fun c13 => ?_) (fun c13 => ?_)
  · refine lv_aload_n hx hb dX11_cut_23 rfl (lv_at hl 0 rfl) ?_
    refine lv_iconst (v := (-1)) hx hb dX11_cut_24 (by decide) ?_
    refine x_cl0 (x_runV (b := a) (As := [.int (-1)]) (rest := []) S (c_X11_refuses l E K F G6 a (-1) ha) mv_X11_refuses km_X11_325 rfl rfl ⟨Nat.le_of_ble_eq_true rfl, Nat.le_of_ble_eq_true rfl⟩ (rc_13 hK hT ha) hK (fun _ => XP.blind) (fun U hU hW => XP.at hK hz hS hT hU hW) rfl hl.1 (Nat.le_of_ble_eq_true rfl) dX11_cut_25 ⟨Nat.le_of_ble_eq_true rfl, Nat.le_of_ble_eq_true rfl⟩) hS ?_
    rintro _ G25 H locs ⟨x25, rfl, hF25, t25⟩ hT hS
    have t25 : x25.toInt = (-1 : Int) := by rw [((by decide) : Int32.toInt (-1) = (-1 : Int))] at t25; exact t25
    exact x_ri hx hb hr hlk hQ (Nat.le_of_ble_eq_true rfl) (Nat.le_of_ble_eq_true rfl) hS dX11_cut_28 G25 ⟨_, rfl, (XFr.call (XFr.call (by rw [hG2]; exact XFr.dput XFr.rf (List.mem_of_getElem? (i := 9) rfl)) hF6 (xm1 2 rfl (xm1 3 rfl (xm1 4 rfl xm0))) xm0 xm0) hF25 xm0 (xm1 4 rfl xm0) xm0), (by rw [(show (G25.1 a 23).toInt = ((G6.1 a 23).toInt) from (congrArg Int32.toInt (hF25.1 _ _ xn0)).trans (rfl : Int32.toInt (G6.1 a 23) = ((G6.1 a 23).toInt))), (show (G25.1 a 43).toInt = ((G.1 a 43).toInt) from (congrArg Int32.toInt ((hF25.1 _ _ xn0).trans ((hF6.1 _ _ (xnj (by decide) (xnj (by decide) (xnj (by decide) xn0)))).trans (ld_j hG2 (by decide))))).trans (rfl : Int32.toInt (G.1 a 43) = ((G.1 a 43).toInt)))] <;> exact (z_X11_cut_1 ((G.1 a 43).toInt) ((G6.1 a 20).toInt) ((G6.1 a 21).toInt) ((G6.1 a 23).toInt) am t6)), (by rw [(t25 : Int32.toInt x25 = (-1 : Int))] <;> exact (v_X11_cut_28_1 (F := F) x10 p0 G25 a G p1 t10 c13 ((hF25.2.1 _ (xn1 (xne_k hk9999c hk9999d (by decide)) xn0)).trans ((hF6.2.1 _ xn0).trans (ld_c hG2))))), (v_X11_cut_28_2 (F := F) a G G25 hM ((hF25.2.1 _ (xn1 (xne_k hk9999c hk9999d (by decide)) xn0)).trans ((hF6.2.1 _ xn0).trans (ld_c hG2))))⟩ hT
  · refine lv_iload_n hx hb dX11_cut_16 rfl (lv_at hl 2 rfl) ?_
    refine x_clp (x_runS (As := [.int p1]) (rest := []) S (c_X11_isKey l E K F G6 H p1) ms_X11_isKey km_X11_153 rfl rfl ⟨Nat.le_of_ble_eq_true rfl, Nat.le_of_ble_eq_true rfl⟩ hK (fun _ => XPh.blind) (fun U hU hW => XPh.at hK hz hS hT hU hW) rfl hl.1 (Nat.le_of_ble_eq_true rfl) dX11_cut_17 ⟨Nat.le_of_ble_eq_true rfl, Nat.le_of_ble_eq_true rfl⟩) hS ?_
    rintro _ _ locs ⟨x17, rfl, b17, t17⟩ hS
    have t17 : (x17.toInt = 1 ∧ 0 ≤ p1.toInt ∧ p1.toInt ≤ 29) ∨ (x17.toInt = 0 ∧ (p1.toInt < 0 ∨ 29 < p1.toInt)) := t17
    refine xi_zne (tgt := 29) hx hb (rfl : Int32.toInt x17 = x17.toInt) dX11_cut_20 (by decide) (fun c20 => ?_) (fun c20 => ?_)
    · have z29 : 0 ≤ p0.toInt ∧ p0.toInt < 3 := (z_X11_cut_2 p0.toInt x10.toInt t10 c13)
      have z29a : 0 ≤ p1.toInt ∧ p1.toInt < 30 := (z_X11_cut_3 p1.toInt x17.toInt t17 c20)
      refine lv_aload_n hx hb dX11_cut_29 rfl (lv_at hl 0 rfl) ?_
      refine lv_iload_n hx hb dX11_cut_30 rfl (lv_at hl 1 rfl) ?_
      refine lv_iload_n hx hb dX11_cut_31 rfl (lv_at hl 2 rfl) ?_
      refine x_clp (x_runV (b := a) (As := [.int p0, .int p1]) (rest := []) S (c_X11_isRow l E K F G6 H a p0 p1 ha (v_X11_cut_32_3 (F := F) a G G6 hM hB ((hF6.2.1 _ xn0).trans (ld_c hG2)))) mv_X11_isRow km_X11_346 rfl rfl ⟨Nat.le_of_ble_eq_true rfl, Nat.le_of_ble_eq_true rfl⟩ (rc_13 hK hT ha) hK (fun _ => XPh.blind) (fun U hU hW => XPh.at hK hz hS hT hU hW) rfl hl.1 (Nat.le_of_ble_eq_true rfl) dX11_cut_32 ⟨Nat.le_of_ble_eq_true rfl, Nat.le_of_ble_eq_true rfl⟩) hS ?_
      rintro _ _ locs ⟨x32, rfl, b32, t32⟩ hS
      have t32 : (x32.toInt = 1 ∧ (cel (mw (G.2.1 (F a 1)) 0) (p0.toInt) (p1.toInt) 0) ≠ -2000) ∨ (x32.toInt = 0 ∧ (cel (mw (G.2.1 (F a 1)) 0) (p0.toInt) (p1.toInt) 0) = -2000) := by rw [(show G6.2.1 (F a 1) = G.2.1 (F a 1) from ((hF6.2.1 _ xn0).trans (ld_c hG2)))] at t32; exact t32
      refine xi_zne (tgt := 45) hx hb (rfl : Int32.toInt x32 = x32.toInt) dX11_cut_35 (by decide) (fun c35 => ?_) (fun c35 => ?_)
      · refine lv_aload_n hx hb dX11_cut_45 rfl (lv_at hl 0 rfl) ?_
        refine x_cv0 (x_runV (b := a) (As := []) (rest := []) S (c_X11_start l E K F G6 a ha (v_X11_cut_46_4 (F := F) a G G6 hR ((hF6.2.1 _ xn0).trans (ld_c hG2))) (v_X11_cut_46_5 (F := F) a G G6 hM hB ((hF6.2.1 _ xn0).trans (ld_c hG2)))) mv_X11_start km_X11_350 rfl rfl ⟨Nat.le_of_ble_eq_true rfl, Nat.le_of_ble_eq_true rfl⟩ (rc_13 hK hT ha) hK (fun _ => XP.blind) (fun U hU hW => XP.at hK hz hS hT hU hW) rfl hl.1 (Nat.le_of_ble_eq_true rfl) dX11_cut_46 ⟨Nat.le_of_ble_eq_true rfl, Nat.le_of_ble_eq_true rfl⟩) hS ?_
        rintro G46 H locs ⟨hF46, oq46, oq46a, oq46b⟩ hT hS
        have oq46 : mw (G46.2.1 (F a 4)) 0 = mw (G.2.1 (F a 1)) 0 := by simp only [(show G6.2.1 (F a 1) = G.2.1 (F a 1) from ((hF6.2.1 _ xn0).trans (ld_c hG2)))] at oq46; exact oq46
        have oq46b : LSt (G.2.1 (F a 10)) (G46.2.1 (F a 12)) (mw (G.2.1 (F a 1)) 0) 12 := by simp only [(show G6.2.1 (F a 10) = G.2.1 (F a 10) from ((hF6.2.1 _ xn0).trans (ld_c hG2))), (show G6.2.1 (F a 1) = G.2.1 (F a 1) from ((hF6.2.1 _ xn0).trans (ld_c hG2)))] at oq46b; exact oq46b
        refine lv_aload_n hx hb dX11_cut_49 rfl (lv_at hl 0 rfl) ?_
        refine lv_iload_n hx hb dX11_cut_50 rfl (lv_at hl 1 rfl) ?_
        refine lv_iload_n hx hb dX11_cut_51 rfl (lv_at hl 2 rfl) ?_
        refine x_cv0 (x_runV (b := a) (As := [.int p0, .int p1]) (rest := []) S (c_X11_cutAll l E K F G46 a p0 p1 ha (z29) (z29a) (by rw [(show G46.2.1 (F a 1) = G.2.1 (F a 1) from ((hF46.2.1 _ (xn1 (xne_k hk9999c hk9999k (by decide)) (xn1 (xne_k hk9999c hk9999l (by decide)) xn0))).trans ((hF6.2.1 _ xn0).trans (ld_c hG2))))] <;> exact (z_X11_cut_6 x32.toInt (cel (mw (G.2.1 (F a 1)) 0) (p0.toInt) (p1.toInt) 0) t32 c35)) (v_X11_cut_52_6 (F := F) a G G46 hR ((hF46.2.1 _ (xn1 (xne_k hk9999q hk9999k (by decide)) (xn1 (xne_k hk9999q hk9999l (by decide)) xn0))).trans ((hF6.2.1 _ xn0).trans (ld_c hG2)))) (v_X11_cut_52_7 (F := F) a G G46 hM hB oq46a ((hF46.2.1 _ (xn1 (xne_k hk9999c hk9999k (by decide)) (xn1 (xne_k hk9999c hk9999l (by decide)) xn0))).trans ((hF6.2.1 _ xn0).trans (ld_c hG2))))) mv_X11_cutAll km_X11_370 rfl rfl ⟨Nat.le_of_ble_eq_true rfl, Nat.le_of_ble_eq_true rfl⟩ (rc_13 hK hT ha) hK (fun _ => XP.blind) (fun U hU hW => XP.at hK hz hS hT hU hW) rfl hl.1 (Nat.le_of_ble_eq_true rfl) dX11_cut_52 ⟨Nat.le_of_ble_eq_true rfl, Nat.le_of_ble_eq_true rfl⟩) hS ?_
        rintro G52 H locs ⟨hF52, oq52, oq52a⟩ hT hS
        have oq52 : mw (G52.2.1 (F a 1)) 0 = cfin (refA (G.2.1 (F a 10))) (refT (G.2.1 (F a 10))) (refC (G.2.1 (F a 10))) ([(p0.toInt, p1.toInt, 0, 0)], rfil (mw (G.2.1 (F a 1)) 0) p0.toInt p1.toInt (-2000) 3) := by simp only [(show G46.2.1 (F a 10) = G.2.1 (F a 10) from ((hF46.2.1 _ (xn1 (xne_k hk9999q hk9999k (by decide)) (xn1 (xne_k hk9999q hk9999l (by decide)) xn0))).trans ((hF6.2.1 _ xn0).trans (ld_c hG2)))), (show G46.2.1 (F a 1) = G.2.1 (F a 1) from ((hF46.2.1 _ (xn1 (xne_k hk9999c hk9999k (by decide)) (xn1 (xne_k hk9999c hk9999l (by decide)) xn0))).trans ((hF6.2.1 _ xn0).trans (ld_c hG2))))] at oq52; exact oq52
        refine lv_aload_n hx hb dX11_cut_55 rfl (lv_at hl 0 rfl) ?_
        refine x_cl0 (x_runV (b := a) (As := []) (rest := []) S (c_X11_settles l E K F G52 a (mw (G.2.1 (F a 1)) 0) ha (by rw [(show (G52.1 a 23).toInt = ((G6.1 a 23).toInt) from (congrArg Int32.toInt ((hF52.1 _ _ xn0).trans (hF46.1 _ _ xn0))).trans (rfl : Int32.toInt (G6.1 a 23) = ((G6.1 a 23).toInt)))] <;> exact (z_X11_cut_7 ((G6.1 a 20).toInt) ((G6.1 a 21).toInt) ((G6.1 a 23).toInt) t6)) (by rw [(show (G52.1 a 43).toInt = ((G.1 a 43).toInt) from (congrArg Int32.toInt ((hF52.1 _ _ xn0).trans ((hF46.1 _ _ xn0).trans ((hF6.1 _ _ (xnj (by decide) (xnj (by decide) (xnj (by decide) xn0)))).trans (ld_j hG2 (by decide)))))).trans (rfl : Int32.toInt (G.1 a 43) = ((G.1 a 43).toInt)))] <;> exact (am)) (v_X11_cut_56_8 (F := F) a G G52 hR ((hF52.2.1 _ (xn1 (xne_k hk9999q hk9999m (by decide)) (xn1 (xne_k hk9999q hk9999n (by decide)) (xn1 (xne_k hk9999q hk9999o (by decide)) (xn1 (xne_k hk9999q hk9999p (by decide)) (xn1 (xne_k hk9999q hk9999c (by decide)) xn0)))))).trans ((hF46.2.1 _ (xn1 (xne_k hk9999q hk9999k (by decide)) (xn1 (xne_k hk9999q hk9999l (by decide)) xn0))).trans ((hF6.2.1 _ xn0).trans (ld_c hG2))))) (v_X11_cut_56_9 (F := F) a G52 oq52a) (v_X11_cut_56_10 (F := F) a G G46 G52 hM hB oq46a oq52a (hF52.2.1 _ (xn1 (xne_k hk9999k hk9999m (by decide)) (xn1 (xne_k hk9999k hk9999n (by decide)) (xn1 (xne_k hk9999k hk9999o (by decide)) (xn1 (xne_k hk9999k hk9999p (by decide)) (xn1 (xne_k hk9999k hk9999c (by decide)) xn0))))))) (v_X11_cut_56_11 (F := F) a G G46 G52 hM hB oq46a oq52a ((hF52.2.1 _ (xn1 (xne_k hk9999r hk9999m (by decide)) (xn1 (xne_k hk9999r hk9999n (by decide)) (xn1 (xne_k hk9999r hk9999o (by decide)) (xn1 (xne_k hk9999r hk9999p (by decide)) (xn1 (xne_k hk9999r hk9999c (by decide)) xn0)))))).trans ((hF46.2.1 _ (xn1 (xne_j hj9999r hj9999k (by first | decide | omega)) (xn1 (xne_k hk9999r hk9999l (by decide)) xn0))).trans ((hF6.2.1 _ xn0).trans (ld_c hG2))))) (v_X11_cut_56_12 (F := F) a G G46 G52 oq46b ((hF52.2.1 _ (xn1 (xne_k hk9999q hk9999m (by decide)) (xn1 (xne_k hk9999q hk9999n (by decide)) (xn1 (xne_k hk9999q hk9999o (by decide)) (xn1 (xne_k hk9999q hk9999p (by decide)) (xn1 (xne_k hk9999q hk9999c (by decide)) xn0)))))).trans ((hF46.2.1 _ (xn1 (xne_k hk9999q hk9999k (by decide)) (xn1 (xne_k hk9999q hk9999l (by decide)) xn0))).trans ((hF6.2.1 _ xn0).trans (ld_c hG2)))) (hF52.2.1 _ (xn1 (xne_k hk9999l hk9999m (by decide)) (xn1 (xne_k hk9999l hk9999n (by decide)) (xn1 (xne_k hk9999l hk9999o (by decide)) (xn1 (xne_k hk9999l hk9999p (by decide)) (xn1 (xne_k hk9999l hk9999c (by decide)) xn0)))))))) mv_X11_settles km_X11_353 rfl rfl ⟨Nat.le_of_ble_eq_true rfl, Nat.le_of_ble_eq_true rfl⟩ (rc_13 hK hT ha) hK (fun _ => XP.blind) (fun U hU hW => XP.at hK hz hS hT hU hW) rfl hl.1 (Nat.le_of_ble_eq_true rfl) dX11_cut_56 ⟨Nat.le_of_ble_eq_true rfl, Nat.le_of_ble_eq_true rfl⟩) hS ?_
        rintro _ G56 H locs ⟨x56, rfl, hF56, t56, oq56, oq56a⟩ hT hS
        have t56 : (0 ≤ ((G56.1 a 23).toInt) ∧ ((G56.1 a 23).toInt) ≤ 24) ∧ (0 ≤ ((G56.1 a 43).toInt) ∧ ((G56.1 a 43).toInt) ≤ 2388) := t56
        have oq56 : ((ffP (G.2.1 (F a 10)) (mw (G52.2.1 (F a 1)) 0) (fuO (G.2.1 (F a 10)) (mw (G.2.1 (F a 1)) 0) (mw (G52.2.1 (F a 1)) 0) 0) ≠ -1 ∨ (((G.1 a 6).toInt) = 0 ∧ ffP (G.2.1 (F a 10)) (mw (G52.2.1 (F a 1)) 0) (fuO (G.2.1 (F a 10)) (mw (G.2.1 (F a 1)) 0) (mw (G52.2.1 (F a 1)) 0) 1) ≠ -1)) ∧ x56.toInt = -5 ∧ mw (G56.2.1 (F a 1)) 0 = mw (G46.2.1 (F a 4)) 0) ∨ (ffP (G.2.1 (F a 10)) (mw (G52.2.1 (F a 1)) 0) (fuO (G.2.1 (F a 10)) (mw (G.2.1 (F a 1)) 0) (mw (G52.2.1 (F a 1)) 0) 0) = -1 ∧ (((G.1 a 6).toInt) = 0 → ffP (G.2.1 (F a 10)) (mw (G52.2.1 (F a 1)) 0) (fuO (G.2.1 (F a 10)) (mw (G.2.1 (F a 1)) 0) (mw (G52.2.1 (F a 1)) 0) 1) = -1) ∧ x56.toInt = (((fuO (G.2.1 (F a 10)) (mw (G.2.1 (F a 1)) 0) (mw (G52.2.1 (F a 1)) 0) 2).length : Nat) : Int) ∧ mw (G56.2.1 (F a 1)) 0 = mw (G52.2.1 (F a 1)) 0) := by simp only [(show G52.2.1 (F a 10) = G.2.1 (F a 10) from ((hF52.2.1 _ (xn1 (xne_k hk9999q hk9999m (by decide)) (xn1 (xne_k hk9999q hk9999n (by decide)) (xn1 (xne_k hk9999q hk9999o (by decide)) (xn1 (xne_k hk9999q hk9999p (by decide)) (xn1 (xne_k hk9999q hk9999c (by decide)) xn0)))))).trans ((hF46.2.1 _ (xn1 (xne_k hk9999q hk9999k (by decide)) (xn1 (xne_k hk9999q hk9999l (by decide)) xn0))).trans ((hF6.2.1 _ xn0).trans (ld_c hG2))))), (show G52.1 a 6 = G.1 a 6 from ((hF52.1 _ _ xn0).trans ((hF46.1 _ _ xn0).trans ((hF6.1 _ _ (xnj (by decide) (xnj (by decide) (xnj (by decide) xn0)))).trans (ld_j hG2 (by decide)))))), (show G52.2.1 (F a 4) = G46.2.1 (F a 4) from (hF52.2.1 _ (xn1 (xne_k hk9999k hk9999m (by decide)) (xn1 (xne_k hk9999k hk9999n (by decide)) (xn1 (xne_k hk9999k hk9999o (by decide)) (xn1 (xne_k hk9999k hk9999p (by decide)) (xn1 (xne_k hk9999k hk9999c (by decide)) xn0)))))))] at oq56; exact oq56
        exact x_ri hx hb hr hlk hQ (Nat.le_of_ble_eq_true rfl) (Nat.le_of_ble_eq_true rfl) hS dX11_cut_59 G56 ⟨_, rfl, (XFr.call (XFr.call (XFr.call (XFr.call (by rw [hG2]; exact XFr.dput XFr.rf (List.mem_of_getElem? (i := 9) rfl)) hF6 (xm1 2 rfl (xm1 3 rfl (xm1 4 rfl xm0))) xm0 xm0) hF46 xm0 (xm1 11 rfl (xm1 12 rfl xm0)) xm0) hF52 xm0 (xm1 13 rfl (xm1 14 rfl (xm1 15 rfl (xm1 16 rfl (xm1 3 rfl xm0))))) xm0) hF56 (xm1 0 rfl (xm1 1 rfl (xm1 2 rfl (xm1 3 rfl (xm1 4 rfl (xm1 5 rfl (xm1 6 rfl (xm1 7 rfl (xm1 8 rfl xm0))))))))) (xm1 0 rfl (xm1 1 rfl (xm1 2 rfl (xm1 3 rfl (xm1 4 rfl (xm1 5 rfl (xm1 6 rfl (xm1 7 rfl (xm1 8 rfl (xm1 9 rfl (xm1 10 rfl xm0))))))))))) xm0), (t56), (v_X11_cut_59_13 (F := F) G46 a G G52 p0 p1 x56 G56 x32 oq46 oq52 oq56 z29 z29a t32 c35), (v_X11_cut_59_14 (F := F) a G56 oq56a)⟩ hT
      · refine lv_aload_n hx hb dX11_cut_38 rfl (lv_at hl 0 rfl) ?_
        refine lv_bipush (v := (-2)) hx hb dX11_cut_39 (by decide) ?_
        refine x_cl0 (x_runV (b := a) (As := [.int (-2)]) (rest := []) S (c_X11_refuses l E K F G6 a (-2) ha) mv_X11_refuses km_X11_325 rfl rfl ⟨Nat.le_of_ble_eq_true rfl, Nat.le_of_ble_eq_true rfl⟩ (rc_13 hK hT ha) hK (fun _ => XP.blind) (fun U hU hW => XP.at hK hz hS hT hU hW) rfl hl.1 (Nat.le_of_ble_eq_true rfl) dX11_cut_41 ⟨Nat.le_of_ble_eq_true rfl, Nat.le_of_ble_eq_true rfl⟩) hS ?_
        rintro _ G41 H locs ⟨x41, rfl, hF41, t41⟩ hT hS
        have t41 : x41.toInt = (-2 : Int) := by rw [((by decide) : Int32.toInt (-2) = (-2 : Int))] at t41; exact t41
        exact x_ri hx hb hr hlk hQ (Nat.le_of_ble_eq_true rfl) (Nat.le_of_ble_eq_true rfl) hS dX11_cut_44 G41 ⟨_, rfl, (XFr.call (XFr.call (by rw [hG2]; exact XFr.dput XFr.rf (List.mem_of_getElem? (i := 9) rfl)) hF6 (xm1 2 rfl (xm1 3 rfl (xm1 4 rfl xm0))) xm0 xm0) hF41 xm0 (xm1 4 rfl xm0) xm0), (by rw [(show (G41.1 a 23).toInt = ((G6.1 a 23).toInt) from (congrArg Int32.toInt (hF41.1 _ _ xn0)).trans (rfl : Int32.toInt (G6.1 a 23) = ((G6.1 a 23).toInt))), (show (G41.1 a 43).toInt = ((G.1 a 43).toInt) from (congrArg Int32.toInt ((hF41.1 _ _ xn0).trans ((hF6.1 _ _ (xnj (by decide) (xnj (by decide) (xnj (by decide) xn0)))).trans (ld_j hG2 (by decide))))).trans (rfl : Int32.toInt (G.1 a 43) = ((G.1 a 43).toInt)))] <;> exact (z_X11_cut_1 ((G.1 a 43).toInt) ((G6.1 a 20).toInt) ((G6.1 a 21).toInt) ((G6.1 a 23).toInt) am t6)), (by rw [(t41 : Int32.toInt x41 = (-2 : Int))] <;> exact (v_X11_cut_44_15 (F := F) p0 p1 x32 G a G41 z29 z29a t32 c35 ((hF41.2.1 _ (xn1 (xne_k hk9999c hk9999d (by decide)) xn0)).trans ((hF6.2.1 _ xn0).trans (ld_c hG2))))), (v_X11_cut_44_16 (F := F) a G G41 hM ((hF41.2.1 _ (xn1 (xne_k hk9999c hk9999d (by decide)) xn0)).trans ((hF6.2.1 _ xn0).trans (ld_c hG2))))⟩ hT
    · refine lv_aload_n hx hb dX11_cut_23 rfl (lv_at hl 0 rfl) ?_
      refine lv_iconst (v := (-1)) hx hb dX11_cut_24 (by decide) ?_
      refine x_cl0 (x_runV (b := a) (As := [.int (-1)]) (rest := []) S (c_X11_refuses l E K F G6 a (-1) ha) mv_X11_refuses km_X11_325 rfl rfl ⟨Nat.le_of_ble_eq_true rfl, Nat.le_of_ble_eq_true rfl⟩ (rc_13 hK hT ha) hK (fun _ => XP.blind) (fun U hU hW => XP.at hK hz hS hT hU hW) rfl hl.1 (Nat.le_of_ble_eq_true rfl) dX11_cut_25 ⟨Nat.le_of_ble_eq_true rfl, Nat.le_of_ble_eq_true rfl⟩) hS ?_
      rintro _ G25 H locs ⟨x25, rfl, hF25, t25⟩ hT hS
      have t25 : x25.toInt = (-1 : Int) := by rw [((by decide) : Int32.toInt (-1) = (-1 : Int))] at t25; exact t25
      exact x_ri hx hb hr hlk hQ (Nat.le_of_ble_eq_true rfl) (Nat.le_of_ble_eq_true rfl) hS dX11_cut_28 G25 ⟨_, rfl, (XFr.call (XFr.call (by rw [hG2]; exact XFr.dput XFr.rf (List.mem_of_getElem? (i := 9) rfl)) hF6 (xm1 2 rfl (xm1 3 rfl (xm1 4 rfl xm0))) xm0 xm0) hF25 xm0 (xm1 4 rfl xm0) xm0), (by rw [(show (G25.1 a 23).toInt = ((G6.1 a 23).toInt) from (congrArg Int32.toInt (hF25.1 _ _ xn0)).trans (rfl : Int32.toInt (G6.1 a 23) = ((G6.1 a 23).toInt))), (show (G25.1 a 43).toInt = ((G.1 a 43).toInt) from (congrArg Int32.toInt ((hF25.1 _ _ xn0).trans ((hF6.1 _ _ (xnj (by decide) (xnj (by decide) (xnj (by decide) xn0)))).trans (ld_j hG2 (by decide))))).trans (rfl : Int32.toInt (G.1 a 43) = ((G.1 a 43).toInt)))] <;> exact (z_X11_cut_1 ((G.1 a 43).toInt) ((G6.1 a 20).toInt) ((G6.1 a 21).toInt) ((G6.1 a 23).toInt) am t6)), (by rw [(t25 : Int32.toInt x25 = (-1 : Int))] <;> exact (v_X11_cut_28_17 (F := F) x17 p1 G25 a G p0 t17 c20 ((hF25.2.1 _ (xn1 (xne_k hk9999c hk9999d (by decide)) xn0)).trans ((hF6.2.1 _ xn0).trans (ld_c hG2))))), (v_X11_cut_28_18 (F := F) a G G25 hM ((hF25.2.1 _ (xn1 (xne_k hk9999c hk9999d (by decide)) xn0)).trans ((hF6.2.1 _ xn0).trans (ld_c hG2))))⟩ hT
section
/-! the rules that rows follow, as the class has them -/
def clsA (G : XG) (b : Nat → Option Nat) (r t : Int) : Int := match b r.toNat with
  | none => 0
  | some q => if 0 ≤ r ∧ r < 12 ∧ (G.1 q 0).toInt = 1 ∧ (G.1 q 4).toInt = t then (G.1 q 7).toInt else 0
def clsT (G : XG) (b : Nat → Option Nat) (r : Int) : Int := match b r.toNat with
  | none => 0
  | some q => if 0 ≤ r ∧ r < 12 ∧ (G.1 q 0).toInt = 1 then (G.1 q 2).toInt else 0
def clsC (G : XG) (b : Nat → Option Nat) (r : Int) : Int := match b r.toNat with
  | none => 0
  | some q => if 0 ≤ r ∧ r < 12 ∧ (G.1 q 0).toInt = 1 then (G.1 q 3).toInt else 0
theorem clsA_n {G : XG} {b : Nat → Option Nat} {r t : Int} (h : b r.toNat = none) : clsA G b r t = 0 := by unfold clsA; rw [h]
theorem clsA_s {G : XG} {b : Nat → Option Nat} {r t : Int} {q : Nat} (h : b r.toNat = some q) : clsA G b r t = if 0 ≤ r ∧ r < 12 ∧ (G.1 q 0).toInt = 1 ∧ (G.1 q 4).toInt = t then (G.1 q 7).toInt else 0 := by unfold clsA; rw [h]
theorem clsT_s {G : XG} {b : Nat → Option Nat} {r : Int} {q : Nat} (h : b r.toNat = some q) (h0 : 0 ≤ r ∧ r < 12 ∧ (G.1 q 0).toInt = 1) : clsT G b r = (G.1 q 2).toInt ∧ clsC G b r = (G.1 q 3).toInt := by
  unfold clsT clsC
  rw [h]
  exact ⟨if_pos h0, if_pos h0⟩
/-- what a rule has its rows do is 0, 1 or 2 -/
def ACo (G : XG) (b : Nat → Option Nat) : Prop := ∀ (i q : Nat), i < 12 → b i = some q → 0 ≤ (G.1 q 7).toInt ∧ (G.1 q 7).toInt ≤ 2
theorem clsA_f {G : XG} {b : Nat → Option Nat} {r t : Int} (h : 0 < clsA G b r t) : (0 ≤ r ∧ r < 12) ∧ ∃ q, b r.toNat = some q ∧ (G.1 q 0).toInt = 1 ∧ (G.1 q 4).toInt = t ∧ clsA G b r t = (G.1 q 7).toInt ∧ clsT G b r = (G.1 q 2).toInt ∧ clsC G b r = (G.1 q 3).toInt := by
  cases hb : b r.toNat with
  | none => rw [clsA_n hb] at h; exact absurd h (by decide)
  | some q =>
    have e := clsA_s (G := G) (t := t) hb
    by_cases g : 0 ≤ r ∧ r < 12 ∧ (G.1 q 0).toInt = 1 ∧ (G.1 q 4).toInt = t
    · rw [if_pos g] at e
      have e2 := clsT_s (G := G) hb ⟨g.1, g.2.1, g.2.2.1⟩
      exact ⟨⟨g.1, g.2.1⟩, q, rfl, g.2.2.1, g.2.2.2, e, e2.1, e2.2⟩
    · rw [if_neg g] at e
      omega
theorem clsTo {K : Nat → Nat} {G : XG} {b : Nat → Option Nat} (h : BKr K G b) : CTo (clsA G b) (clsT G b) (clsC G b) := by
  intro r t ha
  obtain ⟨h1, q, h2, -, -, -, h3, h4⟩ := clsA_f ha
  have h5 := (h r.toNat q (by omega) h2).2.f
  rw [h3, h4]
  omega
theorem cls_cg {G u : XG} {b : Nat → Option Nat} (h : ∀ (i q : Nat), i < 12 → b i = some q → u.1 q = G.1 q) : clsA u b = clsA G b ∧ clsT u b = clsT G b ∧ clsC u b = clsC G b := by
  refine ⟨funext (fun r => funext (fun t => ?_)), funext (fun r => ?_), funext (fun r => ?_)⟩
  · unfold clsA
    cases hb : b r.toNat with
    | none => rfl
    | some q =>
      simp only
      by_cases g : 0 ≤ r ∧ r < 12
      · rw [h _ q (by omega) hb]
      · rw [if_neg (fun x => g ⟨x.1, x.2.1⟩), if_neg (fun x => g ⟨x.1, x.2.1⟩)]
  · unfold clsT
    cases hb : b r.toNat with
    | none => rfl
    | some q =>
      simp only
      by_cases g : 0 ≤ r ∧ r < 12
      · rw [h _ q (by omega) hb]
      · rw [if_neg (fun x => g ⟨x.1, x.2.1⟩), if_neg (fun x => g ⟨x.1, x.2.1⟩)]
  · unfold clsC
    cases hb : b r.toNat with
    | none => rfl
    | some q =>
      simp only
      by_cases g : 0 ≤ r ∧ r < 12
      · rw [h _ q (by omega) hb]
      · rw [if_neg (fun x => g ⟨x.1, x.2.1⟩), if_neg (fun x => g ⟨x.1, x.2.1⟩)]
theorem ACo.cg {G u : XG} {b : Nat → Option Nat} (h0 : ACo G b) (h : ∀ (i q : Nat), i < 12 → b i = some q → u.1 q = G.1 q) : ACo u b := fun i q hi hq => by rw [h i q hi hq]; exact h0 i q hi hq
theorem BKr.cg {K : Nat → Nat} {G u : XG} {b : Nat → Option Nat} (h0 : BKr K G b) (h : ∀ (i q : Nat), i < 12 → b i = some q → u.1 q = G.1 q) : BKr K u b := fun i q hi hq => ⟨(h0 i q hi hq).1, by rw [h i q hi hq]; exact (h0 i q hi hq).2⟩
/-- a rule with clear is looked at from its first key on -/
def CZ (A : Int → Int → Int) (s : List CFr) : Prop := ∀ x, x ∈ s → A x.2.2.1 x.1 = 2 → x.2.2.2 = 0
theorem CZ.cons {A : Int → Int → Int} {s : List CFr} {t k r n : Int} (h : CZ A s) (h1 : A r t = 2 → n = 0) : CZ A ((t, k, r, n) :: s) := fun x hx => (List.mem_cons.mp hx).elim (fun e => by rw [e]; exact h1) (h x)
theorem CZ.tl {A : Int → Int → Int} {s : List CFr} {y : CFr} (h : CZ A (y :: s)) : CZ A s := fun x hx => h x (List.mem_cons_of_mem _ hx)
def cnv (S : CSt) : Int := 14 * pn S.2 + cnu S.1
theorem cnv_b {S : CSt} (h : CIv S) : 0 ≤ cnv S ∧ (S.1 ≠ [] → 1 ≤ cnv S) := by
  have h1 := cnu_b h.1
  have h2 := pn_b S.2
  unfold cnv
  exact ⟨by omega, fun q => by have := h1.2 q; omega⟩
/-- what one step of the class keeps -/
def CGo (A : Int → Int → Int) (T C : Int → Int) (S S2 : CSt) : Prop := CIv S2 ∧ CZ A S2.1 ∧ cfin A T C S2 = cfin A T C S ∧ cnv S2 = cnv S - 1
section CGO
variable {A : Int → Int → Int} {T C : Int → Int} {t k r n : Int} {s : List CFr} {v : Int → Int}
theorem cnv_c : cnv ((t, k, r, n) :: s, v) = 14 * pn v + (13 - r + cnu s) := rfl
theorem cgo_pop (hT : CTo A T C) (h : CIv ((t, k, r, n) :: s, v)) (hz : CZ A ((t, k, r, n) :: s)) (hr : r = 12) : CGo A T C ((t, k, r, n) :: s, v) (s, v) := by
  obtain ⟨h1, h2⟩ := cm_st hT h (cst_pop (A := A) (T := T) (C := C) hr)
  refine ⟨h1, hz.tl, h2, ?_⟩
  show 14 * pn v + cnu s = 14 * pn v + (13 - r + cnu s) - 1
  omega
theorem cgo_nx (hT : CTo A T C) (h : CIv ((t, k, r, n) :: s, v)) (hz : CZ A ((t, k, r, n) :: s)) (hr : r ≠ 12) (ha : ¬ (0 < A r t)) : CGo A T C ((t, k, r, n) :: s, v) ((t, k, r + 1, 0) :: s, v) := by
  obtain ⟨h1, h2⟩ := cm_st hT h (cst_nx (A := A) (T := T) (C := C) hr (Or.inr ha))
  refine ⟨h1, hz.tl.cons (fun _ => rfl), h2, ?_⟩
  show 14 * pn v + (13 - (r + 1) + cnu s) = 14 * pn v + (13 - r + cnu s) - 1
  omega
theorem cgo_cl (hT : CTo A T C) (h : CIv ((t, k, r, n) :: s, v)) (hz : CZ A ((t, k, r, n) :: s)) (hr : r ≠ 12) (ha : A r t = 2) : CGo A T C ((t, k, r, n) :: s, v) ((t, k, r + 1, 0) :: s, repl v (T r) (C r) k (-1000) 30) := by
  have n0 : n = 0 := hz _ List.mem_cons_self ha
  subst n0
  obtain ⟨h1, h2, h3⟩ := cm_clr hT hr ha h
  refine ⟨h1, hz.tl.cons (fun _ => rfl), h2, ?_⟩
  show 14 * pn (repl v (T r) (C r) k (-1000) 30) + (13 - (r + 1) + cnu s) = 14 * pn v + (13 - r + cnu s) - 1
  rw [h3]
  omega
theorem cgo_no (hT : CTo A T C) (h : CIv ((t, k, r, n) :: s, v)) (hz : CZ A ((t, k, r, n) :: s)) (hr : r ≠ 12) (ha : 0 < A r t) (hk : ∀ j : Int, n ≤ j → j < 30 → cel v (T r) j (C r) ≠ k) : CGo A T C ((t, k, r, n) :: s, v) ((t, k, r + 1, 0) :: s, v) := by
  have h0 := (h.1 (t, k, r, n) List.mem_cons_self).2.2.2
  simp only at h0
  obtain ⟨g1, g2⟩ := cm_sk hT hr ha h (m := 30) (by omega) hk
  obtain ⟨h1, h2⟩ := cm_st hT g1 (cst_nx (A := A) (T := T) (C := C) hr (Or.inl rfl))
  refine ⟨h1, hz.tl.cons (fun _ => rfl), h2.trans g2, ?_⟩
  show 14 * pn v + (13 - (r + 1) + cnu s) = 14 * pn v + (13 - r + cnu s) - 1
  omega
theorem cgo_go (hT : CTo A T C) (h : CIv ((t, k, r, n) :: s, v)) (hz : CZ A ((t, k, r, n) :: s)) (hr : r ≠ 12) (ha : 0 < A r t) (ha2 : A r t ≠ 2) {j : Int} (hj : n ≤ j ∧ j < 30) (hk : ∀ i : Int, n ≤ i → i < j → cel v (T r) i (C r) ≠ k) (he : cel v (T r) j (C r) = k) : CGo A T C ((t, k, r, n) :: s, v) ((T r, j, 0, 0) :: (t, k, r, j + 1) :: s, rfil v (T r) j (-2000) 3) := by
  obtain ⟨g1, g2⟩ := cm_sk hT hr ha h (m := j) (by omega) hk
  obtain ⟨h1, h2⟩ := cm_st hT g1 (cst_go (A := A) (T := T) (C := C) hr (by omega) ha ha2 he)
  refine ⟨h1, (hz.tl.cons (fun q => absurd q ha2)).cons (fun _ => rfl), h2.trans g2, ?_⟩
  have h0 := h.1 (t, k, r, n) List.mem_cons_self
  have tt := hT r t ha
  have h3 : RC v := h.2.2
  have h4 := h0.2.1
  have h5 := h0.2.2.2
  simp only at h4 h5
  have hin : 0 ≤ T r ∧ T r < 3 ∧ 0 ≤ j ∧ j < 30 ∧ 0 ≤ C r ∧ C r < 3 := by omega
  rw [cel_in hin] at he
  have hp : v (90 * T r + j) ≠ -2000 := fun q => by
    have := (h3 (T r) j (C r) hin.1 hin.2.1 hin.2.2.1 hin.2.2.2.1 hin.2.2.2.2.1 hin.2.2.2.2.2).mpr q
    omega
  have e2 := (h3.cut (t := T r) (k := j) (by omega) hp).2
  show 14 * pn (rfil v (T r) j (-2000) 3) + (13 - 0 + (13 - r + cnu s)) = 14 * pn v + (13 - r + cnu s) - 1
  rw [e2]
  omega
end CGO
theorem RO.rc {r b : Int → Int} (h : RO r b) : RC r := fun t k c a1 a2 a3 a4 a5 a6 => (h.1 t k a1 a2 a3 a4).2 c a5 a6
/-! a row under another key, and those that refer to it -/
def mvR (A : Int → Int → Int) (T C : Int → Int) (t key to : Int) (v : Int → Int) : Nat → (Int → Int)
  | 0 => v
  | n + 1 => if 0 < A n t then repl (mvR A T C t key to v n) (T n) (C n) key (if A n t = 1 then to else -1000) 30 else mvR A T C t key to v n
theorem mvR_s {A : Int → Int → Int} {T C : Int → Int} {t key to n : Int} {v : Int → Int} (h : 0 ≤ n) : mvR A T C t key to v (n + 1).toNat = if 0 < A n t then repl (mvR A T C t key to v n.toNat) (T n) (C n) key (if A n t = 1 then to else -1000) 30 else mvR A T C t key to v n.toNat := by
  have e : (n + 1).toNat = n.toNat + 1 := by omega
  have e2 : ((n.toNat : Nat) : Int) = n := by omega
  rw [e]
  show (if 0 < A (n.toNat : Int) t then repl (mvR A T C t key to v n.toNat) (T (n.toNat : Int)) (C (n.toNat : Int)) key (if A (n.toNat : Int) t = 1 then to else -1000) 30 else mvR A T C t key to v n.toNat) = _
  rw [e2]
theorem toNat_lt12 {z : Int} (h : 0 ≤ z ∧ z < 12) : z.toNat < 12 := by omega
end
theorem v_X2_replace_49_1 {K : Nat → Nat} {F : Nat → Nat → Nat} (p0 : Nat) (p1 : Nat) (G : XG) (G_3 : XG) (p2 : Int32) (p3 : Int32) (l4_3 : Int32) (N3 : Nat)
    (hp0 : K p0 = 8)
    (hp1 : K p1 = 9)
    (rp : (vw (G_3.2.1 (F p0 0))) = repl (vw (G.2.1 (F p0 0))) ((G.1 p1 2).toInt) ((G.1 p1 3).toInt) p2.toInt p3.toInt (l4_3.toInt))
    (e0 : 0 ≤ p2.toInt ∧ p2.toInt < 30)
    (e1 : p3.toInt = -1000 ∨ (-99 ≤ p3.toInt ∧ p3.toInt ≤ 99))
    (z0 : (0 ≤ ((G.1 p1 2).toInt) ∧ ((G.1 p1 2).toInt) ≤ 2) ∧ (0 ≤ ((G.1 p1 3).toInt) ∧ ((G.1 p1 3).toInt) ≤ 2))
    (I3_0 : 0 ≤ l4_3.toInt ∧ l4_3.toInt ≤ 30)
    (I3_1 : (0 : Int) ≤ l4_3.toInt)
    (hm3 : 2147483648 - l4_3.toInt < (((N3) + 1 : Nat) : Int))
    (c7 : (30 : Int) ≤ l4_3.toInt) :
    (vw (G_3.2.1 (F p0 0))) = repl (vw (G.2.1 (F p0 0))) ((G.1 p1 2).toInt) ((G.1 p1 3).toInt) p2.toInt p3.toInt 30 := by
  rw [rp, show l4_3.toInt = 30 from by omega]
theorem v_X2_replace_49_2 {F : Nat → Nat → Nat} (p0 : Nat) (G_3 : XG)
    (ro : RO (vw (G_3.2.1 (F p0 0))) (aI (G_3.2.1 (F p0 1)))) :
    RO (vw (G_3.2.1 (F p0 0))) (aI (G_3.2.1 (F p0 1))) := by
  exact ro
theorem v_X2_replace_46_3 {K : Nat → Nat} {F : Nat → Nat → Nat} (p0 : Nat) (p1 : Nat) (G : XG) (G_3 : XG) (p2 : Int32) (p3 : Int32) (l4_3 : Int32) (N3 : Nat)
    (hp0 : K p0 = 8)
    (hp1 : K p1 = 9)
    (rp : (vw (G_3.2.1 (F p0 0))) = repl (vw (G.2.1 (F p0 0))) ((G.1 p1 2).toInt) ((G.1 p1 3).toInt) p2.toInt p3.toInt (l4_3.toInt))
    (ro : RO (vw (G_3.2.1 (F p0 0))) (aI (G_3.2.1 (F p0 1))))
    (e0 : 0 ≤ p2.toInt ∧ p2.toInt < 30)
    (e1 : p3.toInt = -1000 ∨ (-99 ≤ p3.toInt ∧ p3.toInt ≤ 99))
    (z0 : (0 ≤ ((G.1 p1 2).toInt) ∧ ((G.1 p1 2).toInt) ≤ 2) ∧ (0 ≤ ((G.1 p1 3).toInt) ∧ ((G.1 p1 3).toInt) ≤ 2))
    (I3_0 : 0 ≤ l4_3.toInt ∧ l4_3.toInt ≤ 30)
    (I3_1 : (0 : Int) ≤ l4_3.toInt)
    (hm3 : 2147483648 - l4_3.toInt < (((N3) + 1 : Nat) : Int))
    (c7 : ¬ ((30 : Int) ≤ l4_3.toInt))
    (c25 : (cel (vw (G_3.2.1 (F p0 0))) ((G.1 p1 2).toInt) (l4_3.toInt) ((G.1 p1 3).toInt)) ≠ p2.toInt) :
    (vw (G_3.2.1 (F p0 0))) = repl (vw (G.2.1 (F p0 0))) ((G.1 p1 2).toInt) ((G.1 p1 3).toInt) p2.toInt p3.toInt (l4_3.toInt + 1) := by
  have ec : cel (vw (G_3.2.1 (F p0 0))) ((G.1 p1 2).toInt) (l4_3.toInt) ((G.1 p1 3).toInt) = vw (G.2.1 (F p0 0)) (90 * (G.1 p1 2).toInt + 30 * (G.1 p1 3).toInt + l4_3.toInt) := by
    rw [rp, cel_in (by omega), repl_at (Int.le_refl _)]
  have ab := ro.absent ((G.1 p1 2).toInt) (l4_3.toInt) ((G.1 p1 3).toInt) (by omega)
  first
    | (rw [repl_2 (by omega)]; exact rp)
    | (rw [oq40, if_pos (by omega), rp, repl_1 (by omega) (by omega)])
theorem v_X2_replace_46_4 {F : Nat → Nat → Nat} (p0 : Nat) (G_3 : XG)
    (ro : RO (vw (G_3.2.1 (F p0 0))) (aI (G_3.2.1 (F p0 1)))) :
    RO (vw (G_3.2.1 (F p0 0))) (aI (G_3.2.1 (F p0 1))) := by
  first
    | exact ro
    | (rw [← c_G40_F_p0_1]; exact oq40a)
theorem v_X2_replace_40_5 {F : Nat → Nat → Nat} (p0 : Nat) (G_3 : XG)
    (ro : RO (vw (G_3.2.1 (F p0 0))) (aI (G_3.2.1 (F p0 1)))) :
    RO (vw (G_3.2.1 (F p0 0))) (aI (G_3.2.1 (F p0 1))) := by exact ro
theorem v_X2_replace_46_6 {K : Nat → Nat} {F : Nat → Nat → Nat} (p0 : Nat) (p1 : Nat) (G : XG) (G_3 : XG) (G40 : XG) (p2 : Int32) (p3 : Int32) (l4_3 : Int32) (N3 : Nat)
    (hp0 : K p0 = 8)
    (hp1 : K p1 = 9)
    (rp : (vw (G_3.2.1 (F p0 0))) = repl (vw (G.2.1 (F p0 0))) ((G.1 p1 2).toInt) ((G.1 p1 3).toInt) p2.toInt p3.toInt (l4_3.toInt))
    (ro : RO (vw (G_3.2.1 (F p0 0))) (aI (G_3.2.1 (F p0 1))))
    (oq40 : (vw (G40.2.1 (F p0 0))) = if cel (vw (G_3.2.1 (F p0 0))) (((G.1 p1 2).toInt)) (l4_3.toInt) 0 ≠ -2000 then rset (vw (G_3.2.1 (F p0 0))) (90 * (((G.1 p1 2).toInt)) + 30 * (((G.1 p1 3).toInt)) + (l4_3.toInt)) (p3.toInt) else (vw (G_3.2.1 (F p0 0))))
    (e0 : 0 ≤ p2.toInt ∧ p2.toInt < 30)
    (e1 : p3.toInt = -1000 ∨ (-99 ≤ p3.toInt ∧ p3.toInt ≤ 99))
    (z0 : (0 ≤ ((G.1 p1 2).toInt) ∧ ((G.1 p1 2).toInt) ≤ 2) ∧ (0 ≤ ((G.1 p1 3).toInt) ∧ ((G.1 p1 3).toInt) ≤ 2))
    (I3_0 : 0 ≤ l4_3.toInt ∧ l4_3.toInt ≤ 30)
    (I3_1 : (0 : Int) ≤ l4_3.toInt)
    (hm3 : 2147483648 - l4_3.toInt < (((N3) + 1 : Nat) : Int))
    (c7 : ¬ ((30 : Int) ≤ l4_3.toInt))
    (c25 : ¬ ((cel (vw (G_3.2.1 (F p0 0))) ((G.1 p1 2).toInt) (l4_3.toInt) ((G.1 p1 3).toInt)) ≠ p2.toInt)) :
    (vw (G40.2.1 (F p0 0))) = repl (vw (G.2.1 (F p0 0))) ((G.1 p1 2).toInt) ((G.1 p1 3).toInt) p2.toInt p3.toInt (l4_3.toInt + 1) := by
  have ec : cel (vw (G_3.2.1 (F p0 0))) ((G.1 p1 2).toInt) (l4_3.toInt) ((G.1 p1 3).toInt) = vw (G.2.1 (F p0 0)) (90 * (G.1 p1 2).toInt + 30 * (G.1 p1 3).toInt + l4_3.toInt) := by
    rw [rp, cel_in (by omega), repl_at (Int.le_refl _)]
  have ab := ro.absent ((G.1 p1 2).toInt) (l4_3.toInt) ((G.1 p1 3).toInt) (by omega)
  first
    | (rw [repl_2 (by omega)]; exact rp)
    | (rw [oq40, if_pos (by omega), rp, repl_1 (by omega) (by omega)])
theorem v_X2_replace_46_7 {F : Nat → Nat → Nat} (p0 : Nat) (G_3 : XG) (G40 : XG)
    (ro : RO (vw (G_3.2.1 (F p0 0))) (aI (G_3.2.1 (F p0 1))))
    (oq40a : RO (vw (G40.2.1 (F p0 0))) (aI (G40.2.1 (F p0 1))))
    (c_G40_F_p0_1 : G40.2.1 (F p0 1) = G_3.2.1 (F p0 1)) :
    RO (vw (G40.2.1 (F p0 0))) (aI (G_3.2.1 (F p0 1))) := by
  first
    | exact ro
    | (rw [← c_G40_F_p0_1]; exact oq40a)
theorem v_X2_replace_1_8 {F : Nat → Nat → Nat} (p0 : Nat) (p1 : Nat) (G : XG) (p2 : Int32) (p3 : Int32) :
    (vw (G.2.1 (F p0 0))) = repl (vw (G.2.1 (F p0 0))) ((G.1 p1 2).toInt) ((G.1 p1 3).toInt) p2.toInt p3.toInt (0 : Int) := by
  rw [repl_0]
theorem v_X2_replace_1_9 {F : Nat → Nat → Nat} (p0 : Nat) (G : XG)
    (hro : RO (vw (G.2.1 (F p0 0))) (aI (G.2.1 (F p0 1)))) :
    RO (vw (G.2.1 (F p0 0))) (aI (G.2.1 (F p0 1))) := by
  exact hro
theorem v_X2_nextWith_38_1 {K : Nat → Nat} {F : Nat → Nat → Nat} (p0 : Nat) (p1 : Nat) (G : XG) (p2 : Int32) (l4_3 : Int32) (p3 : Int32) (N3 : Nat)
    (hp0 : K p0 = 8)
    (hp1 : K p1 = 9)
    (pn : ∀ j : Int, p2.toInt ≤ j → j < l4_3.toInt → cel (vw (G.2.1 (F p0 0))) ((G.1 p1 2).toInt) j ((G.1 p1 3).toInt) ≠ p3.toInt)
    (e0 : 0 ≤ p2.toInt ∧ p2.toInt ≤ 30)
    (z0 : (0 ≤ ((G.1 p1 2).toInt) ∧ ((G.1 p1 2).toInt) ≤ 2) ∧ (0 ≤ ((G.1 p1 3).toInt) ∧ ((G.1 p1 3).toInt) ≤ 2))
    (I3_0 : p2.toInt ≤ l4_3.toInt ∧ l4_3.toInt ≤ 30)
    (hm3 : 2147483648 - l4_3.toInt < (((N3) + 1 : Nat) : Int))
    (c7 : (30 : Int) ≤ l4_3.toInt) :
    ((-1 : Int) = -1 ∧ ∀ j : Int, p2.toInt ≤ j → j < 30 → cel (vw (G.2.1 (F p0 0))) ((G.1 p1 2).toInt) j ((G.1 p1 3).toInt) ≠ p3.toInt) ∨ ((p2.toInt ≤ (-1 : Int) ∧ (-1 : Int) < 30) ∧ cel (vw (G.2.1 (F p0 0))) ((G.1 p1 2).toInt) (-1 : Int) ((G.1 p1 3).toInt) = p3.toInt ∧ ∀ j : Int, p2.toInt ≤ j → j < (-1 : Int) → cel (vw (G.2.1 (F p0 0))) ((G.1 p1 2).toInt) j ((G.1 p1 3).toInt) ≠ p3.toInt) := by
  exact Or.inl ⟨rfl, fun j h1 h2 => pn j h1 (by omega)⟩
theorem v_X2_nextWith_34_2 {K : Nat → Nat} {F : Nat → Nat → Nat} (p0 : Nat) (p1 : Nat) (G : XG) (p2 : Int32) (l4_3 : Int32) (p3 : Int32) (N3 : Nat)
    (hp0 : K p0 = 8)
    (hp1 : K p1 = 9)
    (pn : ∀ j : Int, p2.toInt ≤ j → j < l4_3.toInt → cel (vw (G.2.1 (F p0 0))) ((G.1 p1 2).toInt) j ((G.1 p1 3).toInt) ≠ p3.toInt)
    (e0 : 0 ≤ p2.toInt ∧ p2.toInt ≤ 30)
    (z0 : (0 ≤ ((G.1 p1 2).toInt) ∧ ((G.1 p1 2).toInt) ≤ 2) ∧ (0 ≤ ((G.1 p1 3).toInt) ∧ ((G.1 p1 3).toInt) ≤ 2))
    (I3_0 : p2.toInt ≤ l4_3.toInt ∧ l4_3.toInt ≤ 30)
    (hm3 : 2147483648 - l4_3.toInt < (((N3) + 1 : Nat) : Int))
    (c7 : ¬ ((30 : Int) ≤ l4_3.toInt))
    (c25 : (cel (vw (G.2.1 (F p0 0))) ((G.1 p1 2).toInt) (l4_3.toInt) ((G.1 p1 3).toInt)) ≠ p3.toInt) :
    ∀ j : Int, p2.toInt ≤ j → j < (l4_3.toInt + 1) → cel (vw (G.2.1 (F p0 0))) ((G.1 p1 2).toInt) j ((G.1 p1 3).toInt) ≠ p3.toInt := by
  intro j h1 h2
  by_cases e : j = l4_3.toInt
  · subst e; omega
  · exact pn j h1 (by omega)
theorem v_X2_nextWith_30_3 {K : Nat → Nat} {F : Nat → Nat → Nat} (p0 : Nat) (p1 : Nat) (G : XG) (p2 : Int32) (l4_3 : Int32) (p3 : Int32) (N3 : Nat)
    (hp0 : K p0 = 8)
    (hp1 : K p1 = 9)
    (pn : ∀ j : Int, p2.toInt ≤ j → j < l4_3.toInt → cel (vw (G.2.1 (F p0 0))) ((G.1 p1 2).toInt) j ((G.1 p1 3).toInt) ≠ p3.toInt)
    (e0 : 0 ≤ p2.toInt ∧ p2.toInt ≤ 30)
    (z0 : (0 ≤ ((G.1 p1 2).toInt) ∧ ((G.1 p1 2).toInt) ≤ 2) ∧ (0 ≤ ((G.1 p1 3).toInt) ∧ ((G.1 p1 3).toInt) ≤ 2))
    (I3_0 : p2.toInt ≤ l4_3.toInt ∧ l4_3.toInt ≤ 30)
    (hm3 : 2147483648 - l4_3.toInt < (((N3) + 1 : Nat) : Int))
    (c7 : ¬ ((30 : Int) ≤ l4_3.toInt))
    (c25 : ¬ ((cel (vw (G.2.1 (F p0 0))) ((G.1 p1 2).toInt) (l4_3.toInt) ((G.1 p1 3).toInt)) ≠ p3.toInt)) :
    (l4_3.toInt = -1 ∧ ∀ j : Int, p2.toInt ≤ j → j < 30 → cel (vw (G.2.1 (F p0 0))) ((G.1 p1 2).toInt) j ((G.1 p1 3).toInt) ≠ p3.toInt) ∨ ((p2.toInt ≤ l4_3.toInt ∧ l4_3.toInt < 30) ∧ cel (vw (G.2.1 (F p0 0))) ((G.1 p1 2).toInt) l4_3.toInt ((G.1 p1 3).toInt) = p3.toInt ∧ ∀ j : Int, p2.toInt ≤ j → j < l4_3.toInt → cel (vw (G.2.1 (F p0 0))) ((G.1 p1 2).toInt) j ((G.1 p1 3).toInt) ≠ p3.toInt) := by
  exact Or.inr ⟨by omega, by omega, pn⟩
theorem v_X2_nextWith_1_4 {K : Nat → Nat} {F : Nat → Nat → Nat} (p0 : Nat) (p1 : Nat) (G : XG) (p2 : Int32) (p3 : Int32)
    (hp0 : K p0 = 8)
    (hp1 : K p1 = 9)
    (e0 : 0 ≤ p2.toInt ∧ p2.toInt ≤ 30)
    (z0 : (0 ≤ ((G.1 p1 2).toInt) ∧ ((G.1 p1 2).toInt) ≤ 2) ∧ (0 ≤ ((G.1 p1 3).toInt) ∧ ((G.1 p1 3).toInt) ≤ 2)) :
    ∀ j : Int, p2.toInt ≤ j → j < p2.toInt → cel (vw (G.2.1 (F p0 0))) ((G.1 p1 2).toInt) j ((G.1 p1 3).toInt) ≠ p3.toInt := by
  intro j h1 h2; omega
theorem v_X2_descend_3_1 {F : Nat → Nat → Nat} (p0 : Nat) (G : XG)
    (hro : RO (vw (G.2.1 (F p0 0))) (aI (G.2.1 (F p0 1)))) :
    RO (vw (G.2.1 (F p0 0))) (aI (G.2.1 (F p0 1))) := by exact hro
theorem v_X2_descend_72_2 {K : Nat → Nat} {F : Nat → Nat → Nat} (a : Nat) (p0 : Nat) (G : XG) (G3 : XG) (p1 : Int32) (p2 : Int32)
    (ha : K a = 4)
    (hp0 : K p0 = 8)
    (e0 : 0 ≤ p1.toInt ∧ p1.toInt < 3 ∧ 0 ≤ p2.toInt ∧ p2.toInt < 30)
    (e1 : 0 ≤ ((G.1 a 4).toInt) ∧ ((G.1 a 4).toInt) < 90)
    (c10 : ((G.1 a 4).toInt) < 0)
    (c_G3_F_a_0 : G3.2.1 (F a 0) = G.2.1 (F a 0)) :
    ∀ z : Int, 0 ≤ z → aI (G3.2.1 (F a 0)) z = if z = ((G.1 a 4).toInt) then p1.toInt else aI (G.2.1 (F a 0)) z := by
  first | (exfalso; omega) | (rw [c_G69_F_a_0]; exact aI_pu hG31 c_G3_F_a_0 (by omega) rfl (by omega))
theorem v_X2_descend_72_3 {K : Nat → Nat} {F : Nat → Nat → Nat} (a : Nat) (p0 : Nat) (G : XG) (G3 : XG) (p1 : Int32) (p2 : Int32)
    (ha : K a = 4)
    (hp0 : K p0 = 8)
    (e0 : 0 ≤ p1.toInt ∧ p1.toInt < 3 ∧ 0 ≤ p2.toInt ∧ p2.toInt < 30)
    (e1 : 0 ≤ ((G.1 a 4).toInt) ∧ ((G.1 a 4).toInt) < 90)
    (c10 : ((G.1 a 4).toInt) < 0) :
    ∀ z : Int, 0 ≤ z → aI (G3.2.1 (F a 1)) z = if z = ((G.1 a 4).toInt) then p2.toInt else aI (G.2.1 (F a 1)) z := by
  first | (exfalso; omega) | (rw [c_G69_F_a_1]; exact aI_pu hG41 c_G31_F_a_1 (by omega) rfl (by omega))
theorem v_X2_descend_72_4 {K : Nat → Nat} {F : Nat → Nat → Nat} (a : Nat) (p0 : Nat) (G : XG) (G3 : XG) (p1 : Int32) (p2 : Int32)
    (ha : K a = 4)
    (hp0 : K p0 = 8)
    (e0 : 0 ≤ p1.toInt ∧ p1.toInt < 3 ∧ 0 ≤ p2.toInt ∧ p2.toInt < 30)
    (e1 : 0 ≤ ((G.1 a 4).toInt) ∧ ((G.1 a 4).toInt) < 90)
    (c10 : ((G.1 a 4).toInt) < 0) :
    ∀ z : Int, 0 ≤ z → aI (G3.2.1 (F a 2)) z = if z = ((G.1 a 4).toInt) then 0 else aI (G.2.1 (F a 2)) z := by
  first | (exfalso; omega) | (rw [c_G69_F_a_2]; exact aI_pu hG51 c_G41_F_a_2 (by omega) (show ((0 : Int32)).toInt = 0 from by decide) (by omega))
theorem v_X2_descend_72_5 {K : Nat → Nat} {F : Nat → Nat → Nat} (a : Nat) (p0 : Nat) (G : XG) (G3 : XG) (p1 : Int32) (p2 : Int32)
    (ha : K a = 4)
    (hp0 : K p0 = 8)
    (e0 : 0 ≤ p1.toInt ∧ p1.toInt < 3 ∧ 0 ≤ p2.toInt ∧ p2.toInt < 30)
    (e1 : 0 ≤ ((G.1 a 4).toInt) ∧ ((G.1 a 4).toInt) < 90)
    (c10 : ((G.1 a 4).toInt) < 0) :
    ∀ z : Int, 0 ≤ z → aI (G3.2.1 (F a 3)) z = if z = ((G.1 a 4).toInt) then 0 else aI (G.2.1 (F a 3)) z := by
  first | (exfalso; omega) | (rw [c_G69_F_a_3]; exact aI_pu hG61 c_G51_F_a_3 (by omega) (show ((0 : Int32)).toInt = 0 from by decide) (by omega))
theorem v_X2_descend_72_6 {K : Nat → Nat} {F : Nat → Nat → Nat} (a : Nat) (p0 : Nat) (G : XG) (G3 : XG) (p1 : Int32) (p2 : Int32)
    (ha : K a = 4)
    (hp0 : K p0 = 8)
    (oq3 : (vw (G3.2.1 (F p0 0))) = rfil (vw (G.2.1 (F p0 0))) (p1.toInt) (p2.toInt) (-2000) 3)
    (e0 : 0 ≤ p1.toInt ∧ p1.toInt < 3 ∧ 0 ≤ p2.toInt ∧ p2.toInt < 30)
    (e1 : 0 ≤ ((G.1 a 4).toInt) ∧ ((G.1 a 4).toInt) < 90)
    (c10 : ((G.1 a 4).toInt) < 0) :
    (vw (G3.2.1 (F p0 0))) = rfil (vw (G.2.1 (F p0 0))) p1.toInt p2.toInt (-2000) 3 := by
  first | (exfalso; omega) | (rw [c_G69_F_p0_0]; exact oq3)
theorem v_X2_descend_72_7 {K : Nat → Nat} {F : Nat → Nat → Nat} (a : Nat) (p0 : Nat) (G : XG) (G3 : XG) (p1 : Int32) (p2 : Int32)
    (ha : K a = 4)
    (hp0 : K p0 = 8)
    (oq3a : RO (vw (G3.2.1 (F p0 0))) (aI (G3.2.1 (F p0 1))))
    (e0 : 0 ≤ p1.toInt ∧ p1.toInt < 3 ∧ 0 ≤ p2.toInt ∧ p2.toInt < 30)
    (e1 : 0 ≤ ((G.1 a 4).toInt) ∧ ((G.1 a 4).toInt) < 90)
    (c10 : ((G.1 a 4).toInt) < 0) :
    RO (vw (G3.2.1 (F p0 0))) (aI (G3.2.1 (F p0 1))) := by
  first | (exfalso; omega) | (rw [c_G69_F_p0_0, c_G69_F_p0_1]; exact oq3a)
theorem v_X2_descend_72_8 {K : Nat → Nat} {F : Nat → Nat → Nat} (a : Nat) (p0 : Nat) (G : XG) (G3 : XG) (p1 : Int32) (p2 : Int32)
    (ha : K a = 4)
    (hp0 : K p0 = 8)
    (e0 : 0 ≤ p1.toInt ∧ p1.toInt < 3 ∧ 0 ≤ p2.toInt ∧ p2.toInt < 30)
    (e1 : 0 ≤ ((G.1 a 4).toInt) ∧ ((G.1 a 4).toInt) < 90)
    (c10 : ¬ (((G.1 a 4).toInt) < 0))
    (c19 : (90 : Int) ≤ ((G.1 a 4).toInt))
    (c_G3_F_a_0 : G3.2.1 (F a 0) = G.2.1 (F a 0)) :
    ∀ z : Int, 0 ≤ z → aI (G3.2.1 (F a 0)) z = if z = ((G.1 a 4).toInt) then p1.toInt else aI (G.2.1 (F a 0)) z := by
  first | (exfalso; omega) | (rw [c_G69_F_a_0]; exact aI_pu hG31 c_G3_F_a_0 (by omega) rfl (by omega))
theorem v_X2_descend_72_9 {K : Nat → Nat} {F : Nat → Nat → Nat} (a : Nat) (p0 : Nat) (G : XG) (G3 : XG) (p1 : Int32) (p2 : Int32)
    (ha : K a = 4)
    (hp0 : K p0 = 8)
    (e0 : 0 ≤ p1.toInt ∧ p1.toInt < 3 ∧ 0 ≤ p2.toInt ∧ p2.toInt < 30)
    (e1 : 0 ≤ ((G.1 a 4).toInt) ∧ ((G.1 a 4).toInt) < 90)
    (c10 : ¬ (((G.1 a 4).toInt) < 0))
    (c19 : (90 : Int) ≤ ((G.1 a 4).toInt)) :
    ∀ z : Int, 0 ≤ z → aI (G3.2.1 (F a 1)) z = if z = ((G.1 a 4).toInt) then p2.toInt else aI (G.2.1 (F a 1)) z := by
  first | (exfalso; omega) | (rw [c_G69_F_a_1]; exact aI_pu hG41 c_G31_F_a_1 (by omega) rfl (by omega))
theorem v_X2_descend_72_10 {K : Nat → Nat} {F : Nat → Nat → Nat} (a : Nat) (p0 : Nat) (G : XG) (G3 : XG) (p1 : Int32) (p2 : Int32)
    (ha : K a = 4)
    (hp0 : K p0 = 8)
    (e0 : 0 ≤ p1.toInt ∧ p1.toInt < 3 ∧ 0 ≤ p2.toInt ∧ p2.toInt < 30)
    (e1 : 0 ≤ ((G.1 a 4).toInt) ∧ ((G.1 a 4).toInt) < 90)
    (c10 : ¬ (((G.1 a 4).toInt) < 0))
    (c19 : (90 : Int) ≤ ((G.1 a 4).toInt)) :
    ∀ z : Int, 0 ≤ z → aI (G3.2.1 (F a 2)) z = if z = ((G.1 a 4).toInt) then 0 else aI (G.2.1 (F a 2)) z := by
  first | (exfalso; omega) | (rw [c_G69_F_a_2]; exact aI_pu hG51 c_G41_F_a_2 (by omega) (show ((0 : Int32)).toInt = 0 from by decide) (by omega))
theorem v_X2_descend_72_11 {K : Nat → Nat} {F : Nat → Nat → Nat} (a : Nat) (p0 : Nat) (G : XG) (G3 : XG) (p1 : Int32) (p2 : Int32)
    (ha : K a = 4)
    (hp0 : K p0 = 8)
    (e0 : 0 ≤ p1.toInt ∧ p1.toInt < 3 ∧ 0 ≤ p2.toInt ∧ p2.toInt < 30)
    (e1 : 0 ≤ ((G.1 a 4).toInt) ∧ ((G.1 a 4).toInt) < 90)
    (c10 : ¬ (((G.1 a 4).toInt) < 0))
    (c19 : (90 : Int) ≤ ((G.1 a 4).toInt)) :
    ∀ z : Int, 0 ≤ z → aI (G3.2.1 (F a 3)) z = if z = ((G.1 a 4).toInt) then 0 else aI (G.2.1 (F a 3)) z := by
  first | (exfalso; omega) | (rw [c_G69_F_a_3]; exact aI_pu hG61 c_G51_F_a_3 (by omega) (show ((0 : Int32)).toInt = 0 from by decide) (by omega))
theorem v_X2_descend_72_12 {K : Nat → Nat} {F : Nat → Nat → Nat} (a : Nat) (p0 : Nat) (G : XG) (G3 : XG) (p1 : Int32) (p2 : Int32)
    (ha : K a = 4)
    (hp0 : K p0 = 8)
    (oq3 : (vw (G3.2.1 (F p0 0))) = rfil (vw (G.2.1 (F p0 0))) (p1.toInt) (p2.toInt) (-2000) 3)
    (e0 : 0 ≤ p1.toInt ∧ p1.toInt < 3 ∧ 0 ≤ p2.toInt ∧ p2.toInt < 30)
    (e1 : 0 ≤ ((G.1 a 4).toInt) ∧ ((G.1 a 4).toInt) < 90)
    (c10 : ¬ (((G.1 a 4).toInt) < 0))
    (c19 : (90 : Int) ≤ ((G.1 a 4).toInt)) :
    (vw (G3.2.1 (F p0 0))) = rfil (vw (G.2.1 (F p0 0))) p1.toInt p2.toInt (-2000) 3 := by
  first | (exfalso; omega) | (rw [c_G69_F_p0_0]; exact oq3)
theorem v_X2_descend_72_13 {K : Nat → Nat} {F : Nat → Nat → Nat} (a : Nat) (p0 : Nat) (G : XG) (G3 : XG) (p1 : Int32) (p2 : Int32)
    (ha : K a = 4)
    (hp0 : K p0 = 8)
    (oq3a : RO (vw (G3.2.1 (F p0 0))) (aI (G3.2.1 (F p0 1))))
    (e0 : 0 ≤ p1.toInt ∧ p1.toInt < 3 ∧ 0 ≤ p2.toInt ∧ p2.toInt < 30)
    (e1 : 0 ≤ ((G.1 a 4).toInt) ∧ ((G.1 a 4).toInt) < 90)
    (c10 : ¬ (((G.1 a 4).toInt) < 0))
    (c19 : (90 : Int) ≤ ((G.1 a 4).toInt)) :
    RO (vw (G3.2.1 (F p0 0))) (aI (G3.2.1 (F p0 1))) := by
  first | (exfalso; omega) | (rw [c_G69_F_p0_0, c_G69_F_p0_1]; exact oq3a)
theorem v_X2_descend_72_14 {K : Nat → Nat} {F : Nat → Nat → Nat} (a : Nat) (p0 : Nat) (G : XG) (G3 : XG) (G31 : XG) (p1 : Int32) (p2 : Int32) (G69 : XG)
    (ha : K a = 4)
    (hp0 : K p0 = 8)
    (hG31 : G31 = cput G3 (F a 0) (G.1 a 4).toNatClampNeg p1)
    (e0 : 0 ≤ p1.toInt ∧ p1.toInt < 3 ∧ 0 ≤ p2.toInt ∧ p2.toInt < 30)
    (e1 : 0 ≤ ((G.1 a 4).toInt) ∧ ((G.1 a 4).toInt) < 90)
    (c10 : ¬ (((G.1 a 4).toInt) < 0))
    (c19 : ¬ ((90 : Int) ≤ ((G.1 a 4).toInt)))
    (c_G3_F_a_0 : G3.2.1 (F a 0) = G.2.1 (F a 0))
    (c_G69_F_a_0 : G69.2.1 (F a 0) = G31.2.1 (F a 0)) :
    ∀ z : Int, 0 ≤ z → aI (G69.2.1 (F a 0)) z = if z = ((G.1 a 4).toInt) then p1.toInt else aI (G.2.1 (F a 0)) z := by
  first | (exfalso; omega) | (rw [c_G69_F_a_0]; exact aI_pu hG31 c_G3_F_a_0 (by omega) rfl (by omega))
theorem v_X2_descend_72_15 {K : Nat → Nat} {F : Nat → Nat → Nat} (a : Nat) (p0 : Nat) (G : XG) (G31 : XG) (p1 : Int32) (G41 : XG) (p2 : Int32) (G69 : XG)
    (ha : K a = 4)
    (hp0 : K p0 = 8)
    (hG41 : G41 = cput G31 (F a 1) (G.1 a 4).toNatClampNeg p2)
    (e0 : 0 ≤ p1.toInt ∧ p1.toInt < 3 ∧ 0 ≤ p2.toInt ∧ p2.toInt < 30)
    (e1 : 0 ≤ ((G.1 a 4).toInt) ∧ ((G.1 a 4).toInt) < 90)
    (c10 : ¬ (((G.1 a 4).toInt) < 0))
    (c19 : ¬ ((90 : Int) ≤ ((G.1 a 4).toInt)))
    (c_G31_F_a_1 : G31.2.1 (F a 1) = G.2.1 (F a 1))
    (c_G69_F_a_1 : G69.2.1 (F a 1) = G41.2.1 (F a 1)) :
    ∀ z : Int, 0 ≤ z → aI (G69.2.1 (F a 1)) z = if z = ((G.1 a 4).toInt) then p2.toInt else aI (G.2.1 (F a 1)) z := by
  first | (exfalso; omega) | (rw [c_G69_F_a_1]; exact aI_pu hG41 c_G31_F_a_1 (by omega) rfl (by omega))
theorem v_X2_descend_72_16 {K : Nat → Nat} {F : Nat → Nat → Nat} (a : Nat) (p0 : Nat) (G : XG) (p1 : Int32) (G41 : XG) (p2 : Int32) (G51 : XG) (G69 : XG)
    (ha : K a = 4)
    (hp0 : K p0 = 8)
    (hG51 : G51 = cput G41 (F a 2) (G.1 a 4).toNatClampNeg 0)
    (e0 : 0 ≤ p1.toInt ∧ p1.toInt < 3 ∧ 0 ≤ p2.toInt ∧ p2.toInt < 30)
    (e1 : 0 ≤ ((G.1 a 4).toInt) ∧ ((G.1 a 4).toInt) < 90)
    (c10 : ¬ (((G.1 a 4).toInt) < 0))
    (c19 : ¬ ((90 : Int) ≤ ((G.1 a 4).toInt)))
    (c_G41_F_a_2 : G41.2.1 (F a 2) = G.2.1 (F a 2))
    (c_G69_F_a_2 : G69.2.1 (F a 2) = G51.2.1 (F a 2)) :
    ∀ z : Int, 0 ≤ z → aI (G69.2.1 (F a 2)) z = if z = ((G.1 a 4).toInt) then 0 else aI (G.2.1 (F a 2)) z := by
  first | (exfalso; omega) | (rw [c_G69_F_a_2]; exact aI_pu hG51 c_G41_F_a_2 (by omega) (show ((0 : Int32)).toInt = 0 from by decide) (by omega))
theorem v_X2_descend_72_17 {K : Nat → Nat} {F : Nat → Nat → Nat} (a : Nat) (p0 : Nat) (G : XG) (p1 : Int32) (p2 : Int32) (G51 : XG) (G61 : XG) (G69 : XG)
    (ha : K a = 4)
    (hp0 : K p0 = 8)
    (hG61 : G61 = cput G51 (F a 3) (G.1 a 4).toNatClampNeg 0)
    (e0 : 0 ≤ p1.toInt ∧ p1.toInt < 3 ∧ 0 ≤ p2.toInt ∧ p2.toInt < 30)
    (e1 : 0 ≤ ((G.1 a 4).toInt) ∧ ((G.1 a 4).toInt) < 90)
    (c10 : ¬ (((G.1 a 4).toInt) < 0))
    (c19 : ¬ ((90 : Int) ≤ ((G.1 a 4).toInt)))
    (c_G51_F_a_3 : G51.2.1 (F a 3) = G.2.1 (F a 3))
    (c_G69_F_a_3 : G69.2.1 (F a 3) = G61.2.1 (F a 3)) :
    ∀ z : Int, 0 ≤ z → aI (G69.2.1 (F a 3)) z = if z = ((G.1 a 4).toInt) then 0 else aI (G.2.1 (F a 3)) z := by
  first | (exfalso; omega) | (rw [c_G69_F_a_3]; exact aI_pu hG61 c_G51_F_a_3 (by omega) (show ((0 : Int32)).toInt = 0 from by decide) (by omega))
theorem v_X2_descend_72_18 {K : Nat → Nat} {F : Nat → Nat → Nat} (a : Nat) (p0 : Nat) (G : XG) (G3 : XG) (p1 : Int32) (p2 : Int32) (G69 : XG)
    (ha : K a = 4)
    (hp0 : K p0 = 8)
    (oq3 : (vw (G3.2.1 (F p0 0))) = rfil (vw (G.2.1 (F p0 0))) (p1.toInt) (p2.toInt) (-2000) 3)
    (e0 : 0 ≤ p1.toInt ∧ p1.toInt < 3 ∧ 0 ≤ p2.toInt ∧ p2.toInt < 30)
    (e1 : 0 ≤ ((G.1 a 4).toInt) ∧ ((G.1 a 4).toInt) < 90)
    (c10 : ¬ (((G.1 a 4).toInt) < 0))
    (c19 : ¬ ((90 : Int) ≤ ((G.1 a 4).toInt)))
    (c_G69_F_p0_0 : G69.2.1 (F p0 0) = G3.2.1 (F p0 0)) :
    (vw (G69.2.1 (F p0 0))) = rfil (vw (G.2.1 (F p0 0))) p1.toInt p2.toInt (-2000) 3 := by
  first | (exfalso; omega) | (rw [c_G69_F_p0_0]; exact oq3)
theorem v_X2_descend_72_19 {K : Nat → Nat} {F : Nat → Nat → Nat} (a : Nat) (p0 : Nat) (G : XG) (G3 : XG) (p1 : Int32) (p2 : Int32) (G69 : XG)
    (ha : K a = 4)
    (hp0 : K p0 = 8)
    (oq3a : RO (vw (G3.2.1 (F p0 0))) (aI (G3.2.1 (F p0 1))))
    (e0 : 0 ≤ p1.toInt ∧ p1.toInt < 3 ∧ 0 ≤ p2.toInt ∧ p2.toInt < 30)
    (e1 : 0 ≤ ((G.1 a 4).toInt) ∧ ((G.1 a 4).toInt) < 90)
    (c10 : ¬ (((G.1 a 4).toInt) < 0))
    (c19 : ¬ ((90 : Int) ≤ ((G.1 a 4).toInt)))
    (c_G69_F_p0_0 : G69.2.1 (F p0 0) = G3.2.1 (F p0 0))
    (c_G69_F_p0_1 : G69.2.1 (F p0 1) = G3.2.1 (F p0 1)) :
    RO (vw (G69.2.1 (F p0 0))) (aI (G69.2.1 (F p0 1))) := by
  first | (exfalso; omega) | (rw [c_G69_F_p0_0, c_G69_F_p0_1]; exact oq3a)
theorem z_X2_replace_1 (a0 : Int) (h0 : 0 ≤ a0 ∧ a0 ≤ 30) : ¬ (2147483648 - a0 < ((0 : Nat) : Int)) := by omega
theorem z_X2_replace_2 (a0 : Int) (a1 : Int) (h0 : 0 ≤ a0 ∧ a0 ≤ 30) (h1 : a1 = (a0 + 1) ∨ (a0 + 1) < -2147483648 ∨ 2147483648 ≤ (a0 + 1)) : a1 = (a0 + 1) := by omega
theorem z_X2_replace_3 (a0 : Int) (h0 : 0 ≤ a0 ∧ a0 ≤ 30) (h1 : ¬ ((30 : Int) ≤ a0)) : 0 ≤ (a0 + 1) ∧ (a0 + 1) ≤ 30 := by omega
theorem z_X2_replace_4 (a0 : Int) (h0 : 0 ≤ a0 ∧ a0 ≤ 30) : (0 : Int) ≤ (a0 + 1) := by omega
theorem z_X2_replace_5 (a0 : Int) (a1 : Nat) (h0 : 2147483648 - a0 < ((a1 + 1 : Nat) : Int)) : 2147483648 - (a0 + 1) < ((a1 : Nat) : Int) := by omega
theorem z_X2_replace_6 (a0 : Int) (a1 : Int) (h0 : (0 ≤ a0 ∧ a0 ≤ 2) ∧ (0 ≤ a1 ∧ a1 ≤ 2)) : 0 ≤ a1 ∧ a1 < 3 := by omega
abbrev rm_X2_replace : Room := { frames := 3, cells := 0, slots := 0, locals := 66 }
set_option maxHeartbeats 4000000 in
set_option maxRecDepth 100000 in
theorem c_X2_replace (l : Launch) (E : XE) (K : Nat → Nat) (F : Nat → Nat → Nat) (G : XG) (p0 : Nat) (p1 : Nat) (p2 : Int32) (p3 : Int32) (hp0 : K p0 = 8) (hp1 : K p1 = 9) (e0 : 0 ≤ p2.toInt ∧ p2.toInt < 30) (e1 : p3.toInt = -1000 ∨ (-99 ≤ p3.toInt ∧ p3.toInt ≤ 99)) (hro : RO (vw (G.2.1 (F p0 0))) (aI (G.2.1 (F p0 1)))) (hrw : RW (G.1 p1)) : Met l yX2_replace (xw yX2_replace cX2_replace 5 none) rm_X2_replace (va_Pc [.ref p0, .ref p1, .int p2, .int p3] (XP E K F G)) (XQv E (fun (u : XG) => XFr [] [F p0 0, F p0 1] [] G u ∧ ((vw (u.2.1 (F p0 0))) = repl (vw (G.2.1 (F p0 0))) ((G.1 p1 2).toInt) ((G.1 p1 3).toInt) p2.toInt p3.toInt 30) ∧ (RO (vw (u.2.1 (F p0 0))) (aI (u.2.1 (F p0 1))))) (fun u H => TW E K F u H)) 0 0 (xA E) := by
  refine x_enter (by decide) (Nat.le_of_ble_eq_true rfl) ?_
  intro p e s m args below meth c Q S hr hlk hnm hQ hP ls hl
  obtain ⟨hz, hK, hT⟩ := hP
  obtain ⟨hx, hb, -, -, -⟩ := id S
  obtain ⟨H, hT, hS, hgo⟩ : ∃ H : Heap, TW E K F G H ∧ va_S (xA E) s.heap H [] ∧ H = s.heap := ⟨_, hT, va_S.rf, rfl⟩
  rw [← hgo]
  have hl : lv_has ls 5 [(0, .ref p0), (1, .ref p1), (2, .int p2), (3, .int p3)] := hl
  obtain ⟨hk9999, hj9999⟩ := fkX6_0 hT hp0
  obtain ⟨hk9999a, hj9999a⟩ := fkX6_1 hT hp0
  have z0 : (0 ≤ ((G.1 p1 2).toInt) ∧ ((G.1 p1 2).toInt) ≤ 2) ∧ (0 ≤ ((G.1 p1 3).toInt) ∧ ((G.1 p1 3).toInt) ≤ 2) := ⟨hrw.f.2.1, hrw.f.2.2.1⟩
  refine lv_iconst (v := 0) hx hb dX2_replace_0 (by decide) ?_
  refine lv_istore (lv' := [(4, .int 0), (0, .ref p0), (1, .ref p1), (2, .int p2), (3, .int p3)]) hx hb dX2_replace_1 hl (by decide) rfl (fun ls hl => ?_)
  have L3 : ∀ (N3 : Nat) (l4_3 : Int32) (G_3 : XG) (H : Heap) (locs : List Loc) (ls : Array Slot), XFr [] [F p0 0, F p0 1] [] G G_3 → (vw (G_3.2.1 (F p0 0))) = repl (vw (G.2.1 (F p0 0))) ((G.1 p1 2).toInt) ((G.1 p1 3).toInt) p2.toInt p3.toInt (l4_3.toInt) → RO (vw (G_3.2.1 (F p0 0))) (aI (G_3.2.1 (F p0 1))) → 0 ≤ l4_3.toInt ∧ l4_3.toInt ≤ 30 → (0 : Int) ≤ l4_3.toInt → 2147483648 - l4_3.toInt < ((N3 : Nat) : Int) → TW E K F G_3 H → va_S (xA E) s.heap H locs → lv_has ls 5 [(0, .ref p0), (1, .ref p1), (2, .int p2), (3, .int p3), (4, .int l4_3)] → W p l e rm_X2_replace s m args below meth c H locs 0 0 Q (F0 m 3 ls []) := by
    intro N3
    induction N3 with
    | zero =>
      intro l4_3 G_3 H locs ls hF_3 rp ro I3_0 I3_1 hm3
      exact absurd hm3 (z_X2_replace_1 l4_3.toInt I3_0)
    | succ N3 ih3 =>
      intro l4_3 G_3 H locs ls hF_3 rp ro I3_0 I3_1 hm3 hT hS hl
      refine lv_iload hx hb dX2_replace_3 (lv_at hl 4 rfl) ?_
      refine lv_bipush (v := 30) hx hb dX2_replace_5 (by decide) ?_
      refine xi_cge (tgt := 49) hx hb (rfl : Int32.toInt l4_3 = l4_3.toInt) ((by decide) : Int32.toInt 30 = (30 : Int)) dX2_replace_7 (by decide) (fun c7 => ?_) (fun c7 => ?_)
      · exact x_rv hx hb hr hlk hQ (Nat.le_of_ble_eq_true rfl) (Nat.le_of_ble_eq_true rfl) hS dX2_replace_49 G_3 ⟨(XFr.call XFr.rf hF_3 xm0 (xm1 0 rfl (xm1 1 rfl xm0)) xm0), (v_X2_replace_49_1 (K := K) (F := F) p0 p1 G G_3 p2 p3 l4_3 N3 hp0 hp1 rp e0 e1 z0 I3_0 I3_1 hm3 c7), (v_X2_replace_49_2 (F := F) p0 G_3 ro)⟩ hT
      · refine lv_aload_n hx hb dX2_replace_10 rfl (lv_at hl 0 rfl) ?_
        refine lv_aload_n hx hb dX2_replace_11 rfl (lv_at hl 1 rfl) ?_
        refine gX7_2 S hK hT hp1 kf_X2_61 dX2_replace_12 (v := (G.1 p1 2)) (hF_3.1 _ _ xn0) (?_)
        refine lv_iload hx hb dX2_replace_15 (lv_at hl 4 rfl) ?_
        refine lv_aload_n hx hb dX2_replace_17 rfl (lv_at hl 1 rfl) ?_
        refine gX7_3 S hK hT hp1 kf_X2_64 dX2_replace_18 (v := (G.1 p1 3)) (hF_3.1 _ _ xn0) (?_)
        refine x_clp (x_runV (b := p0) (As := [.int (G.1 p1 2), .int l4_3, .int (G.1 p1 3)]) (rest := []) S (c_X6_cell l E K F G_3 H p0 (G.1 p1 2) l4_3 (G.1 p1 3) hp0) mv_X6_cell km_X2_67 rfl rfl ⟨Nat.le_of_ble_eq_true rfl, Nat.le_of_ble_eq_true rfl⟩ (rc_8 hK hT hp0) hK (fun _ => XPh.blind) (fun U hU hW => XPh.at hK hz hS hT hU hW) rfl hl.1 (Nat.le_of_ble_eq_true rfl) dX2_replace_21 ⟨Nat.le_of_ble_eq_true rfl, Nat.le_of_ble_eq_true rfl⟩) hS ?_
        rintro _ _ locs ⟨x21, rfl, t21⟩ hS
        have t21 : x21.toInt = (cel (vw (G_3.2.1 (F p0 0))) ((G.1 p1 2).toInt) (l4_3.toInt) ((G.1 p1 3).toInt)) := t21
        refine lv_iload_n hx hb dX2_replace_24 rfl (lv_at hl 2 rfl) ?_
        refine xi_cne (tgt := 43) hx hb (t21 : Int32.toInt x21 = (cel (vw (G_3.2.1 (F p0 0))) ((G.1 p1 2).toInt) (l4_3.toInt) ((G.1 p1 3).toInt))) (rfl : Int32.toInt p2 = p2.toInt) dX2_replace_25 (by decide) (fun c25 => ?_) (fun c25 => ?_)
        · refine xi_iinc (n := 1) (lv' := fun z9 => [(4, .int z9), (0, .ref p0), (1, .ref p1), (2, .int p2), (3, .int p3)]) (k := 4) hx hb (rfl : Int32.toInt l4_3 = l4_3.toInt) (by decide) dX2_replace_43 hl rfl (by decide) (fun _ => rfl) (fun x43 ls t43 hl => ?_)
          have e43 : x43.toInt = (l4_3.toInt + 1) := (z_X2_replace_2 l4_3.toInt x43.toInt I3_0 t43)
          have hl : lv_has ls 5 [(4, .int x43), (0, .ref p0), (1, .ref p1), (2, .int p2), (3, .int p3)] := hl
          refine lv_goto (tgt := 3) hx hb dX2_replace_46 (by decide) ?_
          exact ih3 x43 G_3 _ _ _ (XFr.call XFr.rf hF_3 xm0 (xm1 0 rfl (xm1 1 rfl xm0)) xm0) (by rw [(e43 : Int32.toInt x43 = (l4_3.toInt + 1))] <;> exact (v_X2_replace_46_3 (K := K) (F := F) p0 p1 G G_3 p2 p3 l4_3 N3 hp0 hp1 rp ro e0 e1 z0 I3_0 I3_1 hm3 c7 c25)) (v_X2_replace_46_4 (F := F) p0 G_3 ro) (by rw [(e43 : Int32.toInt x43 = (l4_3.toInt + 1))] <;> exact (z_X2_replace_3 l4_3.toInt I3_0 c7)) (by rw [(e43 : Int32.toInt x43 = (l4_3.toInt + 1))] <;> exact (z_X2_replace_4 l4_3.toInt I3_0)) (by rw [(e43 : Int32.toInt x43 = (l4_3.toInt + 1))] <;> exact (z_X2_replace_5 l4_3.toInt N3 hm3)) hT hS (lv_sub hl [1, 2, 3, 4, 0] rfl)
        · refine lv_aload_n hx hb dX2_replace_28 rfl (lv_at hl 0 rfl) ?_
          refine lv_aload_n hx hb dX2_replace_29 rfl (lv_at hl 1 rfl) ?_
          refine gX7_2 S hK hT hp1 kf_X2_61 dX2_replace_30 (v := (G.1 p1 2)) (hF_3.1 _ _ xn0) (?_)
          refine lv_iload hx hb dX2_replace_33 (lv_at hl 4 rfl) ?_
          refine lv_aload_n hx hb dX2_replace_35 rfl (lv_at hl 1 rfl) ?_
          refine gX7_3 S hK hT hp1 kf_X2_64 dX2_replace_36 (v := (G.1 p1 3)) (hF_3.1 _ _ xn0) (?_)
          refine lv_iload_n hx hb dX2_replace_39 rfl (lv_at hl 3 rfl) ?_
          refine x_cv0 (x_runV (b := p0) (As := [.int (G.1 p1 2), .int l4_3, .int (G.1 p1 3), .int p3]) (rest := []) S (c_X6_change l E K F G_3 p0 (G.1 p1 2) l4_3 (G.1 p1 3) p3 hp0 (z_X2_replace_6 ((G.1 p1 2).toInt) ((G.1 p1 3).toInt) z0) (e1) (v_X2_replace_40_5 (F := F) p0 G_3 ro)) mv_X6_change km_X2_71 rfl rfl ⟨Nat.le_of_ble_eq_true rfl, Nat.le_of_ble_eq_true rfl⟩ (rc_8 hK hT hp0) hK (fun _ => XP.blind) (fun U hU hW => XP.at hK hz hS hT hU hW) rfl hl.1 (Nat.le_of_ble_eq_true rfl) dX2_replace_40 ⟨Nat.le_of_ble_eq_true rfl, Nat.le_of_ble_eq_true rfl⟩) hS ?_
          rintro G40 H locs ⟨hF40, oq40, oq40a⟩ hT hS
          refine xi_iinc (n := 1) (lv' := fun z9 => [(4, .int z9), (0, .ref p0), (1, .ref p1), (2, .int p2), (3, .int p3)]) (k := 4) hx hb (rfl : Int32.toInt l4_3 = l4_3.toInt) (by decide) dX2_replace_43 hl rfl (by decide) (fun _ => rfl) (fun x43 ls t43 hl => ?_)
          have e43 : x43.toInt = (l4_3.toInt + 1) := (z_X2_replace_2 l4_3.toInt x43.toInt I3_0 t43)
          have hl : lv_has ls 5 [(4, .int x43), (0, .ref p0), (1, .ref p1), (2, .int p2), (3, .int p3)] := hl
          refine lv_goto (tgt := 3) hx hb dX2_replace_46 (by decide) ?_
          exact ih3 x43 G40 _ _ _ (XFr.call (XFr.call XFr.rf hF_3 xm0 (xm1 0 rfl (xm1 1 rfl xm0)) xm0) hF40 xm0 (xm1 0 rfl xm0) xm0) (by rw [(e43 : Int32.toInt x43 = (l4_3.toInt + 1))] <;> exact (v_X2_replace_46_6 (K := K) (F := F) p0 p1 G G_3 G40 p2 p3 l4_3 N3 hp0 hp1 rp ro oq40 e0 e1 z0 I3_0 I3_1 hm3 c7 c25)) (by rw [(show G40.2.1 (F p0 1) = G_3.2.1 (F p0 1) from (hF40.2.1 _ (xn1 (xne_k hk9999a hk9999 (by decide)) xn0)))] <;> exact (v_X2_replace_46_7 (F := F) p0 G_3 G40 ro oq40a (hF40.2.1 _ (xn1 (xne_k hk9999a hk9999 (by decide)) xn0)))) (by rw [(e43 : Int32.toInt x43 = (l4_3.toInt + 1))] <;> exact (z_X2_replace_3 l4_3.toInt I3_0 c7)) (by rw [(e43 : Int32.toInt x43 = (l4_3.toInt + 1))] <;> exact (z_X2_replace_4 l4_3.toInt I3_0)) (by rw [(e43 : Int32.toInt x43 = (l4_3.toInt + 1))] <;> exact (z_X2_replace_5 l4_3.toInt N3 hm3)) hT hS (lv_sub hl [1, 2, 3, 4, 0] rfl)
  exact L3 4294967297 0 G _ _ _ XFr.rf (v_X2_replace_1_8 (F := F) p0 p1 G p2 p3) (v_X2_replace_1_9 (F := F) p0 G hro) (by decide) (by decide) (by decide) hT hS (lv_sub hl [1, 2, 3, 4, 0] rfl)

theorem z_X2_nextWith_1 (a0 : Int) (a1 : Int) (h0 : a1 ≤ a0 ∧ a0 ≤ 30) : ¬ (2147483648 - a0 < ((0 : Nat) : Int)) := by omega
theorem z_X2_nextWith_2 (a0 : Int) (a1 : Int) (h0 : ¬ ((30 : Int) ≤ a0)) (h1 : a1 = (a0 + 1) ∨ (a0 + 1) < -2147483648 ∨ 2147483648 ≤ (a0 + 1)) (h2 : -2147483648 ≤ a0 ∧ a0 < 2147483648) : a1 = (a0 + 1) := by omega
theorem z_X2_nextWith_3 (a0 : Int) (a1 : Int) (h0 : a1 ≤ a0 ∧ a0 ≤ 30) (h1 : ¬ ((30 : Int) ≤ a0)) : a1 ≤ (a0 + 1) ∧ (a0 + 1) ≤ 30 := by omega
theorem z_X2_nextWith_5 (a0 : Int) (a1 : Int) (h0 : 0 ≤ a1 ∧ a1 ≤ 30) (h1 : a1 ≤ a0 ∧ a0 ≤ 30) (h2 : ¬ ((30 : Int) ≤ a0)) : -1 ≤ a0 ∧ a0 < 30 := by omega
theorem z_X2_nextWith_6 (a0 : Int) (h0 : 0 ≤ a0 ∧ a0 ≤ 30) : a0 ≤ a0 ∧ a0 ≤ 30 := by omega
theorem z_X2_nextWith_7 (a0 : Int) (h0 : 0 ≤ a0 ∧ a0 ≤ 30) : 2147483648 - a0 < ((4294967297 : Nat) : Int) := by omega
abbrev rm_X2_nextWith : Room := { frames := 2, cells := 0, slots := 0, locals := 44 }
set_option maxHeartbeats 4000000 in
set_option maxRecDepth 100000 in
theorem c_X2_nextWith (l : Launch) (E : XE) (K : Nat → Nat) (F : Nat → Nat → Nat) (G : XG) (h0 : Heap) (p0 : Nat) (p1 : Nat) (p2 : Int32) (p3 : Int32) (hp0 : K p0 = 8) (hp1 : K p1 = 9) (e0 : 0 ≤ p2.toInt ∧ p2.toInt ≤ 30) (hrw : RW (G.1 p1)) : Met l yX2_nextWith (xw yX2_nextWith cX2_nextWith 5 (some .int)) rm_X2_nextWith (va_Pc [.ref p0, .ref p1, .int p2, .int p3] (XPh E K F G h0)) (XQ E (fun v (u : Unit) => ∃ r : Int32, v = .int r ∧ (-1 ≤ r.toInt ∧ r.toInt < 30) ∧ ((r.toInt = -1 ∧ ∀ j : Int, p2.toInt ≤ j → j < 30 → cel (vw (G.2.1 (F p0 0))) ((G.1 p1 2).toInt) j ((G.1 p1 3).toInt) ≠ p3.toInt) ∨ ((p2.toInt ≤ r.toInt ∧ r.toInt < 30) ∧ cel (vw (G.2.1 (F p0 0))) ((G.1 p1 2).toInt) r.toInt ((G.1 p1 3).toInt) = p3.toInt ∧ ∀ j : Int, p2.toInt ≤ j → j < r.toInt → cel (vw (G.2.1 (F p0 0))) ((G.1 p1 2).toInt) j ((G.1 p1 3).toInt) ≠ p3.toInt))) (fun _ H => H = h0)) 0 0 (xA E) := by
  refine x_enter (by decide) (Nat.le_of_ble_eq_true rfl) ?_
  intro p e s m args below meth c Q S hr hlk hnm hQ hP ls hl
  obtain ⟨⟨hz, hK, hT⟩, hh⟩ := hP
  obtain ⟨hx, hb, -, -, -⟩ := id S
  have hS : va_S (xA E) s.heap s.heap [] := va_S.rf
  have hl : lv_has ls 5 [(0, .ref p0), (1, .ref p1), (2, .int p2), (3, .int p3)] := hl
  obtain ⟨hk9999, hj9999⟩ := fkX6_0 hT hp0
  have z0 : (0 ≤ ((G.1 p1 2).toInt) ∧ ((G.1 p1 2).toInt) ≤ 2) ∧ (0 ≤ ((G.1 p1 3).toInt) ∧ ((G.1 p1 3).toInt) ≤ 2) := ⟨hrw.f.2.1, hrw.f.2.2.1⟩
  refine lv_iload_n hx hb dX2_nextWith_0 rfl (lv_at hl 2 rfl) ?_
  refine lv_istore (lv' := [(4, .int p2), (0, .ref p0), (1, .ref p1), (2, .int p2), (3, .int p3)]) hx hb dX2_nextWith_1 hl (by decide) rfl (fun ls hl => ?_)
  have L3 : ∀ (N3 : Nat) (l4_3 : Int32) (locs : List Loc) (ls : Array Slot), (∀ j : Int, p2.toInt ≤ j → j < l4_3.toInt → cel (vw (G.2.1 (F p0 0))) ((G.1 p1 2).toInt) j ((G.1 p1 3).toInt) ≠ p3.toInt) → p2.toInt ≤ l4_3.toInt ∧ l4_3.toInt ≤ 30 → 2147483648 - l4_3.toInt < ((N3 : Nat) : Int) → TW E K F G s.heap → va_S (xA E) s.heap s.heap locs → lv_has ls 5 [(0, .ref p0), (1, .ref p1), (3, .int p3), (4, .int l4_3)] → W p l e rm_X2_nextWith s m args below meth c s.heap locs 0 0 Q (F0 m 3 ls []) := by
    intro N3
    induction N3 with
    | zero =>
      intro l4_3 locs ls pn I3_0 hm3
      exact absurd hm3 (z_X2_nextWith_1 l4_3.toInt p2.toInt I3_0)
    | succ N3 ih3 =>
      intro l4_3 locs ls pn I3_0 hm3 hT hS hl
      refine lv_iload hx hb dX2_nextWith_3 (lv_at hl 3 rfl) ?_
      refine lv_bipush (v := 30) hx hb dX2_nextWith_5 (by decide) ?_
      refine xi_cge (tgt := 37) hx hb (rfl : Int32.toInt l4_3 = l4_3.toInt) ((by decide) : Int32.toInt 30 = (30 : Int)) dX2_nextWith_7 (by decide) (fun c7 => ?_) (fun c7 => ?_)
      · refine lv_iconst (v := (-1)) hx hb dX2_nextWith_37 (by decide) ?_
        exact x_ri hx hb hr hlk hQ (Nat.le_of_ble_eq_true rfl) (Nat.le_of_ble_eq_true rfl) hS dX2_nextWith_38 () ⟨_, rfl, (by rw [((by decide) : Int32.toInt (-1) = (-1 : Int))] <;> exact (by decide)), (by rw [((by decide) : Int32.toInt (-1) = (-1 : Int))] <;> exact (v_X2_nextWith_38_1 (K := K) (F := F) p0 p1 G p2 l4_3 p3 N3 hp0 hp1 pn e0 z0 I3_0 hm3 c7))⟩ hh
      · refine lv_aload_n hx hb dX2_nextWith_10 rfl (lv_at hl 0 rfl) ?_
        refine lv_aload_n hx hb dX2_nextWith_11 rfl (lv_at hl 1 rfl) ?_
        refine gX7_2 S hK hT hp1 kf_X2_61 dX2_nextWith_12 (v := (G.1 p1 2)) rfl (?_)
        refine lv_iload hx hb dX2_nextWith_15 (lv_at hl 3 rfl) ?_
        refine lv_aload_n hx hb dX2_nextWith_17 rfl (lv_at hl 1 rfl) ?_
        refine gX7_3 S hK hT hp1 kf_X2_64 dX2_nextWith_18 (v := (G.1 p1 3)) rfl (?_)
        refine x_clp (x_runV (b := p0) (As := [.int (G.1 p1 2), .int l4_3, .int (G.1 p1 3)]) (rest := []) S (c_X6_cell l E K F G s.heap p0 (G.1 p1 2) l4_3 (G.1 p1 3) hp0) mv_X6_cell km_X2_67 rfl rfl ⟨Nat.le_of_ble_eq_true rfl, Nat.le_of_ble_eq_true rfl⟩ (rc_8 hK hT hp0) hK (fun _ => XPh.blind) (fun U hU hW => XPh.at hK hz hS hT hU hW) rfl hl.1 (Nat.le_of_ble_eq_true rfl) dX2_nextWith_21 ⟨Nat.le_of_ble_eq_true rfl, Nat.le_of_ble_eq_true rfl⟩) hS ?_
        rintro _ _ locs ⟨x21, rfl, t21⟩ hS
        have t21 : x21.toInt = (cel (vw (G.2.1 (F p0 0))) ((G.1 p1 2).toInt) (l4_3.toInt) ((G.1 p1 3).toInt)) := t21
        refine lv_iload_n hx hb dX2_nextWith_24 rfl (lv_at hl 2 rfl) ?_
        refine xi_cne (tgt := 31) hx hb (t21 : Int32.toInt x21 = (cel (vw (G.2.1 (F p0 0))) ((G.1 p1 2).toInt) (l4_3.toInt) ((G.1 p1 3).toInt))) (rfl : Int32.toInt p3 = p3.toInt) dX2_nextWith_25 (by decide) (fun c25 => ?_) (fun c25 => ?_)
        · refine xi_iinc (n := 1) (lv' := fun z9 => [(4, .int z9), (0, .ref p0), (1, .ref p1), (3, .int p3)]) (k := 3) hx hb (rfl : Int32.toInt l4_3 = l4_3.toInt) (by decide) dX2_nextWith_31 hl rfl (by decide) (fun _ => rfl) (fun x31 ls t31 hl => ?_)
          have e31 : x31.toInt = (l4_3.toInt + 1) := (z_X2_nextWith_2 l4_3.toInt x31.toInt c7 t31 (xr l4_3))
          have hl : lv_has ls 5 [(4, .int x31), (0, .ref p0), (1, .ref p1), (3, .int p3)] := hl
          refine lv_goto (tgt := 3) hx hb dX2_nextWith_34 (by decide) ?_
          exact ih3 x31 _ _ (by rw [(e31 : Int32.toInt x31 = (l4_3.toInt + 1))] <;> exact (v_X2_nextWith_34_2 (K := K) (F := F) p0 p1 G p2 l4_3 p3 N3 hp0 hp1 pn e0 z0 I3_0 hm3 c7 c25)) (by rw [(e31 : Int32.toInt x31 = (l4_3.toInt + 1))] <;> exact (z_X2_nextWith_3 l4_3.toInt p2.toInt I3_0 c7)) (by rw [(e31 : Int32.toInt x31 = (l4_3.toInt + 1))] <;> exact (z_X2_replace_5 l4_3.toInt N3 hm3)) hT hS (lv_sub hl [1, 2, 3, 0] rfl)
        · refine lv_iload hx hb dX2_nextWith_28 (lv_at hl 3 rfl) ?_
          exact x_ri hx hb hr hlk hQ (Nat.le_of_ble_eq_true rfl) (Nat.le_of_ble_eq_true rfl) hS dX2_nextWith_30 () ⟨_, rfl, (z_X2_nextWith_5 l4_3.toInt p2.toInt e0 I3_0 c7), (v_X2_nextWith_30_3 (K := K) (F := F) p0 p1 G p2 l4_3 p3 N3 hp0 hp1 pn e0 z0 I3_0 hm3 c7 c25)⟩ hh
  exact L3 4294967297 p2 _ _ (v_X2_nextWith_1_4 (K := K) (F := F) p0 p1 G p2 p3 hp0 hp1 e0 z0) (z_X2_nextWith_6 p2.toInt e0) (z_X2_nextWith_7 p2.toInt e0) hT hS (lv_sub hl [1, 2, 4, 0] rfl)

theorem z_X2_descend_2 (a0 : Int) (h0 : 0 ≤ a0 ∧ a0 < 90) (h1 : a0 < 0) : a0 = a0 + 1 := by omega
theorem z_X2_descend_3 (a0 : Int) (h0 : 0 ≤ a0 ∧ a0 < 90) (h1 : (90 : Int) ≤ a0) : a0 = a0 + 1 := by omega
theorem z_X2_descend_4 (a0 : Int) (h0 : 0 ≤ a0 ∧ a0 < 90) : 0 ≤ a0 ∧ a0 < ((90 : Nat) : Int) := by omega
theorem z_X2_descend_8 (a0 : Int) (a1 : Int) (h0 : 0 ≤ a1 ∧ a1 < 90) (h1 : a0 = (a1 + (1 : Int)) ∨ (a1 + (1 : Int)) < -2147483648 ∨ 2147483648 ≤ (a1 + (1 : Int))) : a0 = (a1 + (1 : Int)) := by omega
theorem z_X2_descend_9 (a0 : Int) : (a0 + (1 : Int)) = a0 + 1 := by omega
abbrev rm_X2_descend : Room := { frames := 3, cells := 0, slots := 0, locals := 67 }
set_option maxHeartbeats 4000000 in
set_option maxRecDepth 100000 in
theorem c_X2_descend (l : Launch) (E : XE) (K : Nat → Nat) (F : Nat → Nat → Nat) (G : XG) (a : Nat) (p0 : Nat) (p1 : Int32) (p2 : Int32) (ha : K a = 4) (hp0 : K p0 = 8) (e0 : 0 ≤ p1.toInt ∧ p1.toInt < 3 ∧ 0 ≤ p2.toInt ∧ p2.toInt < 30) (e1 : 0 ≤ ((G.1 a 4).toInt) ∧ ((G.1 a 4).toInt) < 90) (hro : RO (vw (G.2.1 (F p0 0))) (aI (G.2.1 (F p0 1)))) : Met l yX2_descend (xw yX2_descend cX2_descend 4 none) rm_X2_descend (va_Pc [.ref a, .ref p0, .int p1, .int p2] (XP E K F G)) (XQv E (fun (u : XG) => XFr [(a, 4)] [F a 0, F a 1, F a 2, F a 3, F p0 0, F p0 1] [] G u ∧ (((u.1 a 4).toInt) = ((G.1 a 4).toInt) + 1) ∧ (∀ z : Int, 0 ≤ z → aI (u.2.1 (F a 0)) z = if z = ((G.1 a 4).toInt) then p1.toInt else aI (G.2.1 (F a 0)) z) ∧ (∀ z : Int, 0 ≤ z → aI (u.2.1 (F a 1)) z = if z = ((G.1 a 4).toInt) then p2.toInt else aI (G.2.1 (F a 1)) z) ∧ (∀ z : Int, 0 ≤ z → aI (u.2.1 (F a 2)) z = if z = ((G.1 a 4).toInt) then 0 else aI (G.2.1 (F a 2)) z) ∧ (∀ z : Int, 0 ≤ z → aI (u.2.1 (F a 3)) z = if z = ((G.1 a 4).toInt) then 0 else aI (G.2.1 (F a 3)) z) ∧ ((vw (u.2.1 (F p0 0))) = rfil (vw (G.2.1 (F p0 0))) p1.toInt p2.toInt (-2000) 3) ∧ (RO (vw (u.2.1 (F p0 0))) (aI (u.2.1 (F p0 1))))) (fun u H => TW E K F u H)) 0 0 (xA E) := by
  refine x_enter (by decide) (Nat.le_of_ble_eq_true rfl) ?_
  intro p e s m args below meth c Q S hr hlk hnm hQ hP ls hl
  obtain ⟨hz, hK, hT⟩ := hP
  obtain ⟨hx, hb, -, -, -⟩ := id S
  obtain ⟨H, hT, hS, hgo⟩ : ∃ H : Heap, TW E K F G H ∧ va_S (xA E) s.heap H [] ∧ H = s.heap := ⟨_, hT, va_S.rf, rfl⟩
  rw [← hgo]
  have hl : lv_has ls 4 [(0, .ref a), (1, .ref p0), (2, .int p1), (3, .int p2)] := hl
  obtain ⟨hk9999, hj9999⟩ := fkX2_0 hT ha
  obtain ⟨hk9999a, hj9999a⟩ := fkX2_1 hT ha
  obtain ⟨hk9999b, hj9999b⟩ := fkX2_2 hT ha
  obtain ⟨hk9999c, hj9999c⟩ := fkX2_3 hT ha
  obtain ⟨hk9999d, hj9999d⟩ := fkX6_0 hT hp0
  obtain ⟨hk9999e, hj9999e⟩ := fkX6_1 hT hp0
  refine lv_aload_n hx hb dX2_descend_0 rfl (lv_at hl 1 rfl) ?_
  refine lv_iload_n hx hb dX2_descend_1 rfl (lv_at hl 2 rfl) ?_
  refine lv_iload_n hx hb dX2_descend_2 rfl (lv_at hl 3 rfl) ?_
  refine x_cv0 (x_runV (b := p0) (As := [.int p1, .int p2]) (rest := []) S (c_X6_remove l E K F G p0 p1 p2 hp0 (e0) (v_X2_descend_3_1 (F := F) p0 G hro)) mv_X6_remove km_X2_75 rfl rfl ⟨Nat.le_of_ble_eq_true rfl, Nat.le_of_ble_eq_true rfl⟩ (rc_8 hK hT hp0) hK (fun _ => XP.blind) (fun U hU hW => XP.at hK hz hS hT hU hW) rfl hl.1 (Nat.le_of_ble_eq_true rfl) dX2_descend_3 ⟨Nat.le_of_ble_eq_true rfl, Nat.le_of_ble_eq_true rfl⟩) hS ?_
  rintro G3 H locs ⟨hF3, oq3, oq3a⟩ hT hS
  refine lv_aload_n hx hb dX2_descend_6 rfl (lv_at hl 0 rfl) ?_
  refine gX2_4 S hK hT ha kf_X2_24 dX2_descend_7 (v := (G.1 a 4)) (hF3.1 _ _ xn0) (?_)
  refine xi_zlt (tgt := 72) hx hb (rfl : Int32.toInt (G.1 a 4) = ((G.1 a 4).toInt)) dX2_descend_10 (by decide) (fun c10 => ?_) (fun c10 => ?_)
  · exact x_rv hx hb hr hlk hQ (Nat.le_of_ble_eq_true rfl) (Nat.le_of_ble_eq_true rfl) hS dX2_descend_72 G3 ⟨(XFr.call XFr.rf hF3 xm0 (xm1 4 rfl (xm1 5 rfl xm0)) xm0), (by rw [(show (G3.1 a 4).toInt = ((G.1 a 4).toInt) from (congrArg Int32.toInt (hF3.1 _ _ xn0)).trans (rfl : Int32.toInt (G.1 a 4) = ((G.1 a 4).toInt)))] <;> exact (z_X2_descend_2 ((G.1 a 4).toInt) e1 c10)), (v_X2_descend_72_2 (K := K) (F := F) a p0 G G3 p1 p2 ha hp0 e0 e1 c10 (hF3.2.1 _ (xn1 (xne_k hk9999 hk9999d (by decide)) (xn1 (xne_k hk9999 hk9999e (by decide)) xn0)))), (v_X2_descend_72_3 (K := K) (F := F) a p0 G G3 p1 p2 ha hp0 e0 e1 c10), (v_X2_descend_72_4 (K := K) (F := F) a p0 G G3 p1 p2 ha hp0 e0 e1 c10), (v_X2_descend_72_5 (K := K) (F := F) a p0 G G3 p1 p2 ha hp0 e0 e1 c10), (v_X2_descend_72_6 (K := K) (F := F) a p0 G G3 p1 p2 ha hp0 oq3 e0 e1 c10), (v_X2_descend_72_7 (K := K) (F := F) a p0 G G3 p1 p2 ha hp0 oq3a e0 e1 c10)⟩ hT
  · refine lv_aload_n hx hb dX2_descend_13 rfl (lv_at hl 0 rfl) ?_
    refine gX2_4 S hK hT ha kf_X2_24 dX2_descend_14 (v := (G.1 a 4)) (hF3.1 _ _ xn0) (?_)
    refine lv_bipush (v := 90) hx hb dX2_descend_17 (by decide) ?_
    refine xi_cge (tgt := 72) hx hb (rfl : Int32.toInt (G.1 a 4) = ((G.1 a 4).toInt)) ((by decide) : Int32.toInt 90 = (90 : Int)) dX2_descend_19 (by decide) (fun c19 => ?_) (fun c19 => ?_)
    · exact x_rv hx hb hr hlk hQ (Nat.le_of_ble_eq_true rfl) (Nat.le_of_ble_eq_true rfl) hS dX2_descend_72 G3 ⟨(XFr.call XFr.rf hF3 xm0 (xm1 4 rfl (xm1 5 rfl xm0)) xm0), (by rw [(show (G3.1 a 4).toInt = ((G.1 a 4).toInt) from (congrArg Int32.toInt (hF3.1 _ _ xn0)).trans (rfl : Int32.toInt (G.1 a 4) = ((G.1 a 4).toInt)))] <;> exact (z_X2_descend_3 ((G.1 a 4).toInt) e1 c19)), (v_X2_descend_72_8 (K := K) (F := F) a p0 G G3 p1 p2 ha hp0 e0 e1 c10 c19 (hF3.2.1 _ (xn1 (xne_k hk9999 hk9999d (by decide)) (xn1 (xne_k hk9999 hk9999e (by decide)) xn0)))), (v_X2_descend_72_9 (K := K) (F := F) a p0 G G3 p1 p2 ha hp0 e0 e1 c10 c19), (v_X2_descend_72_10 (K := K) (F := F) a p0 G G3 p1 p2 ha hp0 e0 e1 c10 c19), (v_X2_descend_72_11 (K := K) (F := F) a p0 G G3 p1 p2 ha hp0 e0 e1 c10 c19), (v_X2_descend_72_12 (K := K) (F := F) a p0 G G3 p1 p2 ha hp0 oq3 e0 e1 c10 c19), (v_X2_descend_72_13 (K := K) (F := F) a p0 G G3 p1 p2 ha hp0 oq3a e0 e1 c10 c19)⟩ hT
    · refine lv_aload_n hx hb dX2_descend_22 rfl (lv_at hl 0 rfl) ?_
      refine gX2_0 S hK hT ha kf_X2_11 dX2_descend_23 (fun _ _ => ?_)
      refine lv_aload_n hx hb dX2_descend_26 rfl (lv_at hl 0 rfl) ?_
      refine gX2_4 S hK hT ha kf_X2_24 dX2_descend_27 (v := (G.1 a 4)) (hF3.1 _ _ xn0) (?_)
      refine lv_iload_n hx hb dX2_descend_30 rfl (lv_at hl 2 rfl) ?_
      refine as_0 (x := p1) S hK hT hS hk9999 ar_24 aw_24 (by decide) (z_X2_descend_4 ((G.1 a 4).toInt) e1) dX2_descend_31 (fun H locs hT hS => ?_)
      obtain ⟨G31, hG31⟩ : ∃ GG : XG, GG = cput G3 (F a 0) (G.1 a 4).toNatClampNeg p1 := ⟨_, rfl⟩
      rw [← hG31] at hT
      refine lv_aload_n hx hb dX2_descend_32 rfl (lv_at hl 0 rfl) ?_
      refine gX2_1 S hK hT ha kf_X2_15 dX2_descend_33 (fun _ _ => ?_)
      refine lv_aload_n hx hb dX2_descend_36 rfl (lv_at hl 0 rfl) ?_
      refine gX2_4 S hK hT ha kf_X2_24 dX2_descend_37 (v := (G.1 a 4)) ((lc_d hG31).trans (hF3.1 _ _ xn0)) (?_)
      refine lv_iload_n hx hb dX2_descend_40 rfl (lv_at hl 3 rfl) ?_
      refine as_0 (x := p2) S hK hT hS hk9999a ar_24 aw_24 (by decide) (z_X2_descend_4 ((G.1 a 4).toInt) e1) dX2_descend_41 (fun H locs hT hS => ?_)
      obtain ⟨G41, hG41⟩ : ∃ GG : XG, GG = cput G31 (F a 1) (G.1 a 4).toNatClampNeg p2 := ⟨_, rfl⟩
      rw [← hG41] at hT
      refine lv_aload_n hx hb dX2_descend_42 rfl (lv_at hl 0 rfl) ?_
      refine gX2_2 S hK hT ha kf_X2_18 dX2_descend_43 (fun _ _ => ?_)
      refine lv_aload_n hx hb dX2_descend_46 rfl (lv_at hl 0 rfl) ?_
      refine gX2_4 S hK hT ha kf_X2_24 dX2_descend_47 (v := (G.1 a 4)) ((lc_d hG41).trans ((lc_d hG31).trans (hF3.1 _ _ xn0))) (?_)
      refine lv_iconst (v := 0) hx hb dX2_descend_50 (by decide) ?_
      refine as_0 (x := 0) S hK hT hS hk9999b ar_24 aw_24 (by decide) (z_X2_descend_4 ((G.1 a 4).toInt) e1) dX2_descend_51 (fun H locs hT hS => ?_)
      obtain ⟨G51, hG51⟩ : ∃ GG : XG, GG = cput G41 (F a 2) (G.1 a 4).toNatClampNeg 0 := ⟨_, rfl⟩
      rw [← hG51] at hT
      refine lv_aload_n hx hb dX2_descend_52 rfl (lv_at hl 0 rfl) ?_
      refine gX2_3 S hK hT ha kf_X2_21 dX2_descend_53 (fun _ _ => ?_)
      refine lv_aload_n hx hb dX2_descend_56 rfl (lv_at hl 0 rfl) ?_
      refine gX2_4 S hK hT ha kf_X2_24 dX2_descend_57 (v := (G.1 a 4)) ((lc_d hG51).trans ((lc_d hG41).trans ((lc_d hG31).trans (hF3.1 _ _ xn0)))) (?_)
      refine lv_iconst (v := 0) hx hb dX2_descend_60 (by decide) ?_
      refine as_0 (x := 0) S hK hT hS hk9999c ar_24 aw_24 (by decide) (z_X2_descend_4 ((G.1 a 4).toInt) e1) dX2_descend_61 (fun H locs hT hS => ?_)
      obtain ⟨G61, hG61⟩ : ∃ GG : XG, GG = cput G51 (F a 3) (G.1 a 4).toNatClampNeg 0 := ⟨_, rfl⟩
      rw [← hG61] at hT
      refine lv_aload_n hx hb dX2_descend_62 rfl (lv_at hl 0 rfl) ?_
      refine lv_dup hx hb dX2_descend_63 rfl ?_
      refine gX2_4 S hK hT ha kf_X2_24 dX2_descend_64 (v := (G.1 a 4)) ((lc_d hG61).trans ((lc_d hG51).trans ((lc_d hG41).trans ((lc_d hG31).trans (hF3.1 _ _ xn0))))) (?_)
      refine lv_iconst (v := 1) hx hb dX2_descend_67 (by decide) ?_
      refine xi_iadd hx hb (rfl : Int32.toInt (G.1 a 4) = ((G.1 a 4).toInt)) ((by decide) : Int32.toInt 1 = (1 : Int)) dX2_descend_68 (fun x68 t68 => ?_)
      have e68 : x68.toInt = (((G.1 a 4).toInt) + (1 : Int)) := (z_X2_descend_8 x68.toInt ((G.1 a 4).toInt) e1 t68)
      refine pX2_4 (v := x68) S hK hT hS ha kf_X2_24 dX2_descend_69 (fun H locs hT hS => ?_)
      obtain ⟨G69, hG69⟩ : ∃ GG : XG, GG = dput G61 a 4 x68 := ⟨_, rfl⟩
      rw [← hG69] at hT
      exact x_rv hx hb hr hlk hQ (Nat.le_of_ble_eq_true rfl) (Nat.le_of_ble_eq_true rfl) hS dX2_descend_72 G69 ⟨(by rw [hG69]; exact XFr.dput (by rw [hG61]; exact XFr.cput (by rw [hG51]; exact XFr.cput (by rw [hG41]; exact XFr.cput (by rw [hG31]; exact XFr.cput (XFr.call XFr.rf hF3 xm0 (xm1 4 rfl (xm1 5 rfl xm0)) xm0) (List.mem_of_getElem? (i := 0) rfl)) (List.mem_of_getElem? (i := 1) rfl)) (List.mem_of_getElem? (i := 2) rfl)) (List.mem_of_getElem? (i := 3) rfl)) (List.mem_of_getElem? (i := 0) rfl)), (by rw [(show (G69.1 a 4).toInt = (((G.1 a 4).toInt) + (1 : Int)) from (congrArg Int32.toInt (ld_at hG69)).trans (e68 : Int32.toInt x68 = (((G.1 a 4).toInt) + (1 : Int))))] <;> exact (z_X2_descend_9 ((G.1 a 4).toInt))), (v_X2_descend_72_14 (K := K) (F := F) a p0 G G3 G31 p1 p2 G69 ha hp0 hG31 e0 e1 c10 c19 (hF3.2.1 _ (xn1 (xne_k hk9999 hk9999d (by decide)) (xn1 (xne_k hk9999 hk9999e (by decide)) xn0))) ((ld_c hG69).trans ((lc_c hG61 (xne_j hj9999 hj9999c (by first | decide | omega))).trans ((lc_c hG51 (xne_j hj9999 hj9999b (by first | decide | omega))).trans (lc_c hG41 (xne_j hj9999 hj9999a (by first | decide | omega))))))), (v_X2_descend_72_15 (K := K) (F := F) a p0 G G31 p1 G41 p2 G69 ha hp0 hG41 e0 e1 c10 c19 ((lc_c hG31 (xne_j hj9999a hj9999 (by first | decide | omega))).trans (hF3.2.1 _ (xn1 (xne_k hk9999a hk9999d (by decide)) (xn1 (xne_k hk9999a hk9999e (by decide)) xn0)))) ((ld_c hG69).trans ((lc_c hG61 (xne_j hj9999a hj9999c (by first | decide | omega))).trans (lc_c hG51 (xne_j hj9999a hj9999b (by first | decide | omega)))))), (v_X2_descend_72_16 (K := K) (F := F) a p0 G p1 G41 p2 G51 G69 ha hp0 hG51 e0 e1 c10 c19 ((lc_c hG41 (xne_j hj9999b hj9999a (by first | decide | omega))).trans ((lc_c hG31 (xne_j hj9999b hj9999 (by first | decide | omega))).trans (hF3.2.1 _ (xn1 (xne_k hk9999b hk9999d (by decide)) (xn1 (xne_k hk9999b hk9999e (by decide)) xn0))))) ((ld_c hG69).trans (lc_c hG61 (xne_j hj9999b hj9999c (by first | decide | omega))))), (v_X2_descend_72_17 (K := K) (F := F) a p0 G p1 p2 G51 G61 G69 ha hp0 hG61 e0 e1 c10 c19 ((lc_c hG51 (xne_j hj9999c hj9999b (by first | decide | omega))).trans ((lc_c hG41 (xne_j hj9999c hj9999a (by first | decide | omega))).trans ((lc_c hG31 (xne_j hj9999c hj9999 (by first | decide | omega))).trans (hF3.2.1 _ (xn1 (xne_k hk9999c hk9999d (by decide)) (xn1 (xne_k hk9999c hk9999e (by decide)) xn0)))))) (ld_c hG69)), (v_X2_descend_72_18 (K := K) (F := F) a p0 G G3 p1 p2 G69 ha hp0 oq3 e0 e1 c10 c19 ((ld_c hG69).trans ((lc_c hG61 (xne_k hk9999d hk9999c (by decide))).trans ((lc_c hG51 (xne_k hk9999d hk9999b (by decide))).trans ((lc_c hG41 (xne_k hk9999d hk9999a (by decide))).trans (lc_c hG31 (xne_k hk9999d hk9999 (by decide)))))))), (v_X2_descend_72_19 (K := K) (F := F) a p0 G G3 p1 p2 G69 ha hp0 oq3a e0 e1 c10 c19 ((ld_c hG69).trans ((lc_c hG61 (xne_k hk9999d hk9999c (by decide))).trans ((lc_c hG51 (xne_k hk9999d hk9999b (by decide))).trans ((lc_c hG41 (xne_k hk9999d hk9999a (by decide))).trans (lc_c hG31 (xne_k hk9999d hk9999 (by decide))))))) ((ld_c hG69).trans ((lc_c hG61 (xne_k hk9999e hk9999c (by decide))).trans ((lc_c hG51 (xne_k hk9999e hk9999b (by decide))).trans ((lc_c hG41 (xne_k hk9999e hk9999a (by decide))).trans (lc_c hG31 (xne_k hk9999e hk9999 (by decide))))))))⟩ hT
theorem v_X2_goOn_17_1 {K : Nat → Nat} {F : Nat → Nat → Nat} (a : Nat) (p0 : Nat) (p1 : Nat) (G : XG)
    (ha : K a = 4)
    (hp0 : K p0 = 8)
    (hp1 : K p1 = 2)
    (hcz : CZ (clsA G (G.2.2.1 (F p1 0))) (gst (G.2.1 (F a 0)) (G.2.1 (F a 1)) (G.2.1 (F a 2)) (G.2.1 (F a 3)) (Int.toNat (((G.1 a 4).toInt))), (vw (G.2.1 (F p0 0)))).1)
    (e0 : 1 ≤ ((G.1 a 4).toInt) ∧ ((G.1 a 4).toInt) ≤ 90)
    (z0 : ((0 ≤ (aI (G.2.1 (F a 0)) (((G.1 a 4).toInt) - 1)) ∧ (aI (G.2.1 (F a 0)) (((G.1 a 4).toInt) - 1)) < 3) ∧ (0 ≤ (aI (G.2.1 (F a 1)) (((G.1 a 4).toInt) - 1)) ∧ (aI (G.2.1 (F a 1)) (((G.1 a 4).toInt) - 1)) < 30) ∧ (0 ≤ (aI (G.2.1 (F a 2)) (((G.1 a 4).toInt) - 1)) ∧ (aI (G.2.1 (F a 2)) (((G.1 a 4).toInt) - 1)) ≤ 12) ∧ (0 ≤ (aI (G.2.1 (F a 3)) (((G.1 a 4).toInt) - 1)) ∧ (aI (G.2.1 (F a 3)) (((G.1 a 4).toInt) - 1)) ≤ 30)) ∧ ((G.1 a 4).toInt) + (pn (vw (G.2.1 (F p0 0)))) ≤ 90)
    (c8 : (((G.1 a 4).toInt) - (1 : Int)) < 0) :
    CGo (clsA G (G.2.2.1 (F p1 0))) (clsT G (G.2.2.1 (F p1 0))) (clsC G (G.2.2.1 (F p1 0))) (gst (G.2.1 (F a 0)) (G.2.1 (F a 1)) (G.2.1 (F a 2)) (G.2.1 (F a 3)) (Int.toNat (((G.1 a 4).toInt))), (vw (G.2.1 (F p0 0)))) (gst (G.2.1 (F a 0)) (G.2.1 (F a 1)) (G.2.1 (F a 2)) (G.2.1 (F a 3)) (Int.toNat (((G.1 a 4).toInt))), (vw (G.2.1 (F p0 0)))) := by
  exfalso; omega
theorem v_X2_goOn_17_2 {K : Nat → Nat} {F : Nat → Nat → Nat} (a : Nat) (p0 : Nat) (p1 : Nat) (G : XG)
    (ha : K a = 4)
    (hp0 : K p0 = 8)
    (hp1 : K p1 = 2)
    (hcz : CZ (clsA G (G.2.2.1 (F p1 0))) (gst (G.2.1 (F a 0)) (G.2.1 (F a 1)) (G.2.1 (F a 2)) (G.2.1 (F a 3)) (Int.toNat (((G.1 a 4).toInt))), (vw (G.2.1 (F p0 0)))).1)
    (e0 : 1 ≤ ((G.1 a 4).toInt) ∧ ((G.1 a 4).toInt) ≤ 90)
    (z0 : ((0 ≤ (aI (G.2.1 (F a 0)) (((G.1 a 4).toInt) - 1)) ∧ (aI (G.2.1 (F a 0)) (((G.1 a 4).toInt) - 1)) < 3) ∧ (0 ≤ (aI (G.2.1 (F a 1)) (((G.1 a 4).toInt) - 1)) ∧ (aI (G.2.1 (F a 1)) (((G.1 a 4).toInt) - 1)) < 30) ∧ (0 ≤ (aI (G.2.1 (F a 2)) (((G.1 a 4).toInt) - 1)) ∧ (aI (G.2.1 (F a 2)) (((G.1 a 4).toInt) - 1)) ≤ 12) ∧ (0 ≤ (aI (G.2.1 (F a 3)) (((G.1 a 4).toInt) - 1)) ∧ (aI (G.2.1 (F a 3)) (((G.1 a 4).toInt) - 1)) ≤ 30)) ∧ ((G.1 a 4).toInt) + (pn (vw (G.2.1 (F p0 0)))) ≤ 90)
    (c8 : (((G.1 a 4).toInt) - (1 : Int)) < 0) :
    RO (vw (G.2.1 (F p0 0))) (aI (G.2.1 (F p0 1))) := by
  exfalso; omega
theorem v_X2_goOn_164_3 {K : Nat → Nat} {F : Nat → Nat → Nat} (a : Nat) (p0 : Nat) (p1 : Nat) (G156 : XG) (G : XG) (x5 : Int32) (x155 : Int32) (G163 : XG)
    (ha : K a = 4)
    (hp0 : K p0 = 8)
    (hp1 : K p1 = 2)
    (hG156 : G156 = cput G (F a 2) x5.toNatClampNeg x155)
    (hG163 : G163 = cput G156 (F a 3) x5.toNatClampNeg 0)
    (bkn : BKr K G (G.2.2.1 (F p1 0)))
    (hiv : CIv (gst (G.2.1 (F a 0)) (G.2.1 (F a 1)) (G.2.1 (F a 2)) (G.2.1 (F a 3)) (Int.toNat (((G.1 a 4).toInt))), (vw (G.2.1 (F p0 0)))))
    (hcz : CZ (clsA G (G.2.2.1 (F p1 0))) (gst (G.2.1 (F a 0)) (G.2.1 (F a 1)) (G.2.1 (F a 2)) (G.2.1 (F a 3)) (Int.toNat (((G.1 a 4).toInt))), (vw (G.2.1 (F p0 0)))).1)
    (e5 : x5.toInt = (((G.1 a 4).toInt) - (1 : Int)))
    (hn47 : ((aI (G.2.1 (F a 2)) (((G.1 a 4).toInt) - 1)) < 0 ∨ 12 ≤ (aI (G.2.1 (F a 2)) (((G.1 a 4).toInt) - 1))) ∨ G.2.2.1 (F p1 0) ((aI (G.2.1 (F a 2)) (((G.1 a 4).toInt) - 1))).toNat = none)
    (e155 : x155.toInt = ((aI (G.2.1 (F a 2)) (((G.1 a 4).toInt) - 1)) + (1 : Int)))
    (e0 : 1 ≤ ((G.1 a 4).toInt) ∧ ((G.1 a 4).toInt) ≤ 90)
    (z0 : ((0 ≤ (aI (G.2.1 (F a 0)) (((G.1 a 4).toInt) - 1)) ∧ (aI (G.2.1 (F a 0)) (((G.1 a 4).toInt) - 1)) < 3) ∧ (0 ≤ (aI (G.2.1 (F a 1)) (((G.1 a 4).toInt) - 1)) ∧ (aI (G.2.1 (F a 1)) (((G.1 a 4).toInt) - 1)) < 30) ∧ (0 ≤ (aI (G.2.1 (F a 2)) (((G.1 a 4).toInt) - 1)) ∧ (aI (G.2.1 (F a 2)) (((G.1 a 4).toInt) - 1)) ≤ 12) ∧ (0 ≤ (aI (G.2.1 (F a 3)) (((G.1 a 4).toInt) - 1)) ∧ (aI (G.2.1 (F a 3)) (((G.1 a 4).toInt) - 1)) ≤ 30)) ∧ ((G.1 a 4).toInt) + (pn (vw (G.2.1 (F p0 0)))) ≤ 90)
    (c8 : ¬ ((((G.1 a 4).toInt) - (1 : Int)) < 0))
    (c14 : (((G.1 a 4).toInt) - (1 : Int)) < (90 : Int))
    (c26 : (aI (G.2.1 (F a 2)) (((G.1 a 4).toInt) - 1)) < (12 : Int))
    (c_G156_F_a_3 : G156.2.1 (F a 3) = G.2.1 (F a 3))
    (c_G163_F_a_0 : G163.2.1 (F a 0) = G.2.1 (F a 0))
    (c_G163_F_a_1 : G163.2.1 (F a 1) = G.2.1 (F a 1))
    (c_G163_F_a_2 : G163.2.1 (F a 2) = G156.2.1 (F a 2))
    (c_G163_F_p0_0 : G163.2.1 (F p0 0) = G.2.1 (F p0 0))
    (d_G163_a_4 : G163.1 a 4 = G.1 a 4) :
    CGo (clsA G (G.2.2.1 (F p1 0))) (clsT G (G.2.2.1 (F p1 0))) (clsC G (G.2.2.1 (F p1 0))) (gst (G.2.1 (F a 0)) (G.2.1 (F a 1)) (G.2.1 (F a 2)) (G.2.1 (F a 3)) (Int.toNat (((G.1 a 4).toInt))), (vw (G.2.1 (F p0 0)))) (gst (G163.2.1 (F a 0)) (G163.2.1 (F a 1)) (G163.2.1 (F a 2)) (G163.2.1 (F a 3)) (Int.toNat (((G163.1 a 4).toInt))), (vw (G163.2.1 (F p0 0)))) := by
  have t9 := gst_p (a := G.2.1 (F a 0)) (b := G.2.1 (F a 1)) (c := G.2.1 (F a 2)) (d := G.2.1 (F a 3)) (n := (G.1 a 4).toInt) (by omega)
  rw [t9] at hiv hcz ⊢
  have hq : G.2.2.1 (F p1 0) ((aI (G.2.1 (F a 2)) ((G.1 a 4).toInt - 1))).toNat = none := hn47.elim (fun h => absurd h (by omega)) id
  have st := cgo_nx (clsTo bkn) hiv hcz (by omega) (by rw [clsA_n hq]; decide)
  rw [d_G163_a_4, c_G163_F_a_0, c_G163_F_a_1, c_G163_F_a_2, gst_u (n := (G.1 a 4).toInt) (by omega) (aI_pu hG156 rfl e5 e155 (by omega)) (aI_pu hG163 c_G156_F_a_3 e5 (show ((0 : Int32)).toInt = 0 from by decide) (by omega)), c_G163_F_p0_0]
  exact st
theorem v_X2_goOn_164_4 {F : Nat → Nat → Nat} (p0 : Nat) (G : XG) (G163 : XG)
    (hro : RO (vw (G.2.1 (F p0 0))) (aI (G.2.1 (F p0 1))))
    (c_G163_F_p0_0 : G163.2.1 (F p0 0) = G.2.1 (F p0 0))
    (c_G163_F_p0_1 : G163.2.1 (F p0 1) = G.2.1 (F p0 1)) :
    RO (vw (G163.2.1 (F p0 0))) (aI (G163.2.1 (F p0 1))) := by
  rw [c_G163_F_p0_0, c_G163_F_p0_1]
  first | exact oq92a | exact hro
theorem v_X2_goOn_164_5 {K : Nat → Nat} {F : Nat → Nat → Nat} (a : Nat) (p0 : Nat) (p1 : Nat) (q47 : Nat) (G156 : XG) (G : XG) (x5 : Int32) (x155 : Int32) (G163 : XG) (x65 : Int32)
    (ha : K a = 4)
    (hp0 : K p0 = 8)
    (hp1 : K p1 = 2)
    (hG156 : G156 = cput G (F a 2) x5.toNatClampNeg x155)
    (hG163 : G163 = cput G156 (F a 3) x5.toNatClampNeg 0)
    (bkn : BKr K G (G.2.2.1 (F p1 0)))
    (hac : ACo G (G.2.2.1 (F p1 0)))
    (hiv : CIv (gst (G.2.1 (F a 0)) (G.2.1 (F a 1)) (G.2.1 (F a 2)) (G.2.1 (F a 3)) (Int.toNat (((G.1 a 4).toInt))), (vw (G.2.1 (F p0 0)))))
    (hcz : CZ (clsA G (G.2.2.1 (F p1 0))) (gst (G.2.1 (F a 0)) (G.2.1 (F a 1)) (G.2.1 (F a 2)) (G.2.1 (F a 3)) (Int.toNat (((G.1 a 4).toInt))), (vw (G.2.1 (F p0 0)))).1)
    (e5 : x5.toInt = (((G.1 a 4).toInt) - (1 : Int)))
    (hs47 : G.2.2.1 (F p1 0) ((aI (G.2.1 (F a 2)) (((G.1 a 4).toInt) - 1))).toNat = some q47)
    (e155 : x155.toInt = ((aI (G.2.1 (F a 2)) (((G.1 a 4).toInt) - 1)) + (1 : Int)))
    (e0 : 1 ≤ ((G.1 a 4).toInt) ∧ ((G.1 a 4).toInt) ≤ 90)
    (z0 : ((0 ≤ (aI (G.2.1 (F a 0)) (((G.1 a 4).toInt) - 1)) ∧ (aI (G.2.1 (F a 0)) (((G.1 a 4).toInt) - 1)) < 3) ∧ (0 ≤ (aI (G.2.1 (F a 1)) (((G.1 a 4).toInt) - 1)) ∧ (aI (G.2.1 (F a 1)) (((G.1 a 4).toInt) - 1)) < 30) ∧ (0 ≤ (aI (G.2.1 (F a 2)) (((G.1 a 4).toInt) - 1)) ∧ (aI (G.2.1 (F a 2)) (((G.1 a 4).toInt) - 1)) ≤ 12) ∧ (0 ≤ (aI (G.2.1 (F a 3)) (((G.1 a 4).toInt) - 1)) ∧ (aI (G.2.1 (F a 3)) (((G.1 a 4).toInt) - 1)) ≤ 30)) ∧ ((G.1 a 4).toInt) + (pn (vw (G.2.1 (F p0 0)))) ≤ 90)
    (c8 : ¬ ((((G.1 a 4).toInt) - (1 : Int)) < 0))
    (c14 : (((G.1 a 4).toInt) - (1 : Int)) < (90 : Int))
    (c26 : (aI (G.2.1 (F a 2)) (((G.1 a 4).toInt) - 1)) < (12 : Int))
    (ht47 : 0 ≤ (aI (G.2.1 (F a 2)) (((G.1 a 4).toInt) - 1)) ∧ (aI (G.2.1 (F a 2)) (((G.1 a 4).toInt) - 1)) < 12)
    (t65 : ((((G.1 q47 0).toInt) = 1 ∧ ((G.1 q47 4).toInt) = (aI (G.2.1 (F a 0)) (((G.1 a 4).toInt) - 1)) ∧ ((G.1 q47 7).toInt) ≠ 0) ∧ x65.toInt = 1) ∨ (¬ (((G.1 q47 0).toInt) = 1 ∧ ((G.1 q47 4).toInt) = (aI (G.2.1 (F a 0)) (((G.1 a 4).toInt) - 1)) ∧ ((G.1 q47 7).toInt) ≠ 0) ∧ x65.toInt = 0))
    (c68 : x65.toInt = 0)
    (c_G156_F_a_3 : G156.2.1 (F a 3) = G.2.1 (F a 3))
    (c_G163_F_a_0 : G163.2.1 (F a 0) = G.2.1 (F a 0))
    (c_G163_F_a_1 : G163.2.1 (F a 1) = G.2.1 (F a 1))
    (c_G163_F_a_2 : G163.2.1 (F a 2) = G156.2.1 (F a 2))
    (c_G163_F_p0_0 : G163.2.1 (F p0 0) = G.2.1 (F p0 0))
    (d_G163_a_4 : G163.1 a 4 = G.1 a 4) :
    CGo (clsA G (G.2.2.1 (F p1 0))) (clsT G (G.2.2.1 (F p1 0))) (clsC G (G.2.2.1 (F p1 0))) (gst (G.2.1 (F a 0)) (G.2.1 (F a 1)) (G.2.1 (F a 2)) (G.2.1 (F a 3)) (Int.toNat (((G.1 a 4).toInt))), (vw (G.2.1 (F p0 0)))) (gst (G163.2.1 (F a 0)) (G163.2.1 (F a 1)) (G163.2.1 (F a 2)) (G163.2.1 (F a 3)) (Int.toNat (((G163.1 a 4).toInt))), (vw (G163.2.1 (F p0 0)))) := by
  have t9 := gst_p (a := G.2.1 (F a 0)) (b := G.2.1 (F a 1)) (c := G.2.1 (F a 2)) (d := G.2.1 (F a 3)) (n := (G.1 a 4).toInt) (by omega)
  rw [t9] at hiv hcz ⊢
  have hq : G.2.2.1 (F p1 0) ((aI (G.2.1 (F a 2)) ((G.1 a 4).toInt - 1))).toNat = some q47 := hs47
  have as := clsA_s (G := G) (t := (aI (G.2.1 (F a 0)) ((G.1 a 4).toInt - 1))) hq
  have ac := hac ((aI (G.2.1 (F a 2)) ((G.1 a 4).toInt - 1))).toNat q47 (by omega) hq
  have a0 : ¬ (0 < clsA G (G.2.2.1 (F p1 0)) (aI (G.2.1 (F a 2)) ((G.1 a 4).toInt - 1)) (aI (G.2.1 (F a 0)) ((G.1 a 4).toInt - 1))) := by rw [as]; split <;> omega
  have st := cgo_nx (clsTo bkn) hiv hcz (by omega) a0
  rw [d_G163_a_4, c_G163_F_a_0, c_G163_F_a_1, c_G163_F_a_2, gst_u (n := (G.1 a 4).toInt) (by omega) (aI_pu hG156 rfl e5 e155 (by omega)) (aI_pu hG163 c_G156_F_a_3 e5 (show ((0 : Int32)).toInt = 0 from by decide) (by omega)), c_G163_F_p0_0]
  exact st
theorem v_X2_goOn_164_6 {F : Nat → Nat → Nat} (p0 : Nat) (G : XG) (G163 : XG)
    (hro : RO (vw (G.2.1 (F p0 0))) (aI (G.2.1 (F p0 1))))
    (c_G163_F_p0_0 : G163.2.1 (F p0 0) = G.2.1 (F p0 0))
    (c_G163_F_p0_1 : G163.2.1 (F p0 1) = G.2.1 (F p0 1)) :
    RO (vw (G163.2.1 (F p0 0))) (aI (G163.2.1 (F p0 1))) := by
  rw [c_G163_F_p0_0, c_G163_F_p0_1]
  first | exact oq92a | exact hro
theorem v_X2_goOn_113_7 {K : Nat → Nat} {F : Nat → Nat → Nat} (a : Nat) (p0 : Nat) (p1 : Nat) (q47 : Nat) (G : XG) (x65 : Int32)
    (ha : K a = 4)
    (hp0 : K p0 = 8)
    (hp1 : K p1 = 2)
    (bkn : BKr K G (G.2.2.1 (F p1 0)))
    (hcz : CZ (clsA G (G.2.2.1 (F p1 0))) (gst (G.2.1 (F a 0)) (G.2.1 (F a 1)) (G.2.1 (F a 2)) (G.2.1 (F a 3)) (Int.toNat (((G.1 a 4).toInt))), (vw (G.2.1 (F p0 0)))).1)
    (hs47 : G.2.2.1 (F p1 0) ((aI (G.2.1 (F a 2)) (((G.1 a 4).toInt) - 1))).toNat = some q47)
    (e0 : 1 ≤ ((G.1 a 4).toInt) ∧ ((G.1 a 4).toInt) ≤ 90)
    (z0 : ((0 ≤ (aI (G.2.1 (F a 0)) (((G.1 a 4).toInt) - 1)) ∧ (aI (G.2.1 (F a 0)) (((G.1 a 4).toInt) - 1)) < 3) ∧ (0 ≤ (aI (G.2.1 (F a 1)) (((G.1 a 4).toInt) - 1)) ∧ (aI (G.2.1 (F a 1)) (((G.1 a 4).toInt) - 1)) < 30) ∧ (0 ≤ (aI (G.2.1 (F a 2)) (((G.1 a 4).toInt) - 1)) ∧ (aI (G.2.1 (F a 2)) (((G.1 a 4).toInt) - 1)) ≤ 12) ∧ (0 ≤ (aI (G.2.1 (F a 3)) (((G.1 a 4).toInt) - 1)) ∧ (aI (G.2.1 (F a 3)) (((G.1 a 4).toInt) - 1)) ≤ 30)) ∧ ((G.1 a 4).toInt) + (pn (vw (G.2.1 (F p0 0)))) ≤ 90)
    (c8 : ¬ ((((G.1 a 4).toInt) - (1 : Int)) < 0))
    (c14 : (((G.1 a 4).toInt) - (1 : Int)) < (90 : Int))
    (c26 : (aI (G.2.1 (F a 2)) (((G.1 a 4).toInt) - 1)) < (12 : Int))
    (ht47 : 0 ≤ (aI (G.2.1 (F a 2)) (((G.1 a 4).toInt) - 1)) ∧ (aI (G.2.1 (F a 2)) (((G.1 a 4).toInt) - 1)) < 12)
    (t65 : ((((G.1 q47 0).toInt) = 1 ∧ ((G.1 q47 4).toInt) = (aI (G.2.1 (F a 0)) (((G.1 a 4).toInt) - 1)) ∧ ((G.1 q47 7).toInt) ≠ 0) ∧ x65.toInt = 1) ∨ (¬ (((G.1 q47 0).toInt) = 1 ∧ ((G.1 q47 4).toInt) = (aI (G.2.1 (F a 0)) (((G.1 a 4).toInt) - 1)) ∧ ((G.1 q47 7).toInt) ≠ 0) ∧ x65.toInt = 0))
    (c68 : ¬ (x65.toInt = 0))
    (z71 : (0 ≤ ((G.1 q47 2).toInt) ∧ ((G.1 q47 2).toInt) ≤ 2) ∧ (0 ≤ ((G.1 q47 3).toInt) ∧ ((G.1 q47 3).toInt) ≤ 2))
    (c77 : ((G.1 q47 7).toInt) ≠ (2 : Int)) :
    RW (G.1 q47) := by
  exact (bkn _ q47 (by omega) hs47).2
theorem v_X2_goOn_164_8 {K : Nat → Nat} {F : Nat → Nat → Nat} (a : Nat) (p0 : Nat) (p1 : Nat) (q47 : Nat) (G156 : XG) (G : XG) (x5 : Int32) (x155 : Int32) (G163 : XG) (x113 : Int32) (x65 : Int32)
    (ha : K a = 4)
    (hp0 : K p0 = 8)
    (hp1 : K p1 = 2)
    (hG156 : G156 = cput G (F a 2) x5.toNatClampNeg x155)
    (hG163 : G163 = cput G156 (F a 3) x5.toNatClampNeg 0)
    (bkn : BKr K G (G.2.2.1 (F p1 0)))
    (hac : ACo G (G.2.2.1 (F p1 0)))
    (hiv : CIv (gst (G.2.1 (F a 0)) (G.2.1 (F a 1)) (G.2.1 (F a 2)) (G.2.1 (F a 3)) (Int.toNat (((G.1 a 4).toInt))), (vw (G.2.1 (F p0 0)))))
    (hcz : CZ (clsA G (G.2.2.1 (F p1 0))) (gst (G.2.1 (F a 0)) (G.2.1 (F a 1)) (G.2.1 (F a 2)) (G.2.1 (F a 3)) (Int.toNat (((G.1 a 4).toInt))), (vw (G.2.1 (F p0 0)))).1)
    (e5 : x5.toInt = (((G.1 a 4).toInt) - (1 : Int)))
    (hs47 : G.2.2.1 (F p1 0) ((aI (G.2.1 (F a 2)) (((G.1 a 4).toInt) - 1))).toNat = some q47)
    (oq113 : (x113.toInt = -1 ∧ ∀ j : Int, (aI (G.2.1 (F a 3)) (((G.1 a 4).toInt) - 1)) ≤ j → j < 30 → cel (vw (G.2.1 (F p0 0))) ((G.1 q47 2).toInt) j ((G.1 q47 3).toInt) ≠ (aI (G.2.1 (F a 1)) (((G.1 a 4).toInt) - 1))) ∨ (((aI (G.2.1 (F a 3)) (((G.1 a 4).toInt) - 1)) ≤ x113.toInt ∧ x113.toInt < 30) ∧ cel (vw (G.2.1 (F p0 0))) ((G.1 q47 2).toInt) x113.toInt ((G.1 q47 3).toInt) = (aI (G.2.1 (F a 1)) (((G.1 a 4).toInt) - 1)) ∧ ∀ j : Int, (aI (G.2.1 (F a 3)) (((G.1 a 4).toInt) - 1)) ≤ j → j < x113.toInt → cel (vw (G.2.1 (F p0 0))) ((G.1 q47 2).toInt) j ((G.1 q47 3).toInt) ≠ (aI (G.2.1 (F a 1)) (((G.1 a 4).toInt) - 1))))
    (e155 : x155.toInt = ((aI (G.2.1 (F a 2)) (((G.1 a 4).toInt) - 1)) + (1 : Int)))
    (e0 : 1 ≤ ((G.1 a 4).toInt) ∧ ((G.1 a 4).toInt) ≤ 90)
    (z0 : ((0 ≤ (aI (G.2.1 (F a 0)) (((G.1 a 4).toInt) - 1)) ∧ (aI (G.2.1 (F a 0)) (((G.1 a 4).toInt) - 1)) < 3) ∧ (0 ≤ (aI (G.2.1 (F a 1)) (((G.1 a 4).toInt) - 1)) ∧ (aI (G.2.1 (F a 1)) (((G.1 a 4).toInt) - 1)) < 30) ∧ (0 ≤ (aI (G.2.1 (F a 2)) (((G.1 a 4).toInt) - 1)) ∧ (aI (G.2.1 (F a 2)) (((G.1 a 4).toInt) - 1)) ≤ 12) ∧ (0 ≤ (aI (G.2.1 (F a 3)) (((G.1 a 4).toInt) - 1)) ∧ (aI (G.2.1 (F a 3)) (((G.1 a 4).toInt) - 1)) ≤ 30)) ∧ ((G.1 a 4).toInt) + (pn (vw (G.2.1 (F p0 0)))) ≤ 90)
    (c8 : ¬ ((((G.1 a 4).toInt) - (1 : Int)) < 0))
    (c14 : (((G.1 a 4).toInt) - (1 : Int)) < (90 : Int))
    (c26 : (aI (G.2.1 (F a 2)) (((G.1 a 4).toInt) - 1)) < (12 : Int))
    (ht47 : 0 ≤ (aI (G.2.1 (F a 2)) (((G.1 a 4).toInt) - 1)) ∧ (aI (G.2.1 (F a 2)) (((G.1 a 4).toInt) - 1)) < 12)
    (t65 : ((((G.1 q47 0).toInt) = 1 ∧ ((G.1 q47 4).toInt) = (aI (G.2.1 (F a 0)) (((G.1 a 4).toInt) - 1)) ∧ ((G.1 q47 7).toInt) ≠ 0) ∧ x65.toInt = 1) ∨ (¬ (((G.1 q47 0).toInt) = 1 ∧ ((G.1 q47 4).toInt) = (aI (G.2.1 (F a 0)) (((G.1 a 4).toInt) - 1)) ∧ ((G.1 q47 7).toInt) ≠ 0) ∧ x65.toInt = 0))
    (c68 : ¬ (x65.toInt = 0))
    (z71 : (0 ≤ ((G.1 q47 2).toInt) ∧ ((G.1 q47 2).toInt) ≤ 2) ∧ (0 ≤ ((G.1 q47 3).toInt) ∧ ((G.1 q47 3).toInt) ≤ 2))
    (c77 : ((G.1 q47 7).toInt) ≠ (2 : Int))
    (t113 : -1 ≤ x113.toInt ∧ x113.toInt < 30)
    (c121 : x113.toInt = (-1 : Int))
    (c_G156_F_a_3 : G156.2.1 (F a 3) = G.2.1 (F a 3))
    (c_G163_F_a_0 : G163.2.1 (F a 0) = G.2.1 (F a 0))
    (c_G163_F_a_1 : G163.2.1 (F a 1) = G.2.1 (F a 1))
    (c_G163_F_a_2 : G163.2.1 (F a 2) = G156.2.1 (F a 2))
    (c_G163_F_p0_0 : G163.2.1 (F p0 0) = G.2.1 (F p0 0))
    (d_G163_a_4 : G163.1 a 4 = G.1 a 4) :
    CGo (clsA G (G.2.2.1 (F p1 0))) (clsT G (G.2.2.1 (F p1 0))) (clsC G (G.2.2.1 (F p1 0))) (gst (G.2.1 (F a 0)) (G.2.1 (F a 1)) (G.2.1 (F a 2)) (G.2.1 (F a 3)) (Int.toNat (((G.1 a 4).toInt))), (vw (G.2.1 (F p0 0)))) (gst (G163.2.1 (F a 0)) (G163.2.1 (F a 1)) (G163.2.1 (F a 2)) (G163.2.1 (F a 3)) (Int.toNat (((G163.1 a 4).toInt))), (vw (G163.2.1 (F p0 0)))) := by
  have t9 := gst_p (a := G.2.1 (F a 0)) (b := G.2.1 (F a 1)) (c := G.2.1 (F a 2)) (d := G.2.1 (F a 3)) (n := (G.1 a 4).toInt) (by omega)
  rw [t9] at hiv hcz ⊢
  have hq : G.2.2.1 (F p1 0) ((aI (G.2.1 (F a 2)) ((G.1 a 4).toInt - 1))).toNat = some q47 := hs47
  have as := clsA_s (G := G) (t := (aI (G.2.1 (F a 0)) ((G.1 a 4).toInt - 1))) hq
  have ac := hac ((aI (G.2.1 (F a 2)) ((G.1 a 4).toInt - 1))).toNat q47 (by omega) hq
  have ts := clsT_s (G := G) hq ⟨by omega, by omega, by omega⟩
  rw [if_pos (by omega)] at as
  rcases oq113 with ⟨h0, h1⟩ | ⟨h1, -⟩
  · rw [← ts.1, ← ts.2] at h1
    have st := cgo_no (clsTo bkn) hiv hcz (by omega) (by omega) h1
    rw [d_G163_a_4, c_G163_F_a_0, c_G163_F_a_1, c_G163_F_a_2, gst_u (n := (G.1 a 4).toInt) (by omega) (aI_pu hG156 rfl e5 e155 (by omega)) (aI_pu hG163 c_G156_F_a_3 e5 (show ((0 : Int32)).toInt = 0 from by decide) (by omega)), c_G163_F_p0_0]
    exact st
  · exfalso; omega
theorem v_X2_goOn_164_9 {F : Nat → Nat → Nat} (p0 : Nat) (G : XG) (G163 : XG)
    (hro : RO (vw (G.2.1 (F p0 0))) (aI (G.2.1 (F p0 1))))
    (c_G163_F_p0_0 : G163.2.1 (F p0 0) = G.2.1 (F p0 0))
    (c_G163_F_p0_1 : G163.2.1 (F p0 1) = G.2.1 (F p0 1)) :
    RO (vw (G163.2.1 (F p0 0))) (aI (G163.2.1 (F p0 1))) := by
  rw [c_G163_F_p0_0, c_G163_F_p0_1]
  first | exact oq92a | exact hro
theorem v_X2_goOn_124_10 {K : Nat → Nat} {F : Nat → Nat → Nat} (a : Nat) (p0 : Nat) (p1 : Nat) (q47 : Nat) (G : XG) (x113 : Int32) (x65 : Int32)
    (ha : K a = 4)
    (hp0 : K p0 = 8)
    (hp1 : K p1 = 2)
    (hro : RO (vw (G.2.1 (F p0 0))) (aI (G.2.1 (F p0 1))))
    (hcz : CZ (clsA G (G.2.2.1 (F p1 0))) (gst (G.2.1 (F a 0)) (G.2.1 (F a 1)) (G.2.1 (F a 2)) (G.2.1 (F a 3)) (Int.toNat (((G.1 a 4).toInt))), (vw (G.2.1 (F p0 0)))).1)
    (hs47 : G.2.2.1 (F p1 0) ((aI (G.2.1 (F a 2)) (((G.1 a 4).toInt) - 1))).toNat = some q47)
    (oq113 : (x113.toInt = -1 ∧ ∀ j : Int, (aI (G.2.1 (F a 3)) (((G.1 a 4).toInt) - 1)) ≤ j → j < 30 → cel (vw (G.2.1 (F p0 0))) ((G.1 q47 2).toInt) j ((G.1 q47 3).toInt) ≠ (aI (G.2.1 (F a 1)) (((G.1 a 4).toInt) - 1))) ∨ (((aI (G.2.1 (F a 3)) (((G.1 a 4).toInt) - 1)) ≤ x113.toInt ∧ x113.toInt < 30) ∧ cel (vw (G.2.1 (F p0 0))) ((G.1 q47 2).toInt) x113.toInt ((G.1 q47 3).toInt) = (aI (G.2.1 (F a 1)) (((G.1 a 4).toInt) - 1)) ∧ ∀ j : Int, (aI (G.2.1 (F a 3)) (((G.1 a 4).toInt) - 1)) ≤ j → j < x113.toInt → cel (vw (G.2.1 (F p0 0))) ((G.1 q47 2).toInt) j ((G.1 q47 3).toInt) ≠ (aI (G.2.1 (F a 1)) (((G.1 a 4).toInt) - 1))))
    (e0 : 1 ≤ ((G.1 a 4).toInt) ∧ ((G.1 a 4).toInt) ≤ 90)
    (z0 : ((0 ≤ (aI (G.2.1 (F a 0)) (((G.1 a 4).toInt) - 1)) ∧ (aI (G.2.1 (F a 0)) (((G.1 a 4).toInt) - 1)) < 3) ∧ (0 ≤ (aI (G.2.1 (F a 1)) (((G.1 a 4).toInt) - 1)) ∧ (aI (G.2.1 (F a 1)) (((G.1 a 4).toInt) - 1)) < 30) ∧ (0 ≤ (aI (G.2.1 (F a 2)) (((G.1 a 4).toInt) - 1)) ∧ (aI (G.2.1 (F a 2)) (((G.1 a 4).toInt) - 1)) ≤ 12) ∧ (0 ≤ (aI (G.2.1 (F a 3)) (((G.1 a 4).toInt) - 1)) ∧ (aI (G.2.1 (F a 3)) (((G.1 a 4).toInt) - 1)) ≤ 30)) ∧ ((G.1 a 4).toInt) + (pn (vw (G.2.1 (F p0 0)))) ≤ 90)
    (c8 : ¬ ((((G.1 a 4).toInt) - (1 : Int)) < 0))
    (c14 : (((G.1 a 4).toInt) - (1 : Int)) < (90 : Int))
    (c26 : (aI (G.2.1 (F a 2)) (((G.1 a 4).toInt) - 1)) < (12 : Int))
    (ht47 : 0 ≤ (aI (G.2.1 (F a 2)) (((G.1 a 4).toInt) - 1)) ∧ (aI (G.2.1 (F a 2)) (((G.1 a 4).toInt) - 1)) < 12)
    (t65 : ((((G.1 q47 0).toInt) = 1 ∧ ((G.1 q47 4).toInt) = (aI (G.2.1 (F a 0)) (((G.1 a 4).toInt) - 1)) ∧ ((G.1 q47 7).toInt) ≠ 0) ∧ x65.toInt = 1) ∨ (¬ (((G.1 q47 0).toInt) = 1 ∧ ((G.1 q47 4).toInt) = (aI (G.2.1 (F a 0)) (((G.1 a 4).toInt) - 1)) ∧ ((G.1 q47 7).toInt) ≠ 0) ∧ x65.toInt = 0))
    (c68 : ¬ (x65.toInt = 0))
    (z71 : (0 ≤ ((G.1 q47 2).toInt) ∧ ((G.1 q47 2).toInt) ≤ 2) ∧ (0 ≤ ((G.1 q47 3).toInt) ∧ ((G.1 q47 3).toInt) ≤ 2))
    (c77 : ((G.1 q47 7).toInt) ≠ (2 : Int))
    (t113 : -1 ≤ x113.toInt ∧ x113.toInt < 30)
    (c121 : ¬ (x113.toInt = (-1 : Int))) :
    1 ≤ (pn (vw (G.2.1 (F p0 0)))) := by
  rcases oq113 with h | ⟨h1, h2, h3⟩
  · exfalso; omega
  · exact pn_pos hro.rc (by rw [h2]; omega)
theorem v_X2_goOn_143_11 {F : Nat → Nat → Nat} (p0 : Nat) (G133 : XG) (G : XG)
    (hro : RO (vw (G.2.1 (F p0 0))) (aI (G.2.1 (F p0 1))))
    (c_G133_F_p0_0 : G133.2.1 (F p0 0) = G.2.1 (F p0 0))
    (c_G133_F_p0_1 : G133.2.1 (F p0 1) = G.2.1 (F p0 1)) :
    RO (vw (G133.2.1 (F p0 0))) (aI (G133.2.1 (F p0 1))) := by simp only [c_G133_F_p0_0, c_G133_F_p0_1]; assumption
theorem v_X2_goOn_146_12 {K : Nat → Nat} {F : Nat → Nat → Nat} (a : Nat) (p0 : Nat) (p1 : Nat) (q47 : Nat) (G133 : XG) (G : XG) (x5 : Int32) (x132 : Int32) (G143 : XG) (x113 : Int32) (x65 : Int32)
    (ha : K a = 4)
    (hp0 : K p0 = 8)
    (hp1 : K p1 = 2)
    (hG133 : G133 = cput G (F a 3) x5.toNatClampNeg x132)
    (bkn : BKr K G (G.2.2.1 (F p1 0)))
    (hac : ACo G (G.2.2.1 (F p1 0)))
    (hiv : CIv (gst (G.2.1 (F a 0)) (G.2.1 (F a 1)) (G.2.1 (F a 2)) (G.2.1 (F a 3)) (Int.toNat (((G.1 a 4).toInt))), (vw (G.2.1 (F p0 0)))))
    (hcz : CZ (clsA G (G.2.2.1 (F p1 0))) (gst (G.2.1 (F a 0)) (G.2.1 (F a 1)) (G.2.1 (F a 2)) (G.2.1 (F a 3)) (Int.toNat (((G.1 a 4).toInt))), (vw (G.2.1 (F p0 0)))).1)
    (e5 : x5.toInt = (((G.1 a 4).toInt) - (1 : Int)))
    (hs47 : G.2.2.1 (F p1 0) ((aI (G.2.1 (F a 2)) (((G.1 a 4).toInt) - 1))).toNat = some q47)
    (oq113 : (x113.toInt = -1 ∧ ∀ j : Int, (aI (G.2.1 (F a 3)) (((G.1 a 4).toInt) - 1)) ≤ j → j < 30 → cel (vw (G.2.1 (F p0 0))) ((G.1 q47 2).toInt) j ((G.1 q47 3).toInt) ≠ (aI (G.2.1 (F a 1)) (((G.1 a 4).toInt) - 1))) ∨ (((aI (G.2.1 (F a 3)) (((G.1 a 4).toInt) - 1)) ≤ x113.toInt ∧ x113.toInt < 30) ∧ cel (vw (G.2.1 (F p0 0))) ((G.1 q47 2).toInt) x113.toInt ((G.1 q47 3).toInt) = (aI (G.2.1 (F a 1)) (((G.1 a 4).toInt) - 1)) ∧ ∀ j : Int, (aI (G.2.1 (F a 3)) (((G.1 a 4).toInt) - 1)) ≤ j → j < x113.toInt → cel (vw (G.2.1 (F p0 0))) ((G.1 q47 2).toInt) j ((G.1 q47 3).toInt) ≠ (aI (G.2.1 (F a 1)) (((G.1 a 4).toInt) - 1))))
    (e132 : x132.toInt = (x113.toInt + (1 : Int)))
    (oq143 : ∀ z : Int, 0 ≤ z → aI (G143.2.1 (F a 0)) z = if z = ((G.1 a 4).toInt) then ((G.1 q47 2).toInt) else aI (G.2.1 (F a 0)) z)
    (oq143a : ∀ z : Int, 0 ≤ z → aI (G143.2.1 (F a 1)) z = if z = ((G.1 a 4).toInt) then x113.toInt else aI (G.2.1 (F a 1)) z)
    (oq143b : ∀ z : Int, 0 ≤ z → aI (G143.2.1 (F a 2)) z = if z = ((G.1 a 4).toInt) then 0 else aI (G.2.1 (F a 2)) z)
    (oq143c : ∀ z : Int, 0 ≤ z → aI (G143.2.1 (F a 3)) z = if z = ((G.1 a 4).toInt) then 0 else aI (G133.2.1 (F a 3)) z)
    (oq143d : (vw (G143.2.1 (F p0 0))) = rfil (vw (G.2.1 (F p0 0))) ((G.1 q47 2).toInt) x113.toInt (-2000) 3)
    (e0 : 1 ≤ ((G.1 a 4).toInt) ∧ ((G.1 a 4).toInt) ≤ 90)
    (z0 : ((0 ≤ (aI (G.2.1 (F a 0)) (((G.1 a 4).toInt) - 1)) ∧ (aI (G.2.1 (F a 0)) (((G.1 a 4).toInt) - 1)) < 3) ∧ (0 ≤ (aI (G.2.1 (F a 1)) (((G.1 a 4).toInt) - 1)) ∧ (aI (G.2.1 (F a 1)) (((G.1 a 4).toInt) - 1)) < 30) ∧ (0 ≤ (aI (G.2.1 (F a 2)) (((G.1 a 4).toInt) - 1)) ∧ (aI (G.2.1 (F a 2)) (((G.1 a 4).toInt) - 1)) ≤ 12) ∧ (0 ≤ (aI (G.2.1 (F a 3)) (((G.1 a 4).toInt) - 1)) ∧ (aI (G.2.1 (F a 3)) (((G.1 a 4).toInt) - 1)) ≤ 30)) ∧ ((G.1 a 4).toInt) + (pn (vw (G.2.1 (F p0 0)))) ≤ 90)
    (c8 : ¬ ((((G.1 a 4).toInt) - (1 : Int)) < 0))
    (c14 : (((G.1 a 4).toInt) - (1 : Int)) < (90 : Int))
    (c26 : (aI (G.2.1 (F a 2)) (((G.1 a 4).toInt) - 1)) < (12 : Int))
    (ht47 : 0 ≤ (aI (G.2.1 (F a 2)) (((G.1 a 4).toInt) - 1)) ∧ (aI (G.2.1 (F a 2)) (((G.1 a 4).toInt) - 1)) < 12)
    (t65 : ((((G.1 q47 0).toInt) = 1 ∧ ((G.1 q47 4).toInt) = (aI (G.2.1 (F a 0)) (((G.1 a 4).toInt) - 1)) ∧ ((G.1 q47 7).toInt) ≠ 0) ∧ x65.toInt = 1) ∨ (¬ (((G.1 q47 0).toInt) = 1 ∧ ((G.1 q47 4).toInt) = (aI (G.2.1 (F a 0)) (((G.1 a 4).toInt) - 1)) ∧ ((G.1 q47 7).toInt) ≠ 0) ∧ x65.toInt = 0))
    (c68 : ¬ (x65.toInt = 0))
    (z71 : (0 ≤ ((G.1 q47 2).toInt) ∧ ((G.1 q47 2).toInt) ≤ 2) ∧ (0 ≤ ((G.1 q47 3).toInt) ∧ ((G.1 q47 3).toInt) ≤ 2))
    (c77 : ((G.1 q47 7).toInt) ≠ (2 : Int))
    (t113 : -1 ≤ x113.toInt ∧ x113.toInt < 30)
    (c121 : ¬ (x113.toInt = (-1 : Int)))
    (pp124 : 1 ≤ (pn (vw (G.2.1 (F p0 0)))))
    (t143 : ((G143.1 a 4).toInt) = ((G.1 a 4).toInt) + 1) :
    CGo (clsA G (G.2.2.1 (F p1 0))) (clsT G (G.2.2.1 (F p1 0))) (clsC G (G.2.2.1 (F p1 0))) (gst (G.2.1 (F a 0)) (G.2.1 (F a 1)) (G.2.1 (F a 2)) (G.2.1 (F a 3)) (Int.toNat (((G.1 a 4).toInt))), (vw (G.2.1 (F p0 0)))) (gst (G143.2.1 (F a 0)) (G143.2.1 (F a 1)) (G143.2.1 (F a 2)) (G143.2.1 (F a 3)) (Int.toNat (((G143.1 a 4).toInt))), (vw (G143.2.1 (F p0 0)))) := by
  have t9 := gst_p (a := G.2.1 (F a 0)) (b := G.2.1 (F a 1)) (c := G.2.1 (F a 2)) (d := G.2.1 (F a 3)) (n := (G.1 a 4).toInt) (by omega)
  rw [t9] at hiv hcz ⊢
  have hq : G.2.2.1 (F p1 0) ((aI (G.2.1 (F a 2)) ((G.1 a 4).toInt - 1))).toNat = some q47 := hs47
  have as := clsA_s (G := G) (t := (aI (G.2.1 (F a 0)) ((G.1 a 4).toInt - 1))) hq
  have ac := hac ((aI (G.2.1 (F a 2)) ((G.1 a 4).toInt - 1))).toNat q47 (by omega) hq
  have ts := clsT_s (G := G) hq ⟨by omega, by omega, by omega⟩
  rw [if_pos (by omega)] at as
  rcases oq113 with h | ⟨h1, h2, h3⟩
  · exfalso; omega
  · rw [← ts.1, ← ts.2] at h2 h3
    have st := cgo_go (clsTo bkn) hiv hcz (by omega) (by omega) (by omega) h1 h3 h2
    rw [t143, gst_g (n := (G.1 a 4).toInt) (by omega) oq143 oq143a oq143b oq143c, oq143d, gst_n (n := (G.1 a 4).toInt) (by omega) (aI_pu hG133 rfl e5 e132 (by omega)), ← ts.1]
    exact st
theorem v_X2_goOn_146_13 {F : Nat → Nat → Nat} (p0 : Nat) (G143 : XG)
    (oq143e : RO (vw (G143.2.1 (F p0 0))) (aI (G143.2.1 (F p0 1)))) :
    RO (vw (G143.2.1 (F p0 0))) (aI (G143.2.1 (F p0 1))) := by
  exact oq143e
theorem v_X2_goOn_92_14 {F : Nat → Nat → Nat} (p0 : Nat) (G : XG)
    (hro : RO (vw (G.2.1 (F p0 0))) (aI (G.2.1 (F p0 1)))) :
    RO (vw (G.2.1 (F p0 0))) (aI (G.2.1 (F p0 1))) := by exact hro
theorem v_X2_goOn_92_15 {K : Nat → Nat} {F : Nat → Nat → Nat} (a : Nat) (p0 : Nat) (p1 : Nat) (q47 : Nat) (G : XG) (x65 : Int32)
    (ha : K a = 4)
    (hp0 : K p0 = 8)
    (hp1 : K p1 = 2)
    (bkn : BKr K G (G.2.2.1 (F p1 0)))
    (hcz : CZ (clsA G (G.2.2.1 (F p1 0))) (gst (G.2.1 (F a 0)) (G.2.1 (F a 1)) (G.2.1 (F a 2)) (G.2.1 (F a 3)) (Int.toNat (((G.1 a 4).toInt))), (vw (G.2.1 (F p0 0)))).1)
    (hs47 : G.2.2.1 (F p1 0) ((aI (G.2.1 (F a 2)) (((G.1 a 4).toInt) - 1))).toNat = some q47)
    (e0 : 1 ≤ ((G.1 a 4).toInt) ∧ ((G.1 a 4).toInt) ≤ 90)
    (z0 : ((0 ≤ (aI (G.2.1 (F a 0)) (((G.1 a 4).toInt) - 1)) ∧ (aI (G.2.1 (F a 0)) (((G.1 a 4).toInt) - 1)) < 3) ∧ (0 ≤ (aI (G.2.1 (F a 1)) (((G.1 a 4).toInt) - 1)) ∧ (aI (G.2.1 (F a 1)) (((G.1 a 4).toInt) - 1)) < 30) ∧ (0 ≤ (aI (G.2.1 (F a 2)) (((G.1 a 4).toInt) - 1)) ∧ (aI (G.2.1 (F a 2)) (((G.1 a 4).toInt) - 1)) ≤ 12) ∧ (0 ≤ (aI (G.2.1 (F a 3)) (((G.1 a 4).toInt) - 1)) ∧ (aI (G.2.1 (F a 3)) (((G.1 a 4).toInt) - 1)) ≤ 30)) ∧ ((G.1 a 4).toInt) + (pn (vw (G.2.1 (F p0 0)))) ≤ 90)
    (c8 : ¬ ((((G.1 a 4).toInt) - (1 : Int)) < 0))
    (c14 : (((G.1 a 4).toInt) - (1 : Int)) < (90 : Int))
    (c26 : (aI (G.2.1 (F a 2)) (((G.1 a 4).toInt) - 1)) < (12 : Int))
    (ht47 : 0 ≤ (aI (G.2.1 (F a 2)) (((G.1 a 4).toInt) - 1)) ∧ (aI (G.2.1 (F a 2)) (((G.1 a 4).toInt) - 1)) < 12)
    (t65 : ((((G.1 q47 0).toInt) = 1 ∧ ((G.1 q47 4).toInt) = (aI (G.2.1 (F a 0)) (((G.1 a 4).toInt) - 1)) ∧ ((G.1 q47 7).toInt) ≠ 0) ∧ x65.toInt = 1) ∨ (¬ (((G.1 q47 0).toInt) = 1 ∧ ((G.1 q47 4).toInt) = (aI (G.2.1 (F a 0)) (((G.1 a 4).toInt) - 1)) ∧ ((G.1 q47 7).toInt) ≠ 0) ∧ x65.toInt = 0))
    (c68 : ¬ (x65.toInt = 0))
    (z71 : (0 ≤ ((G.1 q47 2).toInt) ∧ ((G.1 q47 2).toInt) ≤ 2) ∧ (0 ≤ ((G.1 q47 3).toInt) ∧ ((G.1 q47 3).toInt) ≤ 2))
    (c77 : ¬ (((G.1 q47 7).toInt) ≠ (2 : Int))) :
    RW (G.1 q47) := by
  exact (bkn _ q47 (by omega) hs47).2
theorem v_X2_goOn_164_16 {K : Nat → Nat} {F : Nat → Nat → Nat} (a : Nat) (p0 : Nat) (p1 : Nat) (q47 : Nat) (G : XG) (G92 : XG) (G156 : XG) (x5 : Int32) (x155 : Int32) (G163 : XG) (x65 : Int32)
    (ha : K a = 4)
    (hp0 : K p0 = 8)
    (hp1 : K p1 = 2)
    (hG156 : G156 = cput G92 (F a 2) x5.toNatClampNeg x155)
    (hG163 : G163 = cput G156 (F a 3) x5.toNatClampNeg 0)
    (bkn : BKr K G (G.2.2.1 (F p1 0)))
    (hac : ACo G (G.2.2.1 (F p1 0)))
    (hiv : CIv (gst (G.2.1 (F a 0)) (G.2.1 (F a 1)) (G.2.1 (F a 2)) (G.2.1 (F a 3)) (Int.toNat (((G.1 a 4).toInt))), (vw (G.2.1 (F p0 0)))))
    (hcz : CZ (clsA G (G.2.2.1 (F p1 0))) (gst (G.2.1 (F a 0)) (G.2.1 (F a 1)) (G.2.1 (F a 2)) (G.2.1 (F a 3)) (Int.toNat (((G.1 a 4).toInt))), (vw (G.2.1 (F p0 0)))).1)
    (e5 : x5.toInt = (((G.1 a 4).toInt) - (1 : Int)))
    (hs47 : G.2.2.1 (F p1 0) ((aI (G.2.1 (F a 2)) (((G.1 a 4).toInt) - 1))).toNat = some q47)
    (oq92 : (vw (G92.2.1 (F p0 0))) = repl (vw (G.2.1 (F p0 0))) ((G.1 q47 2).toInt) ((G.1 q47 3).toInt) (aI (G.2.1 (F a 1)) (((G.1 a 4).toInt) - 1)) (-1000 : Int) 30)
    (e155 : x155.toInt = ((aI (G.2.1 (F a 2)) (((G.1 a 4).toInt) - 1)) + (1 : Int)))
    (e0 : 1 ≤ ((G.1 a 4).toInt) ∧ ((G.1 a 4).toInt) ≤ 90)
    (z0 : ((0 ≤ (aI (G.2.1 (F a 0)) (((G.1 a 4).toInt) - 1)) ∧ (aI (G.2.1 (F a 0)) (((G.1 a 4).toInt) - 1)) < 3) ∧ (0 ≤ (aI (G.2.1 (F a 1)) (((G.1 a 4).toInt) - 1)) ∧ (aI (G.2.1 (F a 1)) (((G.1 a 4).toInt) - 1)) < 30) ∧ (0 ≤ (aI (G.2.1 (F a 2)) (((G.1 a 4).toInt) - 1)) ∧ (aI (G.2.1 (F a 2)) (((G.1 a 4).toInt) - 1)) ≤ 12) ∧ (0 ≤ (aI (G.2.1 (F a 3)) (((G.1 a 4).toInt) - 1)) ∧ (aI (G.2.1 (F a 3)) (((G.1 a 4).toInt) - 1)) ≤ 30)) ∧ ((G.1 a 4).toInt) + (pn (vw (G.2.1 (F p0 0)))) ≤ 90)
    (c8 : ¬ ((((G.1 a 4).toInt) - (1 : Int)) < 0))
    (c14 : (((G.1 a 4).toInt) - (1 : Int)) < (90 : Int))
    (c26 : (aI (G.2.1 (F a 2)) (((G.1 a 4).toInt) - 1)) < (12 : Int))
    (ht47 : 0 ≤ (aI (G.2.1 (F a 2)) (((G.1 a 4).toInt) - 1)) ∧ (aI (G.2.1 (F a 2)) (((G.1 a 4).toInt) - 1)) < 12)
    (t65 : ((((G.1 q47 0).toInt) = 1 ∧ ((G.1 q47 4).toInt) = (aI (G.2.1 (F a 0)) (((G.1 a 4).toInt) - 1)) ∧ ((G.1 q47 7).toInt) ≠ 0) ∧ x65.toInt = 1) ∨ (¬ (((G.1 q47 0).toInt) = 1 ∧ ((G.1 q47 4).toInt) = (aI (G.2.1 (F a 0)) (((G.1 a 4).toInt) - 1)) ∧ ((G.1 q47 7).toInt) ≠ 0) ∧ x65.toInt = 0))
    (c68 : ¬ (x65.toInt = 0))
    (z71 : (0 ≤ ((G.1 q47 2).toInt) ∧ ((G.1 q47 2).toInt) ≤ 2) ∧ (0 ≤ ((G.1 q47 3).toInt) ∧ ((G.1 q47 3).toInt) ≤ 2))
    (c77 : ¬ (((G.1 q47 7).toInt) ≠ (2 : Int)))
    (c_G156_F_a_3 : G156.2.1 (F a 3) = G.2.1 (F a 3))
    (c_G163_F_a_0 : G163.2.1 (F a 0) = G.2.1 (F a 0))
    (c_G163_F_a_1 : G163.2.1 (F a 1) = G.2.1 (F a 1))
    (c_G163_F_a_2 : G163.2.1 (F a 2) = G156.2.1 (F a 2))
    (c_G163_F_p0_0 : G163.2.1 (F p0 0) = G92.2.1 (F p0 0))
    (c_G92_F_a_2 : G92.2.1 (F a 2) = G.2.1 (F a 2))
    (d_G163_a_4 : G163.1 a 4 = G.1 a 4) :
    CGo (clsA G (G.2.2.1 (F p1 0))) (clsT G (G.2.2.1 (F p1 0))) (clsC G (G.2.2.1 (F p1 0))) (gst (G.2.1 (F a 0)) (G.2.1 (F a 1)) (G.2.1 (F a 2)) (G.2.1 (F a 3)) (Int.toNat (((G.1 a 4).toInt))), (vw (G.2.1 (F p0 0)))) (gst (G163.2.1 (F a 0)) (G163.2.1 (F a 1)) (G163.2.1 (F a 2)) (G163.2.1 (F a 3)) (Int.toNat (((G163.1 a 4).toInt))), (vw (G163.2.1 (F p0 0)))) := by
  have t9 := gst_p (a := G.2.1 (F a 0)) (b := G.2.1 (F a 1)) (c := G.2.1 (F a 2)) (d := G.2.1 (F a 3)) (n := (G.1 a 4).toInt) (by omega)
  rw [t9] at hiv hcz ⊢
  have hq : G.2.2.1 (F p1 0) ((aI (G.2.1 (F a 2)) ((G.1 a 4).toInt - 1))).toNat = some q47 := hs47
  have as := clsA_s (G := G) (t := (aI (G.2.1 (F a 0)) ((G.1 a 4).toInt - 1))) hq
  have ac := hac ((aI (G.2.1 (F a 2)) ((G.1 a 4).toInt - 1))).toNat q47 (by omega) hq
  have ts := clsT_s (G := G) hq ⟨by omega, by omega, by omega⟩
  rw [if_pos (by omega)] at as
  have st := cgo_cl (clsTo bkn) hiv hcz (by omega) (by omega)
  rw [ts.1, ts.2, ← oq92] at st
  rw [d_G163_a_4, c_G163_F_a_0, c_G163_F_a_1, c_G163_F_a_2, gst_u (n := (G.1 a 4).toInt) (by omega) (aI_pu hG156 c_G92_F_a_2 e5 e155 (by omega)) (aI_pu hG163 c_G156_F_a_3 e5 (show ((0 : Int32)).toInt = 0 from by decide) (by omega)), c_G163_F_p0_0]
  exact st
theorem v_X2_goOn_164_17 {F : Nat → Nat → Nat} (p0 : Nat) (G : XG) (G92 : XG) (G163 : XG)
    (hro : RO (vw (G.2.1 (F p0 0))) (aI (G.2.1 (F p0 1))))
    (oq92a : RO (vw (G92.2.1 (F p0 0))) (aI (G92.2.1 (F p0 1))))
    (c_G163_F_p0_0 : G163.2.1 (F p0 0) = G92.2.1 (F p0 0))
    (c_G163_F_p0_1 : G163.2.1 (F p0 1) = G92.2.1 (F p0 1)) :
    RO (vw (G163.2.1 (F p0 0))) (aI (G163.2.1 (F p0 1))) := by
  rw [c_G163_F_p0_0, c_G163_F_p0_1]
  first | exact oq92a | exact hro
theorem v_X2_goOn_39_18 {K : Nat → Nat} {F : Nat → Nat → Nat} (a : Nat) (p0 : Nat) (p1 : Nat) (G36 : XG) (G : XG) (x35 : Int32)
    (ha : K a = 4)
    (hp0 : K p0 = 8)
    (hp1 : K p1 = 2)
    (bkn : BKr K G (G.2.2.1 (F p1 0)))
    (hiv : CIv (gst (G.2.1 (F a 0)) (G.2.1 (F a 1)) (G.2.1 (F a 2)) (G.2.1 (F a 3)) (Int.toNat (((G.1 a 4).toInt))), (vw (G.2.1 (F p0 0)))))
    (hcz : CZ (clsA G (G.2.2.1 (F p1 0))) (gst (G.2.1 (F a 0)) (G.2.1 (F a 1)) (G.2.1 (F a 2)) (G.2.1 (F a 3)) (Int.toNat (((G.1 a 4).toInt))), (vw (G.2.1 (F p0 0)))).1)
    (e35 : x35.toInt = (((G.1 a 4).toInt) - (1 : Int)))
    (e0 : 1 ≤ ((G.1 a 4).toInt) ∧ ((G.1 a 4).toInt) ≤ 90)
    (z0 : ((0 ≤ (aI (G.2.1 (F a 0)) (((G.1 a 4).toInt) - 1)) ∧ (aI (G.2.1 (F a 0)) (((G.1 a 4).toInt) - 1)) < 3) ∧ (0 ≤ (aI (G.2.1 (F a 1)) (((G.1 a 4).toInt) - 1)) ∧ (aI (G.2.1 (F a 1)) (((G.1 a 4).toInt) - 1)) < 30) ∧ (0 ≤ (aI (G.2.1 (F a 2)) (((G.1 a 4).toInt) - 1)) ∧ (aI (G.2.1 (F a 2)) (((G.1 a 4).toInt) - 1)) ≤ 12) ∧ (0 ≤ (aI (G.2.1 (F a 3)) (((G.1 a 4).toInt) - 1)) ∧ (aI (G.2.1 (F a 3)) (((G.1 a 4).toInt) - 1)) ≤ 30)) ∧ ((G.1 a 4).toInt) + (pn (vw (G.2.1 (F p0 0)))) ≤ 90)
    (c8 : ¬ ((((G.1 a 4).toInt) - (1 : Int)) < 0))
    (c14 : (((G.1 a 4).toInt) - (1 : Int)) < (90 : Int))
    (c26 : ¬ ((aI (G.2.1 (F a 2)) (((G.1 a 4).toInt) - 1)) < (12 : Int)))
    (c_G36_F_a_0 : G36.2.1 (F a 0) = G.2.1 (F a 0))
    (c_G36_F_a_1 : G36.2.1 (F a 1) = G.2.1 (F a 1))
    (c_G36_F_a_2 : G36.2.1 (F a 2) = G.2.1 (F a 2))
    (c_G36_F_a_3 : G36.2.1 (F a 3) = G.2.1 (F a 3))
    (c_G36_F_p0_0 : G36.2.1 (F p0 0) = G.2.1 (F p0 0))
    (d_G36_a_4 : G36.1 a 4 = x35) :
    CGo (clsA G (G.2.2.1 (F p1 0))) (clsT G (G.2.2.1 (F p1 0))) (clsC G (G.2.2.1 (F p1 0))) (gst (G.2.1 (F a 0)) (G.2.1 (F a 1)) (G.2.1 (F a 2)) (G.2.1 (F a 3)) (Int.toNat (((G.1 a 4).toInt))), (vw (G.2.1 (F p0 0)))) (gst (G36.2.1 (F a 0)) (G36.2.1 (F a 1)) (G36.2.1 (F a 2)) (G36.2.1 (F a 3)) (Int.toNat (((G36.1 a 4).toInt))), (vw (G36.2.1 (F p0 0)))) := by
  have t9 := gst_p (a := G.2.1 (F a 0)) (b := G.2.1 (F a 1)) (c := G.2.1 (F a 2)) (d := G.2.1 (F a 3)) (n := (G.1 a 4).toInt) (by omega)
  rw [t9] at hiv hcz ⊢
  rw [d_G36_a_4, e35, c_G36_F_a_0, c_G36_F_a_1, c_G36_F_a_2, c_G36_F_a_3, c_G36_F_p0_0]
  exact cgo_pop (clsTo bkn) hiv hcz (by omega)
theorem v_X2_goOn_39_19 {F : Nat → Nat → Nat} (p0 : Nat) (G36 : XG) (G : XG)
    (hro : RO (vw (G.2.1 (F p0 0))) (aI (G.2.1 (F p0 1))))
    (c_G36_F_p0_0 : G36.2.1 (F p0 0) = G.2.1 (F p0 0))
    (c_G36_F_p0_1 : G36.2.1 (F p0 1) = G.2.1 (F p0 1)) :
    RO (vw (G36.2.1 (F p0 0))) (aI (G36.2.1 (F p0 1))) := by
  rw [c_G36_F_p0_0, c_G36_F_p0_1]; exact hro
theorem v_X2_goOn_17_20 {K : Nat → Nat} {F : Nat → Nat → Nat} (a : Nat) (p0 : Nat) (p1 : Nat) (G : XG)
    (ha : K a = 4)
    (hp0 : K p0 = 8)
    (hp1 : K p1 = 2)
    (hcz : CZ (clsA G (G.2.2.1 (F p1 0))) (gst (G.2.1 (F a 0)) (G.2.1 (F a 1)) (G.2.1 (F a 2)) (G.2.1 (F a 3)) (Int.toNat (((G.1 a 4).toInt))), (vw (G.2.1 (F p0 0)))).1)
    (e0 : 1 ≤ ((G.1 a 4).toInt) ∧ ((G.1 a 4).toInt) ≤ 90)
    (z0 : ((0 ≤ (aI (G.2.1 (F a 0)) (((G.1 a 4).toInt) - 1)) ∧ (aI (G.2.1 (F a 0)) (((G.1 a 4).toInt) - 1)) < 3) ∧ (0 ≤ (aI (G.2.1 (F a 1)) (((G.1 a 4).toInt) - 1)) ∧ (aI (G.2.1 (F a 1)) (((G.1 a 4).toInt) - 1)) < 30) ∧ (0 ≤ (aI (G.2.1 (F a 2)) (((G.1 a 4).toInt) - 1)) ∧ (aI (G.2.1 (F a 2)) (((G.1 a 4).toInt) - 1)) ≤ 12) ∧ (0 ≤ (aI (G.2.1 (F a 3)) (((G.1 a 4).toInt) - 1)) ∧ (aI (G.2.1 (F a 3)) (((G.1 a 4).toInt) - 1)) ≤ 30)) ∧ ((G.1 a 4).toInt) + (pn (vw (G.2.1 (F p0 0)))) ≤ 90)
    (c8 : ¬ ((((G.1 a 4).toInt) - (1 : Int)) < 0))
    (c14 : ¬ ((((G.1 a 4).toInt) - (1 : Int)) < (90 : Int))) :
    CGo (clsA G (G.2.2.1 (F p1 0))) (clsT G (G.2.2.1 (F p1 0))) (clsC G (G.2.2.1 (F p1 0))) (gst (G.2.1 (F a 0)) (G.2.1 (F a 1)) (G.2.1 (F a 2)) (G.2.1 (F a 3)) (Int.toNat (((G.1 a 4).toInt))), (vw (G.2.1 (F p0 0)))) (gst (G.2.1 (F a 0)) (G.2.1 (F a 1)) (G.2.1 (F a 2)) (G.2.1 (F a 3)) (Int.toNat (((G.1 a 4).toInt))), (vw (G.2.1 (F p0 0)))) := by
  exfalso; omega
theorem v_X2_goOn_17_21 {K : Nat → Nat} {F : Nat → Nat → Nat} (a : Nat) (p0 : Nat) (p1 : Nat) (G : XG)
    (ha : K a = 4)
    (hp0 : K p0 = 8)
    (hp1 : K p1 = 2)
    (hcz : CZ (clsA G (G.2.2.1 (F p1 0))) (gst (G.2.1 (F a 0)) (G.2.1 (F a 1)) (G.2.1 (F a 2)) (G.2.1 (F a 3)) (Int.toNat (((G.1 a 4).toInt))), (vw (G.2.1 (F p0 0)))).1)
    (e0 : 1 ≤ ((G.1 a 4).toInt) ∧ ((G.1 a 4).toInt) ≤ 90)
    (z0 : ((0 ≤ (aI (G.2.1 (F a 0)) (((G.1 a 4).toInt) - 1)) ∧ (aI (G.2.1 (F a 0)) (((G.1 a 4).toInt) - 1)) < 3) ∧ (0 ≤ (aI (G.2.1 (F a 1)) (((G.1 a 4).toInt) - 1)) ∧ (aI (G.2.1 (F a 1)) (((G.1 a 4).toInt) - 1)) < 30) ∧ (0 ≤ (aI (G.2.1 (F a 2)) (((G.1 a 4).toInt) - 1)) ∧ (aI (G.2.1 (F a 2)) (((G.1 a 4).toInt) - 1)) ≤ 12) ∧ (0 ≤ (aI (G.2.1 (F a 3)) (((G.1 a 4).toInt) - 1)) ∧ (aI (G.2.1 (F a 3)) (((G.1 a 4).toInt) - 1)) ≤ 30)) ∧ ((G.1 a 4).toInt) + (pn (vw (G.2.1 (F p0 0)))) ≤ 90)
    (c8 : ¬ ((((G.1 a 4).toInt) - (1 : Int)) < 0))
    (c14 : ¬ ((((G.1 a 4).toInt) - (1 : Int)) < (90 : Int))) :
    RO (vw (G.2.1 (F p0 0))) (aI (G.2.1 (F p0 1))) := by
  exfalso; omega
theorem v_X2_cutRow_10_1 {F : Nat → Nat → Nat} (p0 : Nat) (G : XG) (G2 : XG)
    (hro : RO (vw (G.2.1 (F p0 0))) (aI (G.2.1 (F p0 1))))
    (c_G2_F_p0_0 : G2.2.1 (F p0 0) = G.2.1 (F p0 0))
    (c_G2_F_p0_1 : G2.2.1 (F p0 1) = G.2.1 (F p0 1)) :
    RO (vw (G2.2.1 (F p0 0))) (aI (G2.2.1 (F p0 1))) := by simp only [c_G2_F_p0_0, c_G2_F_p0_1]; assumption
theorem v_X2_cutRow_13_2 {K : Nat → Nat} {F : Nat → Nat → Nat} (a : Nat) (p0 : Nat) (p1 : Nat) (G : XG) (G10 : XG) (G2 : XG) (p2 : Int32) (p3 : Int32)
    (ha : K a = 4)
    (hp0 : K p0 = 8)
    (hp1 : K p1 = 2)
    (hro : RO (vw (G.2.1 (F p0 0))) (aI (G.2.1 (F p0 1))))
    (oq10 : ∀ z : Int, 0 ≤ z → aI (G10.2.1 (F a 0)) z = if z = ((G2.1 a 4).toInt) then p2.toInt else aI (G.2.1 (F a 0)) z)
    (oq10a : ∀ z : Int, 0 ≤ z → aI (G10.2.1 (F a 1)) z = if z = ((G2.1 a 4).toInt) then p3.toInt else aI (G.2.1 (F a 1)) z)
    (oq10b : ∀ z : Int, 0 ≤ z → aI (G10.2.1 (F a 2)) z = if z = ((G2.1 a 4).toInt) then 0 else aI (G.2.1 (F a 2)) z)
    (oq10c : ∀ z : Int, 0 ≤ z → aI (G10.2.1 (F a 3)) z = if z = ((G2.1 a 4).toInt) then 0 else aI (G.2.1 (F a 3)) z)
    (oq10d : (vw (G10.2.1 (F p0 0))) = rfil (vw (G.2.1 (F p0 0))) p2.toInt p3.toInt (-2000) 3)
    (e1 : 0 ≤ p2.toInt ∧ p2.toInt < 3 ∧ 0 ≤ p3.toInt ∧ p3.toInt < 30)
    (e3 : (cel (vw (G.2.1 (F p0 0))) (p2.toInt) (p3.toInt) 0) ≠ -2000)
    (t10 : ((G10.1 a 4).toInt) = (0 : Int) + 1)
    (d_G2_a_4 : G2.1 a 4 = 0) :
    (cnv (gst (G10.2.1 (F a 0)) (G10.2.1 (F a 1)) (G10.2.1 (F a 2)) (G10.2.1 (F a 3)) (Int.toNat ((G10.1 a 4).toInt)), (vw (G10.2.1 (F p0 0))))) ≤ 1259 := by
  have e4 : (G10.1 a 4).toInt = 0 + 1 := by omega
  have z4 : (G2.1 a 4).toInt = 0 := by rw [d_G2_a_4]; decide
  rw [z4] at oq10 oq10a oq10b oq10c
  have e := gst_g (n := 0) (by decide) oq10 oq10a oq10b oq10c
  have hb := (civ_0 hro.rc (t := p2.toInt) (k := p3.toInt) (by omega) e3).2
  rw [← oq10d] at hb
  rw [e4, e]
  show 14 * pn (vw (G10.2.1 (F p0 0))) + (13 - 0 + 0) ≤ 1259
  omega
theorem v_X2_cutRow_43_3 {K : Nat → Nat} {F : Nat → Nat → Nat} (a : Nat) (p0 : Nat) (p1 : Nat) (G : XG) (G_16 : XG) (G10 : XG) (p2 : Int32) (p3 : Int32) (l5_16 : Int32) (N16 : Nat)
    (ha : K a = 4)
    (hp0 : K p0 = 8)
    (hp1 : K p1 = 2)
    (cz : CZ (clsA G (G.2.2.1 (F p1 0))) (gst (G_16.2.1 (F a 0)) (G_16.2.1 (F a 1)) (G_16.2.1 (F a 2)) (G_16.2.1 (F a 3)) (Int.toNat (((G_16.1 a 4).toInt))), (vw (G_16.2.1 (F p0 0)))).1)
    (fi : cfin (clsA G (G.2.2.1 (F p1 0))) (clsT G (G.2.2.1 (F p1 0))) (clsC G (G.2.2.1 (F p1 0))) (gst (G_16.2.1 (F a 0)) (G_16.2.1 (F a 1)) (G_16.2.1 (F a 2)) (G_16.2.1 (F a 3)) (Int.toNat (((G_16.1 a 4).toInt))), (vw (G_16.2.1 (F p0 0)))) = cfin (clsA G (G.2.2.1 (F p1 0))) (clsT G (G.2.2.1 (F p1 0))) (clsC G (G.2.2.1 (F p1 0))) ([(p2.toInt, p3.toInt, 0, 0)], rfil (vw (G.2.1 (F p0 0))) p2.toInt p3.toInt (-2000) 3))
    (e1 : 0 ≤ p2.toInt ∧ p2.toInt < 3 ∧ 0 ≤ p3.toInt ∧ p3.toInt < 30)
    (e3 : (cel (vw (G.2.1 (F p0 0))) (p2.toInt) (p3.toInt) 0) ≠ -2000)
    (t10 : ((G10.1 a 4).toInt) = (0 : Int) + 1)
    (en13 : (cnv (gst (G10.2.1 (F a 0)) (G10.2.1 (F a 1)) (G10.2.1 (F a 2)) (G10.2.1 (F a 3)) (Int.toNat ((G10.1 a 4).toInt)), (vw (G10.2.1 (F p0 0))))) ≤ 1259)
    (I16_0 : 0 ≤ l5_16.toInt ∧ l5_16.toInt ≤ 1260)
    (I16_1 : 0 ≤ ((G_16.1 a 4).toInt) ∧ ((G_16.1 a 4).toInt) ≤ 90)
    (I16_2 : l5_16.toInt + (cnv (gst (G_16.2.1 (F a 0)) (G_16.2.1 (F a 1)) (G_16.2.1 (F a 2)) (G_16.2.1 (F a 3)) (Int.toNat ((G_16.1 a 4).toInt)), (vw (G_16.2.1 (F p0 0))))) ≤ 1259)
    (I16_3 : (0 : Int) ≤ l5_16.toInt)
    (hm16 : 2147483648 - l5_16.toInt < (((N16) + 1 : Nat) : Int))
    (c21 : (1260 : Int) ≤ l5_16.toInt)
    (z43 : 0 ≤ (cnv (gst (G_16.2.1 (F a 0)) (G_16.2.1 (F a 1)) (G_16.2.1 (F a 2)) (G_16.2.1 (F a 3)) (Int.toNat ((G_16.1 a 4).toInt)), (vw (G_16.2.1 (F p0 0)))))) :
    (vw (G_16.2.1 (F p0 0))) = cfin (clsA G (G.2.2.1 (F p1 0))) (clsT G (G.2.2.1 (F p1 0))) (clsC G (G.2.2.1 (F p1 0))) ([(p2.toInt, p3.toInt, 0, 0)], rfil (vw (G.2.1 (F p0 0))) p2.toInt p3.toInt (-2000) 3) := by
  first
    | (exfalso; omega)
    | (rw [show (G_16.1 a 4).toInt = 0 from by omega] at fi
       exact (cfin_e _ _ _ _).symm.trans fi)
theorem v_X2_cutRow_43_4 {F : Nat → Nat → Nat} (p0 : Nat) (G_16 : XG)
    (ro : RO (vw (G_16.2.1 (F p0 0))) (aI (G_16.2.1 (F p0 1)))) :
    RO (vw (G_16.2.1 (F p0 0))) (aI (G_16.2.1 (F p0 1))) := by
  exact ro
theorem v_X2_cutRow_43_5 {K : Nat → Nat} {F : Nat → Nat → Nat} (a : Nat) (p0 : Nat) (p1 : Nat) (G : XG) (G_16 : XG) (G10 : XG) (p2 : Int32) (p3 : Int32) (l5_16 : Int32) (N16 : Nat)
    (ha : K a = 4)
    (hp0 : K p0 = 8)
    (hp1 : K p1 = 2)
    (cz : CZ (clsA G (G.2.2.1 (F p1 0))) (gst (G_16.2.1 (F a 0)) (G_16.2.1 (F a 1)) (G_16.2.1 (F a 2)) (G_16.2.1 (F a 3)) (Int.toNat (((G_16.1 a 4).toInt))), (vw (G_16.2.1 (F p0 0)))).1)
    (fi : cfin (clsA G (G.2.2.1 (F p1 0))) (clsT G (G.2.2.1 (F p1 0))) (clsC G (G.2.2.1 (F p1 0))) (gst (G_16.2.1 (F a 0)) (G_16.2.1 (F a 1)) (G_16.2.1 (F a 2)) (G_16.2.1 (F a 3)) (Int.toNat (((G_16.1 a 4).toInt))), (vw (G_16.2.1 (F p0 0)))) = cfin (clsA G (G.2.2.1 (F p1 0))) (clsT G (G.2.2.1 (F p1 0))) (clsC G (G.2.2.1 (F p1 0))) ([(p2.toInt, p3.toInt, 0, 0)], rfil (vw (G.2.1 (F p0 0))) p2.toInt p3.toInt (-2000) 3))
    (e1 : 0 ≤ p2.toInt ∧ p2.toInt < 3 ∧ 0 ≤ p3.toInt ∧ p3.toInt < 30)
    (e3 : (cel (vw (G.2.1 (F p0 0))) (p2.toInt) (p3.toInt) 0) ≠ -2000)
    (t10 : ((G10.1 a 4).toInt) = (0 : Int) + 1)
    (en13 : (cnv (gst (G10.2.1 (F a 0)) (G10.2.1 (F a 1)) (G10.2.1 (F a 2)) (G10.2.1 (F a 3)) (Int.toNat ((G10.1 a 4).toInt)), (vw (G10.2.1 (F p0 0))))) ≤ 1259)
    (I16_0 : 0 ≤ l5_16.toInt ∧ l5_16.toInt ≤ 1260)
    (I16_1 : 0 ≤ ((G_16.1 a 4).toInt) ∧ ((G_16.1 a 4).toInt) ≤ 90)
    (I16_2 : l5_16.toInt + (cnv (gst (G_16.2.1 (F a 0)) (G_16.2.1 (F a 1)) (G_16.2.1 (F a 2)) (G_16.2.1 (F a 3)) (Int.toNat ((G_16.1 a 4).toInt)), (vw (G_16.2.1 (F p0 0))))) ≤ 1259)
    (I16_3 : (0 : Int) ≤ l5_16.toInt)
    (hm16 : 2147483648 - l5_16.toInt < (((N16) + 1 : Nat) : Int))
    (c21 : ¬ ((1260 : Int) ≤ l5_16.toInt))
    (c28 : ((G_16.1 a 4).toInt) ≤ 0)
    (z43 : 0 ≤ (cnv (gst (G_16.2.1 (F a 0)) (G_16.2.1 (F a 1)) (G_16.2.1 (F a 2)) (G_16.2.1 (F a 3)) (Int.toNat ((G_16.1 a 4).toInt)), (vw (G_16.2.1 (F p0 0)))))) :
    (vw (G_16.2.1 (F p0 0))) = cfin (clsA G (G.2.2.1 (F p1 0))) (clsT G (G.2.2.1 (F p1 0))) (clsC G (G.2.2.1 (F p1 0))) ([(p2.toInt, p3.toInt, 0, 0)], rfil (vw (G.2.1 (F p0 0))) p2.toInt p3.toInt (-2000) 3) := by
  first
    | (exfalso; omega)
    | (rw [show (G_16.1 a 4).toInt = 0 from by omega] at fi
       exact (cfin_e _ _ _ _).symm.trans fi)
theorem v_X2_cutRow_43_6 {F : Nat → Nat → Nat} (p0 : Nat) (G_16 : XG)
    (ro : RO (vw (G_16.2.1 (F p0 0))) (aI (G_16.2.1 (F p0 1)))) :
    RO (vw (G_16.2.1 (F p0 0))) (aI (G_16.2.1 (F p0 1))) := by
  exact ro
theorem v_X2_cutRow_34_7 {F : Nat → Nat → Nat} (p0 : Nat) (G_16 : XG)
    (ro : RO (vw (G_16.2.1 (F p0 0))) (aI (G_16.2.1 (F p0 1)))) :
    RO (vw (G_16.2.1 (F p0 0))) (aI (G_16.2.1 (F p0 1))) := by exact ro
theorem v_X2_cutRow_34_8 {K : Nat → Nat} {F : Nat → Nat → Nat} (a : Nat) (p0 : Nat) (p1 : Nat) (G : XG) (G_16 : XG) (G10 : XG) (p2 : Int32) (p3 : Int32) (l5_16 : Int32) (N16 : Nat)
    (ha : K a = 4)
    (hp0 : K p0 = 8)
    (hp1 : K p1 = 2)
    (hk9999 : K (F a 0) = 24)
    (hj9999 : F (F a 0) 99 = 0)
    (hk9999a : K (F a 1) = 24)
    (hj9999a : F (F a 1) 99 = 1)
    (hk9999b : K (F a 2) = 24)
    (hj9999b : F (F a 2) 99 = 2)
    (hk9999c : K (F a 3) = 24)
    (hj9999c : F (F a 3) 99 = 3)
    (hk9999d : K (F p0 0) = 20)
    (hj9999d : F (F p0 0) 99 = F p0 99)
    (hk9999e : K (F p0 1) = 21)
    (hj9999e : F (F p0 1) 99 = F p0 99)
    (hk9999f : K (F p1 0) = 15)
    (hj9999f : F (F p1 0) 99 = 0)
    (hfr : XFr [(a, 4)] [F a 0, F a 1, F a 2, F a 3, F p0 0, F p0 1] [] G G_16)
    (bkn : BKr K G (G.2.2.1 (F p1 0)))
    (cz : CZ (clsA G (G.2.2.1 (F p1 0))) (gst (G_16.2.1 (F a 0)) (G_16.2.1 (F a 1)) (G_16.2.1 (F a 2)) (G_16.2.1 (F a 3)) (Int.toNat (((G_16.1 a 4).toInt))), (vw (G_16.2.1 (F p0 0)))).1)
    (e1 : 0 ≤ p2.toInt ∧ p2.toInt < 3 ∧ 0 ≤ p3.toInt ∧ p3.toInt < 30)
    (e3 : (cel (vw (G.2.1 (F p0 0))) (p2.toInt) (p3.toInt) 0) ≠ -2000)
    (t10 : ((G10.1 a 4).toInt) = (0 : Int) + 1)
    (en13 : (cnv (gst (G10.2.1 (F a 0)) (G10.2.1 (F a 1)) (G10.2.1 (F a 2)) (G10.2.1 (F a 3)) (Int.toNat ((G10.1 a 4).toInt)), (vw (G10.2.1 (F p0 0))))) ≤ 1259)
    (I16_0 : 0 ≤ l5_16.toInt ∧ l5_16.toInt ≤ 1260)
    (I16_1 : 0 ≤ ((G_16.1 a 4).toInt) ∧ ((G_16.1 a 4).toInt) ≤ 90)
    (I16_2 : l5_16.toInt + (cnv (gst (G_16.2.1 (F a 0)) (G_16.2.1 (F a 1)) (G_16.2.1 (F a 2)) (G_16.2.1 (F a 3)) (Int.toNat ((G_16.1 a 4).toInt)), (vw (G_16.2.1 (F p0 0))))) ≤ 1259)
    (I16_3 : (0 : Int) ≤ l5_16.toInt)
    (hm16 : 2147483648 - l5_16.toInt < (((N16) + 1 : Nat) : Int))
    (c21 : ¬ ((1260 : Int) ≤ l5_16.toInt))
    (c28 : ¬ (((G_16.1 a 4).toInt) ≤ 0))
    (r_G_16_F_p1_0 : G_16.2.2.1 (F p1 0) = G.2.2.1 (F p1 0)) :
    BKr K G_16 (G_16.2.2.1 (F p1 0)) := by
  have hd : ∀ p, p ∈ [(a, 4)] → K p.1 ≠ 9 := (List.forall_mem_cons.mpr ⟨(show K a ≠ 9 by omega), fun _ h => by cases h⟩)
  have hc : ∀ (i q : Nat), i < 12 → G.2.2.1 (F p1 0) i = some q → G_16.1 q = G.1 q := fun i q hi hq => hfr.rule hd (bkn i q hi hq).1
  rw [r_G_16_F_p1_0]
  exact bkn.cg hc
theorem v_X2_cutRow_34_9 {K : Nat → Nat} {F : Nat → Nat → Nat} (a : Nat) (p0 : Nat) (p1 : Nat) (G : XG) (G_16 : XG) (G10 : XG) (p2 : Int32) (p3 : Int32) (l5_16 : Int32) (N16 : Nat)
    (ha : K a = 4)
    (hp0 : K p0 = 8)
    (hp1 : K p1 = 2)
    (hk9999 : K (F a 0) = 24)
    (hj9999 : F (F a 0) 99 = 0)
    (hk9999a : K (F a 1) = 24)
    (hj9999a : F (F a 1) 99 = 1)
    (hk9999b : K (F a 2) = 24)
    (hj9999b : F (F a 2) 99 = 2)
    (hk9999c : K (F a 3) = 24)
    (hj9999c : F (F a 3) 99 = 3)
    (hk9999d : K (F p0 0) = 20)
    (hj9999d : F (F p0 0) 99 = F p0 99)
    (hk9999e : K (F p0 1) = 21)
    (hj9999e : F (F p0 1) 99 = F p0 99)
    (hk9999f : K (F p1 0) = 15)
    (hj9999f : F (F p1 0) 99 = 0)
    (hfr : XFr [(a, 4)] [F a 0, F a 1, F a 2, F a 3, F p0 0, F p0 1] [] G G_16)
    (bkn : BKr K G (G.2.2.1 (F p1 0)))
    (hac : ACo G (G.2.2.1 (F p1 0)))
    (cz : CZ (clsA G (G.2.2.1 (F p1 0))) (gst (G_16.2.1 (F a 0)) (G_16.2.1 (F a 1)) (G_16.2.1 (F a 2)) (G_16.2.1 (F a 3)) (Int.toNat (((G_16.1 a 4).toInt))), (vw (G_16.2.1 (F p0 0)))).1)
    (e1 : 0 ≤ p2.toInt ∧ p2.toInt < 3 ∧ 0 ≤ p3.toInt ∧ p3.toInt < 30)
    (e3 : (cel (vw (G.2.1 (F p0 0))) (p2.toInt) (p3.toInt) 0) ≠ -2000)
    (t10 : ((G10.1 a 4).toInt) = (0 : Int) + 1)
    (en13 : (cnv (gst (G10.2.1 (F a 0)) (G10.2.1 (F a 1)) (G10.2.1 (F a 2)) (G10.2.1 (F a 3)) (Int.toNat ((G10.1 a 4).toInt)), (vw (G10.2.1 (F p0 0))))) ≤ 1259)
    (I16_0 : 0 ≤ l5_16.toInt ∧ l5_16.toInt ≤ 1260)
    (I16_1 : 0 ≤ ((G_16.1 a 4).toInt) ∧ ((G_16.1 a 4).toInt) ≤ 90)
    (I16_2 : l5_16.toInt + (cnv (gst (G_16.2.1 (F a 0)) (G_16.2.1 (F a 1)) (G_16.2.1 (F a 2)) (G_16.2.1 (F a 3)) (Int.toNat ((G_16.1 a 4).toInt)), (vw (G_16.2.1 (F p0 0))))) ≤ 1259)
    (I16_3 : (0 : Int) ≤ l5_16.toInt)
    (hm16 : 2147483648 - l5_16.toInt < (((N16) + 1 : Nat) : Int))
    (c21 : ¬ ((1260 : Int) ≤ l5_16.toInt))
    (c28 : ¬ (((G_16.1 a 4).toInt) ≤ 0))
    (r_G_16_F_p1_0 : G_16.2.2.1 (F p1 0) = G.2.2.1 (F p1 0)) :
    ACo G_16 (G_16.2.2.1 (F p1 0)) := by
  have hd : ∀ p, p ∈ [(a, 4)] → K p.1 ≠ 9 := (List.forall_mem_cons.mpr ⟨(show K a ≠ 9 by omega), fun _ h => by cases h⟩)
  have hc : ∀ (i q : Nat), i < 12 → G.2.2.1 (F p1 0) i = some q → G_16.1 q = G.1 q := fun i q hi hq => hfr.rule hd (bkn i q hi hq).1
  rw [r_G_16_F_p1_0]
  exact hac.cg hc
theorem v_X2_cutRow_34_10 {F : Nat → Nat → Nat} (a : Nat) (p0 : Nat) (G_16 : XG)
    (iv : CIv (gst (G_16.2.1 (F a 0)) (G_16.2.1 (F a 1)) (G_16.2.1 (F a 2)) (G_16.2.1 (F a 3)) (Int.toNat (((G_16.1 a 4).toInt))), (vw (G_16.2.1 (F p0 0))))) :
    CIv (gst (G_16.2.1 (F a 0)) (G_16.2.1 (F a 1)) (G_16.2.1 (F a 2)) (G_16.2.1 (F a 3)) (Int.toNat (((G_16.1 a 4).toInt))), (vw (G_16.2.1 (F p0 0)))) := by
  exact iv
theorem v_X2_cutRow_34_11 {K : Nat → Nat} {F : Nat → Nat → Nat} (a : Nat) (p0 : Nat) (p1 : Nat) (G : XG) (G_16 : XG) (G10 : XG) (p2 : Int32) (p3 : Int32) (l5_16 : Int32) (N16 : Nat)
    (ha : K a = 4)
    (hp0 : K p0 = 8)
    (hp1 : K p1 = 2)
    (hk9999 : K (F a 0) = 24)
    (hj9999 : F (F a 0) 99 = 0)
    (hk9999a : K (F a 1) = 24)
    (hj9999a : F (F a 1) 99 = 1)
    (hk9999b : K (F a 2) = 24)
    (hj9999b : F (F a 2) 99 = 2)
    (hk9999c : K (F a 3) = 24)
    (hj9999c : F (F a 3) 99 = 3)
    (hk9999d : K (F p0 0) = 20)
    (hj9999d : F (F p0 0) 99 = F p0 99)
    (hk9999e : K (F p0 1) = 21)
    (hj9999e : F (F p0 1) 99 = F p0 99)
    (hk9999f : K (F p1 0) = 15)
    (hj9999f : F (F p1 0) 99 = 0)
    (hfr : XFr [(a, 4)] [F a 0, F a 1, F a 2, F a 3, F p0 0, F p0 1] [] G G_16)
    (bkn : BKr K G (G.2.2.1 (F p1 0)))
    (cz : CZ (clsA G (G.2.2.1 (F p1 0))) (gst (G_16.2.1 (F a 0)) (G_16.2.1 (F a 1)) (G_16.2.1 (F a 2)) (G_16.2.1 (F a 3)) (Int.toNat (((G_16.1 a 4).toInt))), (vw (G_16.2.1 (F p0 0)))).1)
    (e1 : 0 ≤ p2.toInt ∧ p2.toInt < 3 ∧ 0 ≤ p3.toInt ∧ p3.toInt < 30)
    (e3 : (cel (vw (G.2.1 (F p0 0))) (p2.toInt) (p3.toInt) 0) ≠ -2000)
    (t10 : ((G10.1 a 4).toInt) = (0 : Int) + 1)
    (en13 : (cnv (gst (G10.2.1 (F a 0)) (G10.2.1 (F a 1)) (G10.2.1 (F a 2)) (G10.2.1 (F a 3)) (Int.toNat ((G10.1 a 4).toInt)), (vw (G10.2.1 (F p0 0))))) ≤ 1259)
    (I16_0 : 0 ≤ l5_16.toInt ∧ l5_16.toInt ≤ 1260)
    (I16_1 : 0 ≤ ((G_16.1 a 4).toInt) ∧ ((G_16.1 a 4).toInt) ≤ 90)
    (I16_2 : l5_16.toInt + (cnv (gst (G_16.2.1 (F a 0)) (G_16.2.1 (F a 1)) (G_16.2.1 (F a 2)) (G_16.2.1 (F a 3)) (Int.toNat ((G_16.1 a 4).toInt)), (vw (G_16.2.1 (F p0 0))))) ≤ 1259)
    (I16_3 : (0 : Int) ≤ l5_16.toInt)
    (hm16 : 2147483648 - l5_16.toInt < (((N16) + 1 : Nat) : Int))
    (c21 : ¬ ((1260 : Int) ≤ l5_16.toInt))
    (c28 : ¬ (((G_16.1 a 4).toInt) ≤ 0))
    (r_G_16_F_p1_0 : G_16.2.2.1 (F p1 0) = G.2.2.1 (F p1 0)) :
    CZ (clsA G_16 (G_16.2.2.1 (F p1 0))) (gst (G_16.2.1 (F a 0)) (G_16.2.1 (F a 1)) (G_16.2.1 (F a 2)) (G_16.2.1 (F a 3)) (Int.toNat (((G_16.1 a 4).toInt))), (vw (G_16.2.1 (F p0 0)))).1 := by
  have hd : ∀ p, p ∈ [(a, 4)] → K p.1 ≠ 9 := (List.forall_mem_cons.mpr ⟨(show K a ≠ 9 by omega), fun _ h => by cases h⟩)
  have hc : ∀ (i q : Nat), i < 12 → G.2.2.1 (F p1 0) i = some q → G_16.1 q = G.1 q := fun i q hi hq => hfr.rule hd (bkn i q hi hq).1
  rw [r_G_16_F_p1_0, (cls_cg hc).1]
  exact cz
theorem v_X2_cutRow_40_12 {F : Nat → Nat → Nat} (a : Nat) (p0 : Nat) (p1 : Nat) (G34 : XG) (G_16 : XG)
    (oq34 : CGo (clsA G_16 (G_16.2.2.1 (F p1 0))) (clsT G_16 (G_16.2.2.1 (F p1 0))) (clsC G_16 (G_16.2.2.1 (F p1 0))) (gst (G_16.2.1 (F a 0)) (G_16.2.1 (F a 1)) (G_16.2.1 (F a 2)) (G_16.2.1 (F a 3)) (Int.toNat (((G_16.1 a 4).toInt))), (vw (G_16.2.1 (F p0 0)))) (gst (G34.2.1 (F a 0)) (G34.2.1 (F a 1)) (G34.2.1 (F a 2)) (G34.2.1 (F a 3)) (Int.toNat (((G34.1 a 4).toInt))), (vw (G34.2.1 (F p0 0))))) :
    CIv (gst (G34.2.1 (F a 0)) (G34.2.1 (F a 1)) (G34.2.1 (F a 2)) (G34.2.1 (F a 3)) (Int.toNat (((G34.1 a 4).toInt))), (vw (G34.2.1 (F p0 0)))) := by
  exact oq34.1
theorem v_X2_cutRow_40_13 {K : Nat → Nat} {F : Nat → Nat → Nat} (a : Nat) (p0 : Nat) (p1 : Nat) (G : XG) (G34 : XG) (G10 : XG) (G_16 : XG) (p2 : Int32) (p3 : Int32) (l5_16 : Int32) (N16 : Nat)
    (ha : K a = 4)
    (hp0 : K p0 = 8)
    (hp1 : K p1 = 2)
    (hk9999 : K (F a 0) = 24)
    (hj9999 : F (F a 0) 99 = 0)
    (hk9999a : K (F a 1) = 24)
    (hj9999a : F (F a 1) 99 = 1)
    (hk9999b : K (F a 2) = 24)
    (hj9999b : F (F a 2) 99 = 2)
    (hk9999c : K (F a 3) = 24)
    (hj9999c : F (F a 3) 99 = 3)
    (hk9999d : K (F p0 0) = 20)
    (hj9999d : F (F p0 0) 99 = F p0 99)
    (hk9999e : K (F p0 1) = 21)
    (hj9999e : F (F p0 1) 99 = F p0 99)
    (hk9999f : K (F p1 0) = 15)
    (hj9999f : F (F p1 0) 99 = 0)
    (hfr : XFr [(a, 4)] [F a 0, F a 1, F a 2, F a 3, F p0 0, F p0 1] [] G G34)
    (hF34 : XFr [(a, 4)] [F a 0, F a 1, F a 2, F a 3, F p0 0, F p0 1] [] G_16 G34)
    (bkn : BKr K G (G.2.2.1 (F p1 0)))
    (cz : CZ (clsA G (G.2.2.1 (F p1 0))) (gst (G_16.2.1 (F a 0)) (G_16.2.1 (F a 1)) (G_16.2.1 (F a 2)) (G_16.2.1 (F a 3)) (Int.toNat (((G_16.1 a 4).toInt))), (vw (G_16.2.1 (F p0 0)))).1)
    (oq34 : CGo (clsA G_16 (G_16.2.2.1 (F p1 0))) (clsT G_16 (G_16.2.2.1 (F p1 0))) (clsC G_16 (G_16.2.2.1 (F p1 0))) (gst (G_16.2.1 (F a 0)) (G_16.2.1 (F a 1)) (G_16.2.1 (F a 2)) (G_16.2.1 (F a 3)) (Int.toNat (((G_16.1 a 4).toInt))), (vw (G_16.2.1 (F p0 0)))) (gst (G34.2.1 (F a 0)) (G34.2.1 (F a 1)) (G34.2.1 (F a 2)) (G34.2.1 (F a 3)) (Int.toNat (((G34.1 a 4).toInt))), (vw (G34.2.1 (F p0 0)))))
    (e1 : 0 ≤ p2.toInt ∧ p2.toInt < 3 ∧ 0 ≤ p3.toInt ∧ p3.toInt < 30)
    (e3 : (cel (vw (G.2.1 (F p0 0))) (p2.toInt) (p3.toInt) 0) ≠ -2000)
    (t10 : ((G10.1 a 4).toInt) = (0 : Int) + 1)
    (en13 : (cnv (gst (G10.2.1 (F a 0)) (G10.2.1 (F a 1)) (G10.2.1 (F a 2)) (G10.2.1 (F a 3)) (Int.toNat ((G10.1 a 4).toInt)), (vw (G10.2.1 (F p0 0))))) ≤ 1259)
    (I16_0 : 0 ≤ l5_16.toInt ∧ l5_16.toInt ≤ 1260)
    (I16_1 : 0 ≤ ((G_16.1 a 4).toInt) ∧ ((G_16.1 a 4).toInt) ≤ 90)
    (I16_2 : l5_16.toInt + (cnv (gst (G_16.2.1 (F a 0)) (G_16.2.1 (F a 1)) (G_16.2.1 (F a 2)) (G_16.2.1 (F a 3)) (Int.toNat ((G_16.1 a 4).toInt)), (vw (G_16.2.1 (F p0 0))))) ≤ 1259)
    (I16_3 : (0 : Int) ≤ l5_16.toInt)
    (hm16 : 2147483648 - l5_16.toInt < (((N16) + 1 : Nat) : Int))
    (c21 : ¬ ((1260 : Int) ≤ l5_16.toInt))
    (c28 : ¬ (((G_16.1 a 4).toInt) ≤ 0))
    (t34 : 0 ≤ ((G34.1 a 4).toInt) ∧ ((G34.1 a 4).toInt) ≤ 90)
    (z37 : (cnv (gst (G34.2.1 (F a 0)) (G34.2.1 (F a 1)) (G34.2.1 (F a 2)) (G34.2.1 (F a 3)) (Int.toNat ((G34.1 a 4).toInt)), (vw (G34.2.1 (F p0 0))))) = (cnv (gst (G_16.2.1 (F a 0)) (G_16.2.1 (F a 1)) (G_16.2.1 (F a 2)) (G_16.2.1 (F a 3)) (Int.toNat ((G_16.1 a 4).toInt)), (vw (G_16.2.1 (F p0 0))))) - 1)
    (r_G_16_F_p1_0 : G_16.2.2.1 (F p1 0) = G.2.2.1 (F p1 0)) :
    CZ (clsA G (G.2.2.1 (F p1 0))) (gst (G34.2.1 (F a 0)) (G34.2.1 (F a 1)) (G34.2.1 (F a 2)) (G34.2.1 (F a 3)) (Int.toNat (((G34.1 a 4).toInt))), (vw (G34.2.1 (F p0 0)))).1 := by
  have hd : ∀ p, p ∈ [(a, 4)] → K p.1 ≠ 9 := (List.forall_mem_cons.mpr ⟨(show K a ≠ 9 by omega), fun _ h => by cases h⟩)
  have hc : ∀ (i q : Nat), i < 12 → G.2.2.1 (F p1 0) i = some q → G_16.1 q = G.1 q := fun i q hi hq => (hF34.rule hd (bkn i q hi hq).1).symm.trans (hfr.rule hd (bkn i q hi hq).1)
  have o := oq34.2.1
  rw [r_G_16_F_p1_0, (cls_cg hc).1] at o
  exact o
theorem v_X2_cutRow_40_14 {K : Nat → Nat} {F : Nat → Nat → Nat} (a : Nat) (p0 : Nat) (p1 : Nat) (G : XG) (G34 : XG) (G10 : XG) (G_16 : XG) (p2 : Int32) (p3 : Int32) (l5_16 : Int32) (N16 : Nat)
    (ha : K a = 4)
    (hp0 : K p0 = 8)
    (hp1 : K p1 = 2)
    (hk9999 : K (F a 0) = 24)
    (hj9999 : F (F a 0) 99 = 0)
    (hk9999a : K (F a 1) = 24)
    (hj9999a : F (F a 1) 99 = 1)
    (hk9999b : K (F a 2) = 24)
    (hj9999b : F (F a 2) 99 = 2)
    (hk9999c : K (F a 3) = 24)
    (hj9999c : F (F a 3) 99 = 3)
    (hk9999d : K (F p0 0) = 20)
    (hj9999d : F (F p0 0) 99 = F p0 99)
    (hk9999e : K (F p0 1) = 21)
    (hj9999e : F (F p0 1) 99 = F p0 99)
    (hk9999f : K (F p1 0) = 15)
    (hj9999f : F (F p1 0) 99 = 0)
    (hfr : XFr [(a, 4)] [F a 0, F a 1, F a 2, F a 3, F p0 0, F p0 1] [] G G34)
    (hF34 : XFr [(a, 4)] [F a 0, F a 1, F a 2, F a 3, F p0 0, F p0 1] [] G_16 G34)
    (bkn : BKr K G (G.2.2.1 (F p1 0)))
    (cz : CZ (clsA G (G.2.2.1 (F p1 0))) (gst (G_16.2.1 (F a 0)) (G_16.2.1 (F a 1)) (G_16.2.1 (F a 2)) (G_16.2.1 (F a 3)) (Int.toNat (((G_16.1 a 4).toInt))), (vw (G_16.2.1 (F p0 0)))).1)
    (fi : cfin (clsA G (G.2.2.1 (F p1 0))) (clsT G (G.2.2.1 (F p1 0))) (clsC G (G.2.2.1 (F p1 0))) (gst (G_16.2.1 (F a 0)) (G_16.2.1 (F a 1)) (G_16.2.1 (F a 2)) (G_16.2.1 (F a 3)) (Int.toNat (((G_16.1 a 4).toInt))), (vw (G_16.2.1 (F p0 0)))) = cfin (clsA G (G.2.2.1 (F p1 0))) (clsT G (G.2.2.1 (F p1 0))) (clsC G (G.2.2.1 (F p1 0))) ([(p2.toInt, p3.toInt, 0, 0)], rfil (vw (G.2.1 (F p0 0))) p2.toInt p3.toInt (-2000) 3))
    (oq34 : CGo (clsA G_16 (G_16.2.2.1 (F p1 0))) (clsT G_16 (G_16.2.2.1 (F p1 0))) (clsC G_16 (G_16.2.2.1 (F p1 0))) (gst (G_16.2.1 (F a 0)) (G_16.2.1 (F a 1)) (G_16.2.1 (F a 2)) (G_16.2.1 (F a 3)) (Int.toNat (((G_16.1 a 4).toInt))), (vw (G_16.2.1 (F p0 0)))) (gst (G34.2.1 (F a 0)) (G34.2.1 (F a 1)) (G34.2.1 (F a 2)) (G34.2.1 (F a 3)) (Int.toNat (((G34.1 a 4).toInt))), (vw (G34.2.1 (F p0 0)))))
    (e1 : 0 ≤ p2.toInt ∧ p2.toInt < 3 ∧ 0 ≤ p3.toInt ∧ p3.toInt < 30)
    (e3 : (cel (vw (G.2.1 (F p0 0))) (p2.toInt) (p3.toInt) 0) ≠ -2000)
    (t10 : ((G10.1 a 4).toInt) = (0 : Int) + 1)
    (en13 : (cnv (gst (G10.2.1 (F a 0)) (G10.2.1 (F a 1)) (G10.2.1 (F a 2)) (G10.2.1 (F a 3)) (Int.toNat ((G10.1 a 4).toInt)), (vw (G10.2.1 (F p0 0))))) ≤ 1259)
    (I16_0 : 0 ≤ l5_16.toInt ∧ l5_16.toInt ≤ 1260)
    (I16_1 : 0 ≤ ((G_16.1 a 4).toInt) ∧ ((G_16.1 a 4).toInt) ≤ 90)
    (I16_2 : l5_16.toInt + (cnv (gst (G_16.2.1 (F a 0)) (G_16.2.1 (F a 1)) (G_16.2.1 (F a 2)) (G_16.2.1 (F a 3)) (Int.toNat ((G_16.1 a 4).toInt)), (vw (G_16.2.1 (F p0 0))))) ≤ 1259)
    (I16_3 : (0 : Int) ≤ l5_16.toInt)
    (hm16 : 2147483648 - l5_16.toInt < (((N16) + 1 : Nat) : Int))
    (c21 : ¬ ((1260 : Int) ≤ l5_16.toInt))
    (c28 : ¬ (((G_16.1 a 4).toInt) ≤ 0))
    (t34 : 0 ≤ ((G34.1 a 4).toInt) ∧ ((G34.1 a 4).toInt) ≤ 90)
    (z37 : (cnv (gst (G34.2.1 (F a 0)) (G34.2.1 (F a 1)) (G34.2.1 (F a 2)) (G34.2.1 (F a 3)) (Int.toNat ((G34.1 a 4).toInt)), (vw (G34.2.1 (F p0 0))))) = (cnv (gst (G_16.2.1 (F a 0)) (G_16.2.1 (F a 1)) (G_16.2.1 (F a 2)) (G_16.2.1 (F a 3)) (Int.toNat ((G_16.1 a 4).toInt)), (vw (G_16.2.1 (F p0 0))))) - 1)
    (r_G_16_F_p1_0 : G_16.2.2.1 (F p1 0) = G.2.2.1 (F p1 0)) :
    cfin (clsA G (G.2.2.1 (F p1 0))) (clsT G (G.2.2.1 (F p1 0))) (clsC G (G.2.2.1 (F p1 0))) (gst (G34.2.1 (F a 0)) (G34.2.1 (F a 1)) (G34.2.1 (F a 2)) (G34.2.1 (F a 3)) (Int.toNat (((G34.1 a 4).toInt))), (vw (G34.2.1 (F p0 0)))) = cfin (clsA G (G.2.2.1 (F p1 0))) (clsT G (G.2.2.1 (F p1 0))) (clsC G (G.2.2.1 (F p1 0))) ([(p2.toInt, p3.toInt, 0, 0)], rfil (vw (G.2.1 (F p0 0))) p2.toInt p3.toInt (-2000) 3) := by
  have hd : ∀ p, p ∈ [(a, 4)] → K p.1 ≠ 9 := (List.forall_mem_cons.mpr ⟨(show K a ≠ 9 by omega), fun _ h => by cases h⟩)
  have hc : ∀ (i q : Nat), i < 12 → G.2.2.1 (F p1 0) i = some q → G_16.1 q = G.1 q := fun i q hi hq => (hF34.rule hd (bkn i q hi hq).1).symm.trans (hfr.rule hd (bkn i q hi hq).1)
  have o := oq34.2.2.1
  rw [r_G_16_F_p1_0, (cls_cg hc).1, (cls_cg hc).2.1, (cls_cg hc).2.2] at o
  exact o.trans fi
theorem v_X2_cutRow_40_15 {F : Nat → Nat → Nat} (p0 : Nat) (G34 : XG)
    (oq34a : RO (vw (G34.2.1 (F p0 0))) (aI (G34.2.1 (F p0 1)))) :
    RO (vw (G34.2.1 (F p0 0))) (aI (G34.2.1 (F p0 1))) := by
  exact oq34a
theorem v_X2_cutRow_14_16 {K : Nat → Nat} {F : Nat → Nat → Nat} (a : Nat) (p0 : Nat) (p1 : Nat) (G : XG) (G10 : XG) (G2 : XG) (p2 : Int32) (p3 : Int32)
    (ha : K a = 4)
    (hp0 : K p0 = 8)
    (hp1 : K p1 = 2)
    (hro : RO (vw (G.2.1 (F p0 0))) (aI (G.2.1 (F p0 1))))
    (oq10 : ∀ z : Int, 0 ≤ z → aI (G10.2.1 (F a 0)) z = if z = ((G2.1 a 4).toInt) then p2.toInt else aI (G.2.1 (F a 0)) z)
    (oq10a : ∀ z : Int, 0 ≤ z → aI (G10.2.1 (F a 1)) z = if z = ((G2.1 a 4).toInt) then p3.toInt else aI (G.2.1 (F a 1)) z)
    (oq10b : ∀ z : Int, 0 ≤ z → aI (G10.2.1 (F a 2)) z = if z = ((G2.1 a 4).toInt) then 0 else aI (G.2.1 (F a 2)) z)
    (oq10c : ∀ z : Int, 0 ≤ z → aI (G10.2.1 (F a 3)) z = if z = ((G2.1 a 4).toInt) then 0 else aI (G.2.1 (F a 3)) z)
    (oq10d : (vw (G10.2.1 (F p0 0))) = rfil (vw (G.2.1 (F p0 0))) p2.toInt p3.toInt (-2000) 3)
    (e1 : 0 ≤ p2.toInt ∧ p2.toInt < 3 ∧ 0 ≤ p3.toInt ∧ p3.toInt < 30)
    (e3 : (cel (vw (G.2.1 (F p0 0))) (p2.toInt) (p3.toInt) 0) ≠ -2000)
    (t10 : ((G10.1 a 4).toInt) = (0 : Int) + 1)
    (en13 : (cnv (gst (G10.2.1 (F a 0)) (G10.2.1 (F a 1)) (G10.2.1 (F a 2)) (G10.2.1 (F a 3)) (Int.toNat ((G10.1 a 4).toInt)), (vw (G10.2.1 (F p0 0))))) ≤ 1259)
    (d_G2_a_4 : G2.1 a 4 = 0) :
    CIv (gst (G10.2.1 (F a 0)) (G10.2.1 (F a 1)) (G10.2.1 (F a 2)) (G10.2.1 (F a 3)) (Int.toNat (((G10.1 a 4).toInt))), (vw (G10.2.1 (F p0 0)))) := by
  have e4 : (G10.1 a 4).toInt = 0 + 1 := by omega
  have z4 : (G2.1 a 4).toInt = 0 := by rw [d_G2_a_4]; decide
  rw [z4] at oq10 oq10a oq10b oq10c
  have e := gst_g (n := 0) (by decide) oq10 oq10a oq10b oq10c
  rw [e4, e, oq10d]
  exact (civ_0 hro.rc (by omega) e3).1
theorem v_X2_cutRow_14_17 {K : Nat → Nat} {F : Nat → Nat → Nat} (a : Nat) (p0 : Nat) (p1 : Nat) (G : XG) (G10 : XG) (G2 : XG) (p2 : Int32) (p3 : Int32)
    (ha : K a = 4)
    (hp0 : K p0 = 8)
    (hp1 : K p1 = 2)
    (oq10 : ∀ z : Int, 0 ≤ z → aI (G10.2.1 (F a 0)) z = if z = ((G2.1 a 4).toInt) then p2.toInt else aI (G.2.1 (F a 0)) z)
    (oq10a : ∀ z : Int, 0 ≤ z → aI (G10.2.1 (F a 1)) z = if z = ((G2.1 a 4).toInt) then p3.toInt else aI (G.2.1 (F a 1)) z)
    (oq10b : ∀ z : Int, 0 ≤ z → aI (G10.2.1 (F a 2)) z = if z = ((G2.1 a 4).toInt) then 0 else aI (G.2.1 (F a 2)) z)
    (oq10c : ∀ z : Int, 0 ≤ z → aI (G10.2.1 (F a 3)) z = if z = ((G2.1 a 4).toInt) then 0 else aI (G.2.1 (F a 3)) z)
    (e1 : 0 ≤ p2.toInt ∧ p2.toInt < 3 ∧ 0 ≤ p3.toInt ∧ p3.toInt < 30)
    (e3 : (cel (vw (G.2.1 (F p0 0))) (p2.toInt) (p3.toInt) 0) ≠ -2000)
    (t10 : ((G10.1 a 4).toInt) = (0 : Int) + 1)
    (en13 : (cnv (gst (G10.2.1 (F a 0)) (G10.2.1 (F a 1)) (G10.2.1 (F a 2)) (G10.2.1 (F a 3)) (Int.toNat ((G10.1 a 4).toInt)), (vw (G10.2.1 (F p0 0))))) ≤ 1259)
    (d_G2_a_4 : G2.1 a 4 = 0) :
    CZ (clsA G (G.2.2.1 (F p1 0))) (gst (G10.2.1 (F a 0)) (G10.2.1 (F a 1)) (G10.2.1 (F a 2)) (G10.2.1 (F a 3)) (Int.toNat (((G10.1 a 4).toInt))), (vw (G10.2.1 (F p0 0)))).1 := by
  have e4 : (G10.1 a 4).toInt = 0 + 1 := by omega
  have z4 : (G2.1 a 4).toInt = 0 := by rw [d_G2_a_4]; decide
  rw [z4] at oq10 oq10a oq10b oq10c
  have e := gst_g (n := 0) (by decide) oq10 oq10a oq10b oq10c
  rw [e4, e]
  exact CZ.cons (fun _ h => by cases h) (fun _ => rfl)
theorem v_X2_cutRow_14_18 {K : Nat → Nat} {F : Nat → Nat → Nat} (a : Nat) (p0 : Nat) (p1 : Nat) (G : XG) (G10 : XG) (G2 : XG) (p2 : Int32) (p3 : Int32)
    (ha : K a = 4)
    (hp0 : K p0 = 8)
    (hp1 : K p1 = 2)
    (oq10 : ∀ z : Int, 0 ≤ z → aI (G10.2.1 (F a 0)) z = if z = ((G2.1 a 4).toInt) then p2.toInt else aI (G.2.1 (F a 0)) z)
    (oq10a : ∀ z : Int, 0 ≤ z → aI (G10.2.1 (F a 1)) z = if z = ((G2.1 a 4).toInt) then p3.toInt else aI (G.2.1 (F a 1)) z)
    (oq10b : ∀ z : Int, 0 ≤ z → aI (G10.2.1 (F a 2)) z = if z = ((G2.1 a 4).toInt) then 0 else aI (G.2.1 (F a 2)) z)
    (oq10c : ∀ z : Int, 0 ≤ z → aI (G10.2.1 (F a 3)) z = if z = ((G2.1 a 4).toInt) then 0 else aI (G.2.1 (F a 3)) z)
    (oq10d : (vw (G10.2.1 (F p0 0))) = rfil (vw (G.2.1 (F p0 0))) p2.toInt p3.toInt (-2000) 3)
    (e1 : 0 ≤ p2.toInt ∧ p2.toInt < 3 ∧ 0 ≤ p3.toInt ∧ p3.toInt < 30)
    (e3 : (cel (vw (G.2.1 (F p0 0))) (p2.toInt) (p3.toInt) 0) ≠ -2000)
    (t10 : ((G10.1 a 4).toInt) = (0 : Int) + 1)
    (en13 : (cnv (gst (G10.2.1 (F a 0)) (G10.2.1 (F a 1)) (G10.2.1 (F a 2)) (G10.2.1 (F a 3)) (Int.toNat ((G10.1 a 4).toInt)), (vw (G10.2.1 (F p0 0))))) ≤ 1259)
    (d_G2_a_4 : G2.1 a 4 = 0) :
    cfin (clsA G (G.2.2.1 (F p1 0))) (clsT G (G.2.2.1 (F p1 0))) (clsC G (G.2.2.1 (F p1 0))) (gst (G10.2.1 (F a 0)) (G10.2.1 (F a 1)) (G10.2.1 (F a 2)) (G10.2.1 (F a 3)) (Int.toNat (((G10.1 a 4).toInt))), (vw (G10.2.1 (F p0 0)))) = cfin (clsA G (G.2.2.1 (F p1 0))) (clsT G (G.2.2.1 (F p1 0))) (clsC G (G.2.2.1 (F p1 0))) ([(p2.toInt, p3.toInt, 0, 0)], rfil (vw (G.2.1 (F p0 0))) p2.toInt p3.toInt (-2000) 3) := by
  have e4 : (G10.1 a 4).toInt = 0 + 1 := by omega
  have z4 : (G2.1 a 4).toInt = 0 := by rw [d_G2_a_4]; decide
  rw [z4] at oq10 oq10a oq10b oq10c
  have e := gst_g (n := 0) (by decide) oq10 oq10a oq10b oq10c
  rw [e4, e, oq10d]
  rfl
theorem v_X2_cutRow_14_19 {F : Nat → Nat → Nat} (p0 : Nat) (G10 : XG)
    (oq10e : RO (vw (G10.2.1 (F p0 0))) (aI (G10.2.1 (F p0 1)))) :
    RO (vw (G10.2.1 (F p0 0))) (aI (G10.2.1 (F p0 1))) := by
  exact oq10e
theorem z_X2_goOn_1 (a0 : Int) (h0 : 1 ≤ a0 ∧ a0 ≤ 90) : 0 < a0 := by omega
theorem z_X2_goOn_2 (a0 : Int) (a1 : Int) (h0 : 1 ≤ a1 ∧ a1 ≤ 90) (h1 : a0 = (a1 - (1 : Int)) ∨ (a1 - (1 : Int)) < -2147483648 ∨ 2147483648 ≤ (a1 - (1 : Int))) : a0 = (a1 - (1 : Int)) := by omega
theorem z_X2_goOn_3 (a0 : Int) (h0 : 1 ≤ a0 ∧ a0 ≤ 90) : 0 ≤ a0 ∧ a0 ≤ 90 := by omega
theorem z_X2_goOn_4 (a0 : Int) (h0 : 1 ≤ a0 ∧ a0 ≤ 90) : 0 ≤ (a0 - (1 : Int)) ∧ (a0 - (1 : Int)) < ((90 : Nat) : Int) := by omega
theorem z_X2_goOn_5 (a0 : Int) : (a0 - (1 : Int)) = a0 - 1 := by omega
theorem z_X2_goOn_10 (a0 : Int) (a1 : Int) (a2 : Int) (a3 : Int) (a4 : Int) (a5 : Int) (a6 : Int) (h0 : ((0 ≤ a2 ∧ a2 < 3) ∧ (0 ≤ a3 ∧ a3 < 30) ∧ (0 ≤ a4 ∧ a4 ≤ 12) ∧ (0 ≤ a5 ∧ a5 ≤ 30)) ∧ a1 + a6 ≤ 90) (h1 : a0 = (a4 + (1 : Int)) ∨ (a4 + (1 : Int)) < -2147483648 ∨ 2147483648 ≤ (a4 + (1 : Int))) : a0 = (a4 + (1 : Int)) := by omega
theorem z_X2_goOn_22 (a0 : Int) (a1 : Int) (a2 : Int) (a3 : Int) (a4 : Int) (a5 : Int) (h0 : ((0 ≤ a1 ∧ a1 < 3) ∧ (0 ≤ a2 ∧ a2 < 30) ∧ (0 ≤ a3 ∧ a3 ≤ 12) ∧ (0 ≤ a4 ∧ a4 ≤ 30)) ∧ a0 + a5 ≤ 90) (h1 : a3 < (12 : Int)) : 0 ≤ a3 ∧ a3 < 12 := by omega
theorem z_X2_goOn_27 (a0 : Int) (a1 : Int) (a2 : Int) (a3 : Int) (a4 : Int) (a5 : Int) (h0 : ((0 ≤ a1 ∧ a1 < 3) ∧ (0 ≤ a2 ∧ a2 < 30) ∧ (0 ≤ a3 ∧ a3 ≤ 12) ∧ (0 ≤ a4 ∧ a4 ≤ 30)) ∧ a0 + a5 ≤ 90) : 0 ≤ a4 ∧ a4 ≤ 30 := by omega
theorem z_X2_goOn_34 (a0 : Int) (a1 : Int) (h0 : -1 ≤ a0 ∧ a0 < 30) (h1 : a1 = (a0 + (1 : Int)) ∨ (a0 + (1 : Int)) < -2147483648 ∨ 2147483648 ≤ (a0 + (1 : Int))) : a1 = (a0 + (1 : Int)) := by omega
theorem z_X2_goOn_36 (a0 : Int) (a1 : Int) (a2 : Int) (h0 : (0 ≤ a1 ∧ a1 ≤ 2) ∧ (0 ≤ a2 ∧ a2 ≤ 2)) (h1 : -1 ≤ a0 ∧ a0 < 30) (h2 : ¬ (a0 = (-1 : Int))) : 0 ≤ a1 ∧ a1 < 3 ∧ 0 ≤ a0 ∧ a0 < 30 := by omega
theorem z_X2_goOn_37 (a0 : Int) (a1 : Int) (a2 : Int) (a3 : Int) (a4 : Int) (a5 : Int) (h0 : 1 ≤ a0 ∧ a0 ≤ 90) (h1 : ((0 ≤ a1 ∧ a1 < 3) ∧ (0 ≤ a2 ∧ a2 < 30) ∧ (0 ≤ a3 ∧ a3 ≤ 12) ∧ (0 ≤ a4 ∧ a4 ≤ 30)) ∧ a0 + a5 ≤ 90) (h2 : 1 ≤ a5) : 0 ≤ a0 ∧ a0 < 90 := by omega
theorem z_X2_goOn_38 (a0 : Int) (a1 : Int) (a2 : Int) (a3 : Int) (a4 : Int) (a5 : Int) (a6 : Int) (h0 : 1 ≤ a0 ∧ a0 ≤ 90) (h1 : ((0 ≤ a2 ∧ a2 < 3) ∧ (0 ≤ a3 ∧ a3 < 30) ∧ (0 ≤ a4 ∧ a4 ≤ 12) ∧ (0 ≤ a5 ∧ a5 ≤ 30)) ∧ a0 + a6 ≤ 90) (h2 : 1 ≤ a6) (h3 : a1 = a0 + 1) : 0 ≤ a1 ∧ a1 ≤ 90 := by omega
theorem z_X2_goOn_41 (a0 : Int) (a1 : Int) (a2 : Int) (a3 : Int) (a4 : Int) (a5 : Int) (h0 : ((0 ≤ a1 ∧ a1 < 3) ∧ (0 ≤ a2 ∧ a2 < 30) ∧ (0 ≤ a3 ∧ a3 ≤ 12) ∧ (0 ≤ a4 ∧ a4 ≤ 30)) ∧ a0 + a5 ≤ 90) : 0 ≤ a2 ∧ a2 < 30 := by omega
theorem z_X2_goOn_49 (a0 : Int) (h0 : 1 ≤ a0 ∧ a0 ≤ 90) : 0 ≤ (a0 - (1 : Int)) ∧ (a0 - (1 : Int)) ≤ 90 := by omega
abbrev rm_X2_goOn : Room := { frames := 4, cells := 0, slots := 0, locals := 90 }
set_option maxHeartbeats 4000000 in
set_option maxRecDepth 100000 in
theorem c_X2_goOn (l : Launch) (E : XE) (K : Nat → Nat) (F : Nat → Nat → Nat) (G : XG) (a : Nat) (p0 : Nat) (p1 : Nat) (ha : K a = 4) (hp0 : K p0 = 8) (hp1 : K p1 = 2) (e0 : 1 ≤ ((G.1 a 4).toInt) ∧ ((G.1 a 4).toInt) ≤ 90) (hro : RO (vw (G.2.1 (F p0 0))) (aI (G.2.1 (F p0 1)))) (bkn : BKr K G (G.2.2.1 (F p1 0))) (hac : ACo G (G.2.2.1 (F p1 0))) (hiv : CIv (gst (G.2.1 (F a 0)) (G.2.1 (F a 1)) (G.2.1 (F a 2)) (G.2.1 (F a 3)) (Int.toNat (((G.1 a 4).toInt))), (vw (G.2.1 (F p0 0))))) (hcz : CZ (clsA G (G.2.2.1 (F p1 0))) (gst (G.2.1 (F a 0)) (G.2.1 (F a 1)) (G.2.1 (F a 2)) (G.2.1 (F a 3)) (Int.toNat (((G.1 a 4).toInt))), (vw (G.2.1 (F p0 0)))).1) : Met l yX2_goOn (xw yX2_goOn cX2_goOn 6 none) rm_X2_goOn (va_Pc [.ref a, .ref p0, .ref p1] (XP E K F G)) (XQv E (fun (u : XG) => XFr [(a, 4)] [F a 0, F a 1, F a 2, F a 3, F p0 0, F p0 1] [] G u ∧ (0 ≤ ((u.1 a 4).toInt) ∧ ((u.1 a 4).toInt) ≤ 90) ∧ (CGo (clsA G (G.2.2.1 (F p1 0))) (clsT G (G.2.2.1 (F p1 0))) (clsC G (G.2.2.1 (F p1 0))) (gst (G.2.1 (F a 0)) (G.2.1 (F a 1)) (G.2.1 (F a 2)) (G.2.1 (F a 3)) (Int.toNat (((G.1 a 4).toInt))), (vw (G.2.1 (F p0 0)))) (gst (u.2.1 (F a 0)) (u.2.1 (F a 1)) (u.2.1 (F a 2)) (u.2.1 (F a 3)) (Int.toNat (((u.1 a 4).toInt))), (vw (u.2.1 (F p0 0))))) ∧ (RO (vw (u.2.1 (F p0 0))) (aI (u.2.1 (F p0 1))))) (fun u H => TW E K F u H)) 0 0 (xA E) := by
  refine x_enter (by decide) (Nat.le_of_ble_eq_true rfl) ?_
  intro p e s m args below meth c Q S hr hlk hnm hQ hP ls hl
  obtain ⟨hz, hK, hT⟩ := hP
  obtain ⟨hx, hb, -, -, -⟩ := id S
  obtain ⟨H, hT, hS, hgo⟩ : ∃ H : Heap, TW E K F G H ∧ va_S (xA E) s.heap H [] ∧ H = s.heap := ⟨_, hT, va_S.rf, rfl⟩
  rw [← hgo]
  have hl : lv_has ls 6 [(0, .ref a), (1, .ref p0), (2, .ref p1)] := hl
  obtain ⟨hk9999, hj9999⟩ := fkX2_0 hT ha
  obtain ⟨hk9999a, hj9999a⟩ := fkX2_1 hT ha
  obtain ⟨hk9999b, hj9999b⟩ := fkX2_2 hT ha
  obtain ⟨hk9999c, hj9999c⟩ := fkX2_3 hT ha
  obtain ⟨hk9999d, hj9999d⟩ := fkX6_0 hT hp0
  obtain ⟨hk9999e, hj9999e⟩ := fkX6_1 hT hp0
  obtain ⟨hk9999f, hj9999f⟩ := fkX0_0 hT hp1
  have z0 : ((0 ≤ (aI (G.2.1 (F a 0)) (((G.1 a 4).toInt) - 1)) ∧ (aI (G.2.1 (F a 0)) (((G.1 a 4).toInt) - 1)) < 3) ∧ (0 ≤ (aI (G.2.1 (F a 1)) (((G.1 a 4).toInt) - 1)) ∧ (aI (G.2.1 (F a 1)) (((G.1 a 4).toInt) - 1)) < 30) ∧ (0 ≤ (aI (G.2.1 (F a 2)) (((G.1 a 4).toInt) - 1)) ∧ (aI (G.2.1 (F a 2)) (((G.1 a 4).toInt) - 1)) ≤ 12) ∧ (0 ≤ (aI (G.2.1 (F a 3)) (((G.1 a 4).toInt) - 1)) ∧ (aI (G.2.1 (F a 3)) (((G.1 a 4).toInt) - 1)) ≤ 30)) ∧ ((G.1 a 4).toInt) + (pn (vw (G.2.1 (F p0 0)))) ≤ 90 := gst_top (z_X2_goOn_1 ((G.1 a 4).toInt) e0) hiv
  refine lv_aload_n hx hb dX2_goOn_0 rfl (lv_at hl 0 rfl) ?_
  refine gX2_4 S hK hT ha kf_X2_24 dX2_goOn_1 (v := (G.1 a 4)) rfl (?_)
  refine lv_iconst (v := 1) hx hb dX2_goOn_4 (by decide) ?_
  refine xi_isub hx hb (rfl : Int32.toInt (G.1 a 4) = ((G.1 a 4).toInt)) ((by decide) : Int32.toInt 1 = (1 : Int)) dX2_goOn_5 (fun x5 t5 => ?_)
  have e5 : x5.toInt = (((G.1 a 4).toInt) - (1 : Int)) := (z_X2_goOn_2 x5.toInt ((G.1 a 4).toInt) e0 t5)
  refine lv_istore_n (lv' := [(3, .int x5), (0, .ref a), (1, .ref p0), (2, .ref p1)]) hx hb dX2_goOn_6 rfl hl (by decide) rfl (fun ls hl => ?_)
  refine lv_iload_n hx hb dX2_goOn_7 rfl (lv_at hl 0 rfl) ?_
  refine xi_zlt (tgt := 17) hx hb (e5 : Int32.toInt x5 = (((G.1 a 4).toInt) - (1 : Int))) dX2_goOn_8 (by decide) (fun c8 => ?_) (fun c8 => ?_)
  · exact x_rv hx hb hr hlk hQ (Nat.le_of_ble_eq_true rfl) (Nat.le_of_ble_eq_true rfl) hS dX2_goOn_17 G ⟨XFr.rf, (z_X2_goOn_3 ((G.1 a 4).toInt) e0), (v_X2_goOn_17_1 (K := K) (F := F) a p0 p1 G ha hp0 hp1 hcz e0 z0 c8), (v_X2_goOn_17_2 (K := K) (F := F) a p0 p1 G ha hp0 hp1 hcz e0 z0 c8)⟩ hT
  · refine lv_iload_n hx hb dX2_goOn_11 rfl (lv_at hl 0 rfl) ?_
    refine lv_bipush (v := 90) hx hb dX2_goOn_12 (by decide) ?_
    refine xi_clt (tgt := 18) hx hb (e5 : Int32.toInt x5 = (((G.1 a 4).toInt) - (1 : Int))) ((by decide) : Int32.toInt 90 = (90 : Int)) dX2_goOn_14 (by decide) (fun c14 => ?_) (fun c14 => ?_)
    · refine lv_aload_n hx hb dX2_goOn_18 rfl (lv_at hl 1 rfl) ?_
      refine gX2_2 S hK hT ha kf_X2_18 dX2_goOn_19 (fun _ _ => ?_)
      refine lv_iload_n hx hb dX2_goOn_22 rfl (lv_at hl 0 rfl) ?_
      refine al_0 S hK hT hk9999b ar_24 (by decide) (by rw [(e5 : Int32.toInt x5 = (((G.1 a 4).toInt) - (1 : Int)))]; exact (z_X2_goOn_4 ((G.1 a 4).toInt) e0)) dX2_goOn_23 (fun x23 hv23 o23 => ?_)
      have hv23 : x23.toInt = (aI (G.2.1 (F a 2)) (((G.1 a 4).toInt) - 1)) := hv23.trans (by rw [((e5 : Int32.toInt x5 = (((G.1 a 4).toInt) - (1 : Int))).trans (z_X2_goOn_5 ((G.1 a 4).toInt)))])
      refine lv_bipush (v := 12) hx hb dX2_goOn_24 (by decide) ?_
      refine xi_clt (tgt := 40) hx hb (hv23 : Int32.toInt x23 = (aI (G.2.1 (F a 2)) (((G.1 a 4).toInt) - 1))) ((by decide) : Int32.toInt 12 = (12 : Int)) dX2_goOn_26 (by decide) (fun c26 => ?_) (fun c26 => ?_)
      · refine lv_aload_n hx hb dX2_goOn_40 rfl (lv_at hl 3 rfl) ?_
        refine lv_aload_n hx hb dX2_goOn_41 rfl (lv_at hl 1 rfl) ?_
        refine gX2_2 S hK hT ha kf_X2_18 dX2_goOn_42 (fun _ _ => ?_)
        refine lv_iload_n hx hb dX2_goOn_45 rfl (lv_at hl 0 rfl) ?_
        refine al_0 S hK hT hk9999b ar_24 (by decide) (by rw [(e5 : Int32.toInt x5 = (((G.1 a 4).toInt) - (1 : Int)))]; exact (z_X2_goOn_4 ((G.1 a 4).toInt) e0)) dX2_goOn_46 (fun x46 hv46 o46 => ?_)
        have hv46 : x46.toInt = (aI (G.2.1 (F a 2)) (((G.1 a 4).toInt) - 1)) := hv46.trans (by rw [((e5 : Int32.toInt x5 = (((G.1 a 4).toInt) - (1 : Int))).trans (z_X2_goOn_5 ((G.1 a 4).toInt)))])
        refine x_clp (x_runV (b := p1) (As := [.int x46]) (rest := []) S (c_X0_get l E K F G H p1 x46 hp1) mv_X0_get km_X2_42 rfl rfl ⟨Nat.le_of_ble_eq_true rfl, Nat.le_of_ble_eq_true rfl⟩ (rc_2 hK hT hp1) hK (fun _ => XPh.blind) (fun U hU hW => XPh.at hK hz hS hT hU hW) rfl hl.1 (Nat.le_of_ble_eq_true rfl) dX2_goOn_47 ⟨Nat.le_of_ble_eq_true rfl, Nat.le_of_ble_eq_true rfl⟩) hS ?_
        rintro _ _ locs (⟨rfl, hn47⟩ | ⟨q47, rfl, hk47, ht47, hs47⟩) hS
        · have hn47 : ((aI (G.2.1 (F a 2)) (((G.1 a 4).toInt) - 1)) < 0 ∨ 12 ≤ (aI (G.2.1 (F a 2)) (((G.1 a 4).toInt) - 1))) ∨ G.2.2.1 (F p1 0) ((aI (G.2.1 (F a 2)) (((G.1 a 4).toInt) - 1))).toNat = none := by rw [(hv46 : Int32.toInt x46 = (aI (G.2.1 (F a 2)) (((G.1 a 4).toInt) - 1)))] at hn47; exact hn47
          refine lv_astoreN (lv' := [(4, .null), (3, .int x5), (0, .ref a), (1, .ref p0), (2, .ref p1)]) hx hb dX2_goOn_50 hl (by decide) rfl (fun ls hl => ?_)
          refine lv_aloadN hx hb dX2_goOn_52 (lv_at hl 0 rfl) ?_
          refine lv_ifnullN (tgt := 147) hx hb dX2_goOn_54 (by decide) ?_
          refine lv_aload_n hx hb dX2_goOn_147 rfl (lv_at hl 2 rfl) ?_
          refine gX2_2 S hK hT ha kf_X2_18 dX2_goOn_148 (fun _ _ => ?_)
          refine lv_iload_n hx hb dX2_goOn_151 rfl (lv_at hl 1 rfl) ?_
          refine lv_dup2_11 hx hb dX2_goOn_152 rfl rfl ?_
          refine al_0 S hK hT hk9999b ar_24 (by decide) (by rw [(e5 : Int32.toInt x5 = (((G.1 a 4).toInt) - (1 : Int)))]; exact (z_X2_goOn_4 ((G.1 a 4).toInt) e0)) dX2_goOn_153 (fun x153 hv153 o153 => ?_)
          have hv153 : x153.toInt = (aI (G.2.1 (F a 2)) (((G.1 a 4).toInt) - 1)) := hv153.trans (by rw [((e5 : Int32.toInt x5 = (((G.1 a 4).toInt) - (1 : Int))).trans (z_X2_goOn_5 ((G.1 a 4).toInt)))])
          refine lv_iconst (v := 1) hx hb dX2_goOn_154 (by decide) ?_
          refine xi_iadd hx hb (hv153 : Int32.toInt x153 = (aI (G.2.1 (F a 2)) (((G.1 a 4).toInt) - 1))) ((by decide) : Int32.toInt 1 = (1 : Int)) dX2_goOn_155 (fun x155 t155 => ?_)
          have e155 : x155.toInt = ((aI (G.2.1 (F a 2)) (((G.1 a 4).toInt) - 1)) + (1 : Int)) := (z_X2_goOn_10 x155.toInt ((G.1 a 4).toInt) (aI (G.2.1 (F a 0)) (((G.1 a 4).toInt) - 1)) (aI (G.2.1 (F a 1)) (((G.1 a 4).toInt) - 1)) (aI (G.2.1 (F a 2)) (((G.1 a 4).toInt) - 1)) (aI (G.2.1 (F a 3)) (((G.1 a 4).toInt) - 1)) (pn (vw (G.2.1 (F p0 0)))) z0 t155)
          refine as_0 (x := x155) S hK hT hS hk9999b ar_24 aw_24 (by decide) (by rw [(e5 : Int32.toInt x5 = (((G.1 a 4).toInt) - (1 : Int)))]; exact (z_X2_goOn_4 ((G.1 a 4).toInt) e0)) dX2_goOn_156 (fun H locs hT hS => ?_)
          obtain ⟨G156, hG156⟩ : ∃ GG : XG, GG = cput G (F a 2) x5.toNatClampNeg x155 := ⟨_, rfl⟩
          rw [← hG156] at hT
          refine lv_aload_n hx hb dX2_goOn_157 rfl (lv_at hl 2 rfl) ?_
          refine gX2_3 S hK hT ha kf_X2_21 dX2_goOn_158 (fun _ _ => ?_)
          refine lv_iload_n hx hb dX2_goOn_161 rfl (lv_at hl 1 rfl) ?_
          refine lv_iconst (v := 0) hx hb dX2_goOn_162 (by decide) ?_
          refine as_0 (x := 0) S hK hT hS hk9999c ar_24 aw_24 (by decide) (by rw [(e5 : Int32.toInt x5 = (((G.1 a 4).toInt) - (1 : Int)))]; exact (z_X2_goOn_4 ((G.1 a 4).toInt) e0)) dX2_goOn_163 (fun H locs hT hS => ?_)
          obtain ⟨G163, hG163⟩ : ∃ GG : XG, GG = cput G156 (F a 3) x5.toNatClampNeg 0 := ⟨_, rfl⟩
          rw [← hG163] at hT
          exact x_rv hx hb hr hlk hQ (Nat.le_of_ble_eq_true rfl) (Nat.le_of_ble_eq_true rfl) hS dX2_goOn_164 G163 ⟨(by rw [hG163]; exact XFr.cput (by rw [hG156]; exact XFr.cput XFr.rf (List.mem_of_getElem? (i := 2) rfl)) (List.mem_of_getElem? (i := 3) rfl)), (by rw [(show (G163.1 a 4).toInt = ((G.1 a 4).toInt) from (congrArg Int32.toInt ((lc_d hG163).trans (lc_d hG156))).trans (rfl : Int32.toInt (G.1 a 4) = ((G.1 a 4).toInt)))] <;> exact (z_X2_goOn_3 ((G.1 a 4).toInt) e0)), (v_X2_goOn_164_3 (K := K) (F := F) a p0 p1 G156 G x5 x155 G163 ha hp0 hp1 hG156 hG163 bkn hiv hcz e5 hn47 e155 e0 z0 c8 c14 c26 (lc_c hG156 (xne_j hj9999c hj9999b (by first | decide | omega))) ((lc_c hG163 (xne_j hj9999 hj9999c (by first | decide | omega))).trans (lc_c hG156 (xne_j hj9999 hj9999b (by first | decide | omega)))) ((lc_c hG163 (xne_j hj9999a hj9999c (by first | decide | omega))).trans (lc_c hG156 (xne_j hj9999a hj9999b (by first | decide | omega)))) (lc_c hG163 (xne_j hj9999b hj9999c (by first | decide | omega))) ((lc_c hG163 (xne_k hk9999d hk9999c (by decide))).trans (lc_c hG156 (xne_k hk9999d hk9999b (by decide)))) ((lc_d hG163).trans (lc_d hG156))), (v_X2_goOn_164_4 (F := F) p0 G G163 hro ((lc_c hG163 (xne_k hk9999d hk9999c (by decide))).trans (lc_c hG156 (xne_k hk9999d hk9999b (by decide)))) ((lc_c hG163 (xne_k hk9999e hk9999c (by decide))).trans (lc_c hG156 (xne_k hk9999e hk9999b (by decide)))))⟩ hT
        · have ht47 : 0 ≤ (aI (G.2.1 (F a 2)) (((G.1 a 4).toInt) - 1)) ∧ (aI (G.2.1 (F a 2)) (((G.1 a 4).toInt) - 1)) < 12 := by rw [(hv46 : Int32.toInt x46 = (aI (G.2.1 (F a 2)) (((G.1 a 4).toInt) - 1)))] at ht47; exact ht47
          have hs47 : G.2.2.1 (F p1 0) ((aI (G.2.1 (F a 2)) (((G.1 a 4).toInt) - 1))).toNat = some q47 := by rw [(hv46 : Int32.toInt x46 = (aI (G.2.1 (F a 2)) (((G.1 a 4).toInt) - 1)))] at hs47; exact hs47
          refine lv_astore (lv' := [(4, .ref q47), (3, .int x5), (0, .ref a), (1, .ref p0), (2, .ref p1)]) hx hb dX2_goOn_50 hl (by decide) rfl (fun ls hl => ?_)
          refine lv_aload hx hb dX2_goOn_52 (lv_at hl 0 rfl) ?_
          refine lv_ifnull hx hb dX2_goOn_54 ?_
          refine lv_aload hx hb dX2_goOn_57 (lv_at hl 0 rfl) ?_
          refine lv_aload_n hx hb dX2_goOn_59 rfl (lv_at hl 2 rfl) ?_
          refine gX2_0 S hK hT ha kf_X2_11 dX2_goOn_60 (fun _ _ => ?_)
          refine lv_iload_n hx hb dX2_goOn_63 rfl (lv_at hl 1 rfl) ?_
          refine al_0 S hK hT hk9999 ar_24 (by decide) (by rw [(e5 : Int32.toInt x5 = (((G.1 a 4).toInt) - (1 : Int)))]; exact (z_X2_goOn_4 ((G.1 a 4).toInt) e0)) dX2_goOn_64 (fun x64 hv64 o64 => ?_)
          have hv64 : x64.toInt = (aI (G.2.1 (F a 0)) (((G.1 a 4).toInt) - 1)) := hv64.trans (by rw [((e5 : Int32.toInt x5 = (((G.1 a 4).toInt) - (1 : Int))).trans (z_X2_goOn_5 ((G.1 a 4).toInt)))])
          refine x_clp (x_runV (b := q47) (As := [.int x64]) (rest := []) S (c_X7_follows l E K F G H q47 x64 hk47) mv_X7_follows km_X2_48 rfl rfl ⟨Nat.le_of_ble_eq_true rfl, Nat.le_of_ble_eq_true rfl⟩ (rc_9 hK hT hk47) hK (fun _ => XPh.blind) (fun U hU hW => XPh.at hK hz hS hT hU hW) rfl hl.1 (Nat.le_of_ble_eq_true rfl) dX2_goOn_65 ⟨Nat.le_of_ble_eq_true rfl, Nat.le_of_ble_eq_true rfl⟩) hS ?_
          rintro _ _ locs ⟨x65, rfl, b65, t65⟩ hS
          have t65 : ((((G.1 q47 0).toInt) = 1 ∧ ((G.1 q47 4).toInt) = (aI (G.2.1 (F a 0)) (((G.1 a 4).toInt) - 1)) ∧ ((G.1 q47 7).toInt) ≠ 0) ∧ x65.toInt = 1) ∨ (¬ (((G.1 q47 0).toInt) = 1 ∧ ((G.1 q47 4).toInt) = (aI (G.2.1 (F a 0)) (((G.1 a 4).toInt) - 1)) ∧ ((G.1 q47 7).toInt) ≠ 0) ∧ x65.toInt = 0) := by rw [(hv64 : Int32.toInt x64 = (aI (G.2.1 (F a 0)) (((G.1 a 4).toInt) - 1)))] at t65; exact t65
          refine xi_zeq (tgt := 147) hx hb (rfl : Int32.toInt x65 = x65.toInt) dX2_goOn_68 (by decide) (fun c68 => ?_) (fun c68 => ?_)
          · refine lv_aload_n hx hb dX2_goOn_147 rfl (lv_at hl 2 rfl) ?_
            refine gX2_2 S hK hT ha kf_X2_18 dX2_goOn_148 (fun _ _ => ?_)
            refine lv_iload_n hx hb dX2_goOn_151 rfl (lv_at hl 1 rfl) ?_
            refine lv_dup2_11 hx hb dX2_goOn_152 rfl rfl ?_
            refine al_0 S hK hT hk9999b ar_24 (by decide) (by rw [(e5 : Int32.toInt x5 = (((G.1 a 4).toInt) - (1 : Int)))]; exact (z_X2_goOn_4 ((G.1 a 4).toInt) e0)) dX2_goOn_153 (fun x153 hv153 o153 => ?_)
            have hv153 : x153.toInt = (aI (G.2.1 (F a 2)) (((G.1 a 4).toInt) - 1)) := hv153.trans (by rw [((e5 : Int32.toInt x5 = (((G.1 a 4).toInt) - (1 : Int))).trans (z_X2_goOn_5 ((G.1 a 4).toInt)))])
            refine lv_iconst (v := 1) hx hb dX2_goOn_154 (by decide) ?_
            refine xi_iadd hx hb (hv153 : Int32.toInt x153 = (aI (G.2.1 (F a 2)) (((G.1 a 4).toInt) - 1))) ((by decide) : Int32.toInt 1 = (1 : Int)) dX2_goOn_155 (fun x155 t155 => ?_)
            have e155 : x155.toInt = ((aI (G.2.1 (F a 2)) (((G.1 a 4).toInt) - 1)) + (1 : Int)) := (z_X2_goOn_10 x155.toInt ((G.1 a 4).toInt) (aI (G.2.1 (F a 0)) (((G.1 a 4).toInt) - 1)) (aI (G.2.1 (F a 1)) (((G.1 a 4).toInt) - 1)) (aI (G.2.1 (F a 2)) (((G.1 a 4).toInt) - 1)) (aI (G.2.1 (F a 3)) (((G.1 a 4).toInt) - 1)) (pn (vw (G.2.1 (F p0 0)))) z0 t155)
            refine as_0 (x := x155) S hK hT hS hk9999b ar_24 aw_24 (by decide) (by rw [(e5 : Int32.toInt x5 = (((G.1 a 4).toInt) - (1 : Int)))]; exact (z_X2_goOn_4 ((G.1 a 4).toInt) e0)) dX2_goOn_156 (fun H locs hT hS => ?_)
            obtain ⟨G156, hG156⟩ : ∃ GG : XG, GG = cput G (F a 2) x5.toNatClampNeg x155 := ⟨_, rfl⟩
            rw [← hG156] at hT
            refine lv_aload_n hx hb dX2_goOn_157 rfl (lv_at hl 2 rfl) ?_
            refine gX2_3 S hK hT ha kf_X2_21 dX2_goOn_158 (fun _ _ => ?_)
            refine lv_iload_n hx hb dX2_goOn_161 rfl (lv_at hl 1 rfl) ?_
            refine lv_iconst (v := 0) hx hb dX2_goOn_162 (by decide) ?_
            refine as_0 (x := 0) S hK hT hS hk9999c ar_24 aw_24 (by decide) (by rw [(e5 : Int32.toInt x5 = (((G.1 a 4).toInt) - (1 : Int)))]; exact (z_X2_goOn_4 ((G.1 a 4).toInt) e0)) dX2_goOn_163 (fun H locs hT hS => ?_)
            obtain ⟨G163, hG163⟩ : ∃ GG : XG, GG = cput G156 (F a 3) x5.toNatClampNeg 0 := ⟨_, rfl⟩
            rw [← hG163] at hT
            exact x_rv hx hb hr hlk hQ (Nat.le_of_ble_eq_true rfl) (Nat.le_of_ble_eq_true rfl) hS dX2_goOn_164 G163 ⟨(by rw [hG163]; exact XFr.cput (by rw [hG156]; exact XFr.cput XFr.rf (List.mem_of_getElem? (i := 2) rfl)) (List.mem_of_getElem? (i := 3) rfl)), (by rw [(show (G163.1 a 4).toInt = ((G.1 a 4).toInt) from (congrArg Int32.toInt ((lc_d hG163).trans (lc_d hG156))).trans (rfl : Int32.toInt (G.1 a 4) = ((G.1 a 4).toInt)))] <;> exact (z_X2_goOn_3 ((G.1 a 4).toInt) e0)), (v_X2_goOn_164_5 (K := K) (F := F) a p0 p1 q47 G156 G x5 x155 G163 x65 ha hp0 hp1 hG156 hG163 bkn hac hiv hcz e5 hs47 e155 e0 z0 c8 c14 c26 ht47 t65 c68 (lc_c hG156 (xne_j hj9999c hj9999b (by first | decide | omega))) ((lc_c hG163 (xne_j hj9999 hj9999c (by first | decide | omega))).trans (lc_c hG156 (xne_j hj9999 hj9999b (by first | decide | omega)))) ((lc_c hG163 (xne_j hj9999a hj9999c (by first | decide | omega))).trans (lc_c hG156 (xne_j hj9999a hj9999b (by first | decide | omega)))) (lc_c hG163 (xne_j hj9999b hj9999c (by first | decide | omega))) ((lc_c hG163 (xne_k hk9999d hk9999c (by decide))).trans (lc_c hG156 (xne_k hk9999d hk9999b (by decide)))) ((lc_d hG163).trans (lc_d hG156))), (v_X2_goOn_164_6 (F := F) p0 G G163 hro ((lc_c hG163 (xne_k hk9999d hk9999c (by decide))).trans (lc_c hG156 (xne_k hk9999d hk9999b (by decide)))) ((lc_c hG163 (xne_k hk9999e hk9999c (by decide))).trans (lc_c hG156 (xne_k hk9999e hk9999b (by decide)))))⟩ hT
          · have z71 : (0 ≤ ((G.1 q47 2).toInt) ∧ ((G.1 q47 2).toInt) ≤ 2) ∧ (0 ≤ ((G.1 q47 3).toInt) ∧ ((G.1 q47 3).toInt) ≤ 2) := (fun h => ⟨h.2.1, h.2.2.1⟩) (bkn _ q47 (toNat_lt12 (z_X2_goOn_22 ((G.1 a 4).toInt) (aI (G.2.1 (F a 0)) (((G.1 a 4).toInt) - 1)) (aI (G.2.1 (F a 1)) (((G.1 a 4).toInt) - 1)) (aI (G.2.1 (F a 2)) (((G.1 a 4).toInt) - 1)) (aI (G.2.1 (F a 3)) (((G.1 a 4).toInt) - 1)) (pn (vw (G.2.1 (F p0 0)))) z0 c26)) hs47).2.f
            refine lv_aload hx hb dX2_goOn_71 (lv_at hl 0 rfl) ?_
            refine gX7_7 S hK hT hk47 kf_X2_54 dX2_goOn_73 (v := (G.1 q47 7)) rfl (?_)
            refine lv_iconst (v := 2) hx hb dX2_goOn_76 (by decide) ?_
            refine xi_cne (tgt := 98) hx hb (rfl : Int32.toInt (G.1 q47 7) = ((G.1 q47 7).toInt)) ((by decide) : Int32.toInt 2 = (2 : Int)) dX2_goOn_77 (by decide) (fun c77 => ?_) (fun c77 => ?_)
            · refine lv_aload_n hx hb dX2_goOn_98 rfl (lv_at hl 3 rfl) ?_
              refine lv_aload hx hb dX2_goOn_99 (lv_at hl 0 rfl) ?_
              refine lv_aload_n hx hb dX2_goOn_101 rfl (lv_at hl 2 rfl) ?_
              refine gX2_3 S hK hT ha kf_X2_21 dX2_goOn_102 (fun _ _ => ?_)
              refine lv_iload_n hx hb dX2_goOn_105 rfl (lv_at hl 1 rfl) ?_
              refine al_0 S hK hT hk9999c ar_24 (by decide) (by rw [(e5 : Int32.toInt x5 = (((G.1 a 4).toInt) - (1 : Int)))]; exact (z_X2_goOn_4 ((G.1 a 4).toInt) e0)) dX2_goOn_106 (fun x106 hv106 o106 => ?_)
              have hv106 : x106.toInt = (aI (G.2.1 (F a 3)) (((G.1 a 4).toInt) - 1)) := hv106.trans (by rw [((e5 : Int32.toInt x5 = (((G.1 a 4).toInt) - (1 : Int))).trans (z_X2_goOn_5 ((G.1 a 4).toInt)))])
              refine lv_aload_n hx hb dX2_goOn_107 rfl (lv_at hl 2 rfl) ?_
              refine gX2_1 S hK hT ha kf_X2_15 dX2_goOn_108 (fun _ _ => ?_)
              refine lv_iload_n hx hb dX2_goOn_111 rfl (lv_at hl 1 rfl) ?_
              refine al_0 S hK hT hk9999a ar_24 (by decide) (by rw [(e5 : Int32.toInt x5 = (((G.1 a 4).toInt) - (1 : Int)))]; exact (z_X2_goOn_4 ((G.1 a 4).toInt) e0)) dX2_goOn_112 (fun x112 hv112 o112 => ?_)
              have hv112 : x112.toInt = (aI (G.2.1 (F a 1)) (((G.1 a 4).toInt) - 1)) := hv112.trans (by rw [((e5 : Int32.toInt x5 = (((G.1 a 4).toInt) - (1 : Int))).trans (z_X2_goOn_5 ((G.1 a 4).toInt)))])
              refine x_clp (x_runS (As := [.ref p0, .ref q47, .int x106, .int x112]) (rest := []) S (c_X2_nextWith l E K F G H p0 q47 x106 x112 hp0 hk47 (by rw [(hv106 : Int32.toInt x106 = (aI (G.2.1 (F a 3)) (((G.1 a 4).toInt) - 1)))] <;> exact (z_X2_goOn_27 ((G.1 a 4).toInt) (aI (G.2.1 (F a 0)) (((G.1 a 4).toInt) - 1)) (aI (G.2.1 (F a 1)) (((G.1 a 4).toInt) - 1)) (aI (G.2.1 (F a 2)) (((G.1 a 4).toInt) - 1)) (aI (G.2.1 (F a 3)) (((G.1 a 4).toInt) - 1)) (pn (vw (G.2.1 (F p0 0)))) z0)) (v_X2_goOn_113_7 (K := K) (F := F) a p0 p1 q47 G x65 ha hp0 hp1 bkn hcz hs47 e0 z0 c8 c14 c26 ht47 t65 c68 z71 c77)) ms_X2_nextWith km_X2_79 rfl rfl ⟨Nat.le_of_ble_eq_true rfl, Nat.le_of_ble_eq_true rfl⟩ hK (fun _ => XPh.blind) (fun U hU hW => XPh.at hK hz hS hT hU hW) rfl hl.1 (Nat.le_of_ble_eq_true rfl) dX2_goOn_113 ⟨Nat.le_of_ble_eq_true rfl, Nat.le_of_ble_eq_true rfl⟩) hS ?_
              rintro _ _ locs ⟨x113, rfl, t113, oq113⟩ hS
              have t113 : -1 ≤ x113.toInt ∧ x113.toInt < 30 := t113
              have oq113 : (x113.toInt = -1 ∧ ∀ j : Int, (aI (G.2.1 (F a 3)) (((G.1 a 4).toInt) - 1)) ≤ j → j < 30 → cel (vw (G.2.1 (F p0 0))) ((G.1 q47 2).toInt) j ((G.1 q47 3).toInt) ≠ (aI (G.2.1 (F a 1)) (((G.1 a 4).toInt) - 1))) ∨ (((aI (G.2.1 (F a 3)) (((G.1 a 4).toInt) - 1)) ≤ x113.toInt ∧ x113.toInt < 30) ∧ cel (vw (G.2.1 (F p0 0))) ((G.1 q47 2).toInt) x113.toInt ((G.1 q47 3).toInt) = (aI (G.2.1 (F a 1)) (((G.1 a 4).toInt) - 1)) ∧ ∀ j : Int, (aI (G.2.1 (F a 3)) (((G.1 a 4).toInt) - 1)) ≤ j → j < x113.toInt → cel (vw (G.2.1 (F p0 0))) ((G.1 q47 2).toInt) j ((G.1 q47 3).toInt) ≠ (aI (G.2.1 (F a 1)) (((G.1 a 4).toInt) - 1))) := by simp only [(hv106 : Int32.toInt x106 = (aI (G.2.1 (F a 3)) (((G.1 a 4).toInt) - 1))), (hv112 : Int32.toInt x112 = (aI (G.2.1 (F a 1)) (((G.1 a 4).toInt) - 1)))] at oq113; exact oq113
              refine lv_istore (lv' := [(5, .int x113), (4, .ref q47), (3, .int x5), (0, .ref a), (1, .ref p0), (2, .ref p1)]) hx hb dX2_goOn_116 hl (by decide) rfl (fun ls hl => ?_)
              refine lv_iload hx hb dX2_goOn_118 (lv_at hl 0 rfl) ?_
              refine lv_iconst (v := (-1)) hx hb dX2_goOn_120 (by decide) ?_
              refine xi_ceq (tgt := 147) hx hb (rfl : Int32.toInt x113 = x113.toInt) ((by decide) : Int32.toInt (-1) = (-1 : Int)) dX2_goOn_121 (by decide) (fun c121 => ?_) (fun c121 => ?_)
              · refine lv_aload_n hx hb dX2_goOn_147 rfl (lv_at hl 3 rfl) ?_
                refine gX2_2 S hK hT ha kf_X2_18 dX2_goOn_148 (fun _ _ => ?_)
                refine lv_iload_n hx hb dX2_goOn_151 rfl (lv_at hl 2 rfl) ?_
                refine lv_dup2_11 hx hb dX2_goOn_152 rfl rfl ?_
                refine al_0 S hK hT hk9999b ar_24 (by decide) (by rw [(e5 : Int32.toInt x5 = (((G.1 a 4).toInt) - (1 : Int)))]; exact (z_X2_goOn_4 ((G.1 a 4).toInt) e0)) dX2_goOn_153 (fun x153 hv153 o153 => ?_)
                have hv153 : x153.toInt = (aI (G.2.1 (F a 2)) (((G.1 a 4).toInt) - 1)) := hv153.trans (by rw [((e5 : Int32.toInt x5 = (((G.1 a 4).toInt) - (1 : Int))).trans (z_X2_goOn_5 ((G.1 a 4).toInt)))])
                refine lv_iconst (v := 1) hx hb dX2_goOn_154 (by decide) ?_
                refine xi_iadd hx hb (hv153 : Int32.toInt x153 = (aI (G.2.1 (F a 2)) (((G.1 a 4).toInt) - 1))) ((by decide) : Int32.toInt 1 = (1 : Int)) dX2_goOn_155 (fun x155 t155 => ?_)
                have e155 : x155.toInt = ((aI (G.2.1 (F a 2)) (((G.1 a 4).toInt) - 1)) + (1 : Int)) := (z_X2_goOn_10 x155.toInt ((G.1 a 4).toInt) (aI (G.2.1 (F a 0)) (((G.1 a 4).toInt) - 1)) (aI (G.2.1 (F a 1)) (((G.1 a 4).toInt) - 1)) (aI (G.2.1 (F a 2)) (((G.1 a 4).toInt) - 1)) (aI (G.2.1 (F a 3)) (((G.1 a 4).toInt) - 1)) (pn (vw (G.2.1 (F p0 0)))) z0 t155)
                refine as_0 (x := x155) S hK hT hS hk9999b ar_24 aw_24 (by decide) (by rw [(e5 : Int32.toInt x5 = (((G.1 a 4).toInt) - (1 : Int)))]; exact (z_X2_goOn_4 ((G.1 a 4).toInt) e0)) dX2_goOn_156 (fun H locs hT hS => ?_)
                obtain ⟨G156, hG156⟩ : ∃ GG : XG, GG = cput G (F a 2) x5.toNatClampNeg x155 := ⟨_, rfl⟩
                rw [← hG156] at hT
                refine lv_aload_n hx hb dX2_goOn_157 rfl (lv_at hl 3 rfl) ?_
                refine gX2_3 S hK hT ha kf_X2_21 dX2_goOn_158 (fun _ _ => ?_)
                refine lv_iload_n hx hb dX2_goOn_161 rfl (lv_at hl 2 rfl) ?_
                refine lv_iconst (v := 0) hx hb dX2_goOn_162 (by decide) ?_
                refine as_0 (x := 0) S hK hT hS hk9999c ar_24 aw_24 (by decide) (by rw [(e5 : Int32.toInt x5 = (((G.1 a 4).toInt) - (1 : Int)))]; exact (z_X2_goOn_4 ((G.1 a 4).toInt) e0)) dX2_goOn_163 (fun H locs hT hS => ?_)
                obtain ⟨G163, hG163⟩ : ∃ GG : XG, GG = cput G156 (F a 3) x5.toNatClampNeg 0 := ⟨_, rfl⟩
                rw [← hG163] at hT
                exact x_rv hx hb hr hlk hQ (Nat.le_of_ble_eq_true rfl) (Nat.le_of_ble_eq_true rfl) hS dX2_goOn_164 G163 ⟨(by rw [hG163]; exact XFr.cput (by rw [hG156]; exact XFr.cput XFr.rf (List.mem_of_getElem? (i := 2) rfl)) (List.mem_of_getElem? (i := 3) rfl)), (by rw [(show (G163.1 a 4).toInt = ((G.1 a 4).toInt) from (congrArg Int32.toInt ((lc_d hG163).trans (lc_d hG156))).trans (rfl : Int32.toInt (G.1 a 4) = ((G.1 a 4).toInt)))] <;> exact (z_X2_goOn_3 ((G.1 a 4).toInt) e0)), (v_X2_goOn_164_8 (K := K) (F := F) a p0 p1 q47 G156 G x5 x155 G163 x113 x65 ha hp0 hp1 hG156 hG163 bkn hac hiv hcz e5 hs47 oq113 e155 e0 z0 c8 c14 c26 ht47 t65 c68 z71 c77 t113 c121 (lc_c hG156 (xne_j hj9999c hj9999b (by first | decide | omega))) ((lc_c hG163 (xne_j hj9999 hj9999c (by first | decide | omega))).trans (lc_c hG156 (xne_j hj9999 hj9999b (by first | decide | omega)))) ((lc_c hG163 (xne_j hj9999a hj9999c (by first | decide | omega))).trans (lc_c hG156 (xne_j hj9999a hj9999b (by first | decide | omega)))) (lc_c hG163 (xne_j hj9999b hj9999c (by first | decide | omega))) ((lc_c hG163 (xne_k hk9999d hk9999c (by decide))).trans (lc_c hG156 (xne_k hk9999d hk9999b (by decide)))) ((lc_d hG163).trans (lc_d hG156))), (v_X2_goOn_164_9 (F := F) p0 G G163 hro ((lc_c hG163 (xne_k hk9999d hk9999c (by decide))).trans (lc_c hG156 (xne_k hk9999d hk9999b (by decide)))) ((lc_c hG163 (xne_k hk9999e hk9999c (by decide))).trans (lc_c hG156 (xne_k hk9999e hk9999b (by decide)))))⟩ hT
              · have pp124 : 1 ≤ (pn (vw (G.2.1 (F p0 0)))) := (v_X2_goOn_124_10 (K := K) (F := F) a p0 p1 q47 G x113 x65 ha hp0 hp1 hro hcz hs47 oq113 e0 z0 c8 c14 c26 ht47 t65 c68 z71 c77 t113 c121)
                refine lv_aload_n hx hb dX2_goOn_124 rfl (lv_at hl 3 rfl) ?_
                refine gX2_3 S hK hT ha kf_X2_21 dX2_goOn_125 (fun _ _ => ?_)
                refine lv_iload_n hx hb dX2_goOn_128 rfl (lv_at hl 2 rfl) ?_
                refine lv_iload hx hb dX2_goOn_129 (lv_at hl 0 rfl) ?_
                refine lv_iconst (v := 1) hx hb dX2_goOn_131 (by decide) ?_
                refine xi_iadd hx hb (rfl : Int32.toInt x113 = x113.toInt) ((by decide) : Int32.toInt 1 = (1 : Int)) dX2_goOn_132 (fun x132 t132 => ?_)
                have e132 : x132.toInt = (x113.toInt + (1 : Int)) := (z_X2_goOn_34 x113.toInt x132.toInt t113 t132)
                refine as_0 (x := x132) S hK hT hS hk9999c ar_24 aw_24 (by decide) (by rw [(e5 : Int32.toInt x5 = (((G.1 a 4).toInt) - (1 : Int)))]; exact (z_X2_goOn_4 ((G.1 a 4).toInt) e0)) dX2_goOn_133 (fun H locs hT hS => ?_)
                obtain ⟨G133, hG133⟩ : ∃ GG : XG, GG = cput G (F a 3) x5.toNatClampNeg x132 := ⟨_, rfl⟩
                rw [← hG133] at hT
                refine lv_aload_n hx hb dX2_goOn_134 rfl (lv_at hl 3 rfl) ?_
                refine lv_aload_n hx hb dX2_goOn_135 rfl (lv_at hl 4 rfl) ?_
                refine lv_aload hx hb dX2_goOn_136 (lv_at hl 1 rfl) ?_
                refine gX7_2 S hK hT hk47 kf_X2_61 dX2_goOn_138 (v := (G.1 q47 2)) (lc_d hG133) (?_)
                refine lv_iload hx hb dX2_goOn_141 (lv_at hl 0 rfl) ?_
                refine x_cv0 (x_runV (b := a) (As := [.ref p0, .int (G.1 q47 2), .int x113]) (rest := []) S (c_X2_descend l E K F G133 a p0 (G.1 q47 2) x113 ha hp0 (z_X2_goOn_36 x113.toInt ((G.1 q47 2).toInt) ((G.1 q47 3).toInt) z71 t113 c121) (by rw [(show (G133.1 a 4).toInt = ((G.1 a 4).toInt) from (congrArg Int32.toInt (lc_d hG133)).trans (rfl : Int32.toInt (G.1 a 4) = ((G.1 a 4).toInt)))] <;> exact (z_X2_goOn_37 ((G.1 a 4).toInt) (aI (G.2.1 (F a 0)) (((G.1 a 4).toInt) - 1)) (aI (G.2.1 (F a 1)) (((G.1 a 4).toInt) - 1)) (aI (G.2.1 (F a 2)) (((G.1 a 4).toInt) - 1)) (aI (G.2.1 (F a 3)) (((G.1 a 4).toInt) - 1)) (pn (vw (G.2.1 (F p0 0)))) e0 z0 pp124)) (v_X2_goOn_143_11 (F := F) p0 G133 G hro (lc_c hG133 (xne_k hk9999d hk9999c (by decide))) (lc_c hG133 (xne_k hk9999e hk9999c (by decide))))) mv_X2_descend km_X2_28 rfl rfl ⟨Nat.le_of_ble_eq_true rfl, Nat.le_of_ble_eq_true rfl⟩ (rc_4 hK hT ha) hK (fun _ => XP.blind) (fun U hU hW => XP.at hK hz hS hT hU hW) rfl hl.1 (Nat.le_of_ble_eq_true rfl) dX2_goOn_143 ⟨Nat.le_of_ble_eq_true rfl, Nat.le_of_ble_eq_true rfl⟩) hS ?_
                rintro G143 H locs ⟨hF143, t143, oq143, oq143a, oq143b, oq143c, oq143d, oq143e⟩ hT hS
                have t143 : ((G143.1 a 4).toInt) = ((G.1 a 4).toInt) + 1 := by rw [(show (G133.1 a 4).toInt = ((G.1 a 4).toInt) from (congrArg Int32.toInt (lc_d hG133)).trans (rfl : Int32.toInt (G.1 a 4) = ((G.1 a 4).toInt)))] at t143; exact t143
                have oq143 : ∀ z : Int, 0 ≤ z → aI (G143.2.1 (F a 0)) z = if z = ((G.1 a 4).toInt) then ((G.1 q47 2).toInt) else aI (G.2.1 (F a 0)) z := by simp only [(show G133.1 a 4 = G.1 a 4 from (lc_d hG133)), (show G133.2.1 (F a 0) = G.2.1 (F a 0) from (lc_c hG133 (xne_j hj9999 hj9999c (by first | decide | omega))))] at oq143; exact oq143
                have oq143a : ∀ z : Int, 0 ≤ z → aI (G143.2.1 (F a 1)) z = if z = ((G.1 a 4).toInt) then x113.toInt else aI (G.2.1 (F a 1)) z := by simp only [(show G133.1 a 4 = G.1 a 4 from (lc_d hG133)), (show G133.2.1 (F a 1) = G.2.1 (F a 1) from (lc_c hG133 (xne_j hj9999a hj9999c (by first | decide | omega))))] at oq143a; exact oq143a
                have oq143b : ∀ z : Int, 0 ≤ z → aI (G143.2.1 (F a 2)) z = if z = ((G.1 a 4).toInt) then 0 else aI (G.2.1 (F a 2)) z := by simp only [(show G133.1 a 4 = G.1 a 4 from (lc_d hG133)), (show G133.2.1 (F a 2) = G.2.1 (F a 2) from (lc_c hG133 (xne_j hj9999b hj9999c (by first | decide | omega))))] at oq143b; exact oq143b
                have oq143c : ∀ z : Int, 0 ≤ z → aI (G143.2.1 (F a 3)) z = if z = ((G.1 a 4).toInt) then 0 else aI (G133.2.1 (F a 3)) z := by simp only [(show G133.1 a 4 = G.1 a 4 from (lc_d hG133))] at oq143c; exact oq143c
                have oq143d : (vw (G143.2.1 (F p0 0))) = rfil (vw (G.2.1 (F p0 0))) ((G.1 q47 2).toInt) x113.toInt (-2000) 3 := by simp only [(show G133.2.1 (F p0 0) = G.2.1 (F p0 0) from (lc_c hG133 (xne_k hk9999d hk9999c (by decide))))] at oq143d; exact oq143d
                exact x_rv hx hb hr hlk hQ (Nat.le_of_ble_eq_true rfl) (Nat.le_of_ble_eq_true rfl) hS dX2_goOn_146 G143 ⟨(XFr.call (by rw [hG133]; exact XFr.cput XFr.rf (List.mem_of_getElem? (i := 3) rfl)) hF143 (xm1 0 rfl xm0) (xm1 0 rfl (xm1 1 rfl (xm1 2 rfl (xm1 3 rfl (xm1 4 rfl (xm1 5 rfl xm0)))))) xm0), (z_X2_goOn_38 ((G.1 a 4).toInt) ((G143.1 a 4).toInt) (aI (G.2.1 (F a 0)) (((G.1 a 4).toInt) - 1)) (aI (G.2.1 (F a 1)) (((G.1 a 4).toInt) - 1)) (aI (G.2.1 (F a 2)) (((G.1 a 4).toInt) - 1)) (aI (G.2.1 (F a 3)) (((G.1 a 4).toInt) - 1)) (pn (vw (G.2.1 (F p0 0)))) e0 z0 pp124 t143), (v_X2_goOn_146_12 (K := K) (F := F) a p0 p1 q47 G133 G x5 x132 G143 x113 x65 ha hp0 hp1 hG133 bkn hac hiv hcz e5 hs47 oq113 e132 oq143 oq143a oq143b oq143c oq143d e0 z0 c8 c14 c26 ht47 t65 c68 z71 c77 t113 c121 pp124 t143), (v_X2_goOn_146_13 (F := F) p0 G143 oq143e)⟩ hT
            · refine lv_aload_n hx hb dX2_goOn_80 rfl (lv_at hl 3 rfl) ?_
              refine lv_aload hx hb dX2_goOn_81 (lv_at hl 0 rfl) ?_
              refine lv_aload_n hx hb dX2_goOn_83 rfl (lv_at hl 2 rfl) ?_
              refine gX2_1 S hK hT ha kf_X2_15 dX2_goOn_84 (fun _ _ => ?_)
              refine lv_iload_n hx hb dX2_goOn_87 rfl (lv_at hl 1 rfl) ?_
              refine al_0 S hK hT hk9999a ar_24 (by decide) (by rw [(e5 : Int32.toInt x5 = (((G.1 a 4).toInt) - (1 : Int)))]; exact (z_X2_goOn_4 ((G.1 a 4).toInt) e0)) dX2_goOn_88 (fun x88 hv88 o88 => ?_)
              have hv88 : x88.toInt = (aI (G.2.1 (F a 1)) (((G.1 a 4).toInt) - 1)) := hv88.trans (by rw [((e5 : Int32.toInt x5 = (((G.1 a 4).toInt) - (1 : Int))).trans (z_X2_goOn_5 ((G.1 a 4).toInt)))])
              refine lv_sipush (v := (-1000)) hx hb dX2_goOn_89 (by decide) ?_
              refine x_cv0 (x_runS (As := [.ref p0, .ref q47, .int x88, .int (-1000)]) (rest := []) S (c_X2_replace l E K F G p0 q47 x88 (-1000) hp0 hk47 (by rw [(hv88 : Int32.toInt x88 = (aI (G.2.1 (F a 1)) (((G.1 a 4).toInt) - 1)))] <;> exact (z_X2_goOn_41 ((G.1 a 4).toInt) (aI (G.2.1 (F a 0)) (((G.1 a 4).toInt) - 1)) (aI (G.2.1 (F a 1)) (((G.1 a 4).toInt) - 1)) (aI (G.2.1 (F a 2)) (((G.1 a 4).toInt) - 1)) (aI (G.2.1 (F a 3)) (((G.1 a 4).toInt) - 1)) (pn (vw (G.2.1 (F p0 0)))) z0)) (by rw [((by decide) : Int32.toInt (-1000) = (-1000 : Int))] <;> exact (by decide)) (v_X2_goOn_92_14 (F := F) p0 G hro) (v_X2_goOn_92_15 (K := K) (F := F) a p0 p1 q47 G x65 ha hp0 hp1 bkn hcz hs47 e0 z0 c8 c14 c26 ht47 t65 c68 z71 c77)) ms_X2_replace km_X2_57 rfl rfl ⟨Nat.le_of_ble_eq_true rfl, Nat.le_of_ble_eq_true rfl⟩ hK (fun _ => XP.blind) (fun U hU hW => XP.at hK hz hS hT hU hW) rfl hl.1 (Nat.le_of_ble_eq_true rfl) dX2_goOn_92 ⟨Nat.le_of_ble_eq_true rfl, Nat.le_of_ble_eq_true rfl⟩) hS ?_
              rintro G92 H locs ⟨hF92, oq92, oq92a⟩ hT hS
              have oq92 : (vw (G92.2.1 (F p0 0))) = repl (vw (G.2.1 (F p0 0))) ((G.1 q47 2).toInt) ((G.1 q47 3).toInt) (aI (G.2.1 (F a 1)) (((G.1 a 4).toInt) - 1)) (-1000 : Int) 30 := by simp only [(hv88 : Int32.toInt x88 = (aI (G.2.1 (F a 1)) (((G.1 a 4).toInt) - 1))), ((by decide) : Int32.toInt (-1000) = (-1000 : Int))] at oq92; exact oq92
              refine lv_goto (tgt := 147) hx hb dX2_goOn_95 (by decide) ?_
              refine lv_aload_n hx hb dX2_goOn_147 rfl (lv_at hl 2 rfl) ?_
              refine gX2_2 S hK hT ha kf_X2_18 dX2_goOn_148 (fun _ _ => ?_)
              refine lv_iload_n hx hb dX2_goOn_151 rfl (lv_at hl 1 rfl) ?_
              refine lv_dup2_11 hx hb dX2_goOn_152 rfl rfl ?_
              refine al_0 S hK hT hk9999b ar_24 (by decide) (by rw [(e5 : Int32.toInt x5 = (((G.1 a 4).toInt) - (1 : Int)))]; exact (z_X2_goOn_4 ((G.1 a 4).toInt) e0)) dX2_goOn_153 (fun x153 hv153 o153 => ?_)
              have hv153 : x153.toInt = (aI (G.2.1 (F a 2)) (((G.1 a 4).toInt) - 1)) := hv153.trans (by rw [((e5 : Int32.toInt x5 = (((G.1 a 4).toInt) - (1 : Int))).trans (z_X2_goOn_5 ((G.1 a 4).toInt))), ((hF92.2.1 _ (xn1 (xne_k hk9999b hk9999d (by decide)) (xn1 (xne_k hk9999b hk9999e (by decide)) xn0))) : G92.2.1 (F a 2) = G.2.1 (F a 2))])
              refine lv_iconst (v := 1) hx hb dX2_goOn_154 (by decide) ?_
              refine xi_iadd hx hb (hv153 : Int32.toInt x153 = (aI (G.2.1 (F a 2)) (((G.1 a 4).toInt) - 1))) ((by decide) : Int32.toInt 1 = (1 : Int)) dX2_goOn_155 (fun x155 t155 => ?_)
              have e155 : x155.toInt = ((aI (G.2.1 (F a 2)) (((G.1 a 4).toInt) - 1)) + (1 : Int)) := (z_X2_goOn_10 x155.toInt ((G.1 a 4).toInt) (aI (G.2.1 (F a 0)) (((G.1 a 4).toInt) - 1)) (aI (G.2.1 (F a 1)) (((G.1 a 4).toInt) - 1)) (aI (G.2.1 (F a 2)) (((G.1 a 4).toInt) - 1)) (aI (G.2.1 (F a 3)) (((G.1 a 4).toInt) - 1)) (pn (vw (G.2.1 (F p0 0)))) z0 t155)
              refine as_0 (x := x155) S hK hT hS hk9999b ar_24 aw_24 (by decide) (by rw [(e5 : Int32.toInt x5 = (((G.1 a 4).toInt) - (1 : Int)))]; exact (z_X2_goOn_4 ((G.1 a 4).toInt) e0)) dX2_goOn_156 (fun H locs hT hS => ?_)
              obtain ⟨G156, hG156⟩ : ∃ GG : XG, GG = cput G92 (F a 2) x5.toNatClampNeg x155 := ⟨_, rfl⟩
              rw [← hG156] at hT
              refine lv_aload_n hx hb dX2_goOn_157 rfl (lv_at hl 2 rfl) ?_
              refine gX2_3 S hK hT ha kf_X2_21 dX2_goOn_158 (fun _ _ => ?_)
              refine lv_iload_n hx hb dX2_goOn_161 rfl (lv_at hl 1 rfl) ?_
              refine lv_iconst (v := 0) hx hb dX2_goOn_162 (by decide) ?_
              refine as_0 (x := 0) S hK hT hS hk9999c ar_24 aw_24 (by decide) (by rw [(e5 : Int32.toInt x5 = (((G.1 a 4).toInt) - (1 : Int)))]; exact (z_X2_goOn_4 ((G.1 a 4).toInt) e0)) dX2_goOn_163 (fun H locs hT hS => ?_)
              obtain ⟨G163, hG163⟩ : ∃ GG : XG, GG = cput G156 (F a 3) x5.toNatClampNeg 0 := ⟨_, rfl⟩
              rw [← hG163] at hT
              exact x_rv hx hb hr hlk hQ (Nat.le_of_ble_eq_true rfl) (Nat.le_of_ble_eq_true rfl) hS dX2_goOn_164 G163 ⟨(by rw [hG163]; exact XFr.cput (by rw [hG156]; exact XFr.cput (XFr.call XFr.rf hF92 xm0 (xm1 4 rfl (xm1 5 rfl xm0)) xm0) (List.mem_of_getElem? (i := 2) rfl)) (List.mem_of_getElem? (i := 3) rfl)), (by rw [(show (G163.1 a 4).toInt = ((G.1 a 4).toInt) from (congrArg Int32.toInt ((lc_d hG163).trans ((lc_d hG156).trans (hF92.1 _ _ xn0)))).trans (rfl : Int32.toInt (G.1 a 4) = ((G.1 a 4).toInt)))] <;> exact (z_X2_goOn_3 ((G.1 a 4).toInt) e0)), (v_X2_goOn_164_16 (K := K) (F := F) a p0 p1 q47 G G92 G156 x5 x155 G163 x65 ha hp0 hp1 hG156 hG163 bkn hac hiv hcz e5 hs47 oq92 e155 e0 z0 c8 c14 c26 ht47 t65 c68 z71 c77 ((lc_c hG156 (xne_j hj9999c hj9999b (by first | decide | omega))).trans (hF92.2.1 _ (xn1 (xne_k hk9999c hk9999d (by decide)) (xn1 (xne_k hk9999c hk9999e (by decide)) xn0)))) ((lc_c hG163 (xne_j hj9999 hj9999c (by first | decide | omega))).trans ((lc_c hG156 (xne_j hj9999 hj9999b (by first | decide | omega))).trans (hF92.2.1 _ (xn1 (xne_k hk9999 hk9999d (by decide)) (xn1 (xne_k hk9999 hk9999e (by decide)) xn0))))) ((lc_c hG163 (xne_j hj9999a hj9999c (by first | decide | omega))).trans ((lc_c hG156 (xne_j hj9999a hj9999b (by first | decide | omega))).trans (hF92.2.1 _ (xn1 (xne_k hk9999a hk9999d (by decide)) (xn1 (xne_k hk9999a hk9999e (by decide)) xn0))))) (lc_c hG163 (xne_j hj9999b hj9999c (by first | decide | omega))) ((lc_c hG163 (xne_k hk9999d hk9999c (by decide))).trans (lc_c hG156 (xne_k hk9999d hk9999b (by decide)))) (hF92.2.1 _ (xn1 (xne_k hk9999b hk9999d (by decide)) (xn1 (xne_k hk9999b hk9999e (by decide)) xn0))) ((lc_d hG163).trans ((lc_d hG156).trans (hF92.1 _ _ xn0)))), (v_X2_goOn_164_17 (F := F) p0 G G92 G163 hro oq92a ((lc_c hG163 (xne_k hk9999d hk9999c (by decide))).trans (lc_c hG156 (xne_k hk9999d hk9999b (by decide)))) ((lc_c hG163 (xne_k hk9999e hk9999c (by decide))).trans (lc_c hG156 (xne_k hk9999e hk9999b (by decide)))))⟩ hT
      · refine lv_aload_n hx hb dX2_goOn_29 rfl (lv_at hl 1 rfl) ?_
        refine lv_dup hx hb dX2_goOn_30 rfl ?_
        refine gX2_4 S hK hT ha kf_X2_24 dX2_goOn_31 (v := (G.1 a 4)) rfl (?_)
        refine lv_iconst (v := 1) hx hb dX2_goOn_34 (by decide) ?_
        refine xi_isub hx hb (rfl : Int32.toInt (G.1 a 4) = ((G.1 a 4).toInt)) ((by decide) : Int32.toInt 1 = (1 : Int)) dX2_goOn_35 (fun x35 t35 => ?_)
        have e35 : x35.toInt = (((G.1 a 4).toInt) - (1 : Int)) := (z_X2_goOn_2 x35.toInt ((G.1 a 4).toInt) e0 t35)
        refine pX2_4 (v := x35) S hK hT hS ha kf_X2_24 dX2_goOn_36 (fun H locs hT hS => ?_)
        obtain ⟨G36, hG36⟩ : ∃ GG : XG, GG = dput G a 4 x35 := ⟨_, rfl⟩
        rw [← hG36] at hT
        exact x_rv hx hb hr hlk hQ (Nat.le_of_ble_eq_true rfl) (Nat.le_of_ble_eq_true rfl) hS dX2_goOn_39 G36 ⟨(by rw [hG36]; exact XFr.dput XFr.rf (List.mem_of_getElem? (i := 0) rfl)), (by rw [(show (G36.1 a 4).toInt = (((G.1 a 4).toInt) - (1 : Int)) from (congrArg Int32.toInt (ld_at hG36)).trans (e35 : Int32.toInt x35 = (((G.1 a 4).toInt) - (1 : Int))))] <;> exact (z_X2_goOn_49 ((G.1 a 4).toInt) e0)), (v_X2_goOn_39_18 (K := K) (F := F) a p0 p1 G36 G x35 ha hp0 hp1 bkn hiv hcz e35 e0 z0 c8 c14 c26 (ld_c hG36) (ld_c hG36) (ld_c hG36) (ld_c hG36) (ld_c hG36) (ld_at hG36)), (v_X2_goOn_39_19 (F := F) p0 G36 G hro (ld_c hG36) (ld_c hG36))⟩ hT
    · exact x_rv hx hb hr hlk hQ (Nat.le_of_ble_eq_true rfl) (Nat.le_of_ble_eq_true rfl) hS dX2_goOn_17 G ⟨XFr.rf, (z_X2_goOn_3 ((G.1 a 4).toInt) e0), (v_X2_goOn_17_20 (K := K) (F := F) a p0 p1 G ha hp0 hp1 hcz e0 z0 c8 c14), (v_X2_goOn_17_21 (K := K) (F := F) a p0 p1 G ha hp0 hp1 hcz e0 z0 c8 c14)⟩ hT

theorem z_X2_cutRow_2 (a0 : Int) (h0 : 0 ≤ a0 ∧ a0 ≤ 1260) : ¬ (2147483648 - a0 < ((0 : Nat) : Int)) := by omega
theorem z_X2_cutRow_3 (a0 : Int) (h0 : 0 ≤ a0 ∧ a0 ≤ 90) (h1 : ¬ (a0 ≤ 0)) : 1 ≤ a0 ∧ a0 ≤ 90 := by omega
theorem z_X2_cutRow_4 (a0 : Int) (a1 : Int) (h0 : 0 ≤ a0 ∧ a0 ≤ 1260) (h1 : a1 = (a0 + 1) ∨ (a0 + 1) < -2147483648 ∨ 2147483648 ≤ (a0 + 1)) : a1 = (a0 + 1) := by omega
theorem z_X2_cutRow_5 (a0 : Int) (h0 : 0 ≤ a0 ∧ a0 ≤ 1260) (h1 : ¬ ((1260 : Int) ≤ a0)) : 0 ≤ (a0 + 1) ∧ (a0 + 1) ≤ 1260 := by omega
theorem z_X2_cutRow_7 (a0 : Int) (a1 : Int) (a2 : Int) (h0 : a0 + a2 ≤ 1259) (h1 : a1 = a2 - 1) : (a0 + 1) + a1 ≤ 1259 := by omega
theorem z_X2_cutRow_8 (a0 : Int) (h0 : 0 ≤ a0 ∧ a0 ≤ 1260) : (0 : Int) ≤ (a0 + 1) := by omega
theorem z_X2_cutRow_9 (a0 : Int) (a1 : Nat) (h0 : 2147483648 - a0 < ((a1 + 1 : Nat) : Int)) : 2147483648 - (a0 + 1) < ((a1 : Nat) : Int) := by omega
theorem z_X2_cutRow_10 (a0 : Int) (h0 : a0 = (0 : Int) + 1) : 0 ≤ a0 ∧ a0 ≤ 90 := by omega
theorem z_X2_cutRow_11 (a0 : Int) (h0 : a0 ≤ 1259) : (0 : Int) + a0 ≤ 1259 := by omega
abbrev rm_X2_cutRow : Room := { frames := 5, cells := 0, slots := 0, locals := 115 }
set_option maxHeartbeats 4000000 in
set_option maxRecDepth 100000 in
theorem c_X2_cutRow (l : Launch) (E : XE) (K : Nat → Nat) (F : Nat → Nat → Nat) (G : XG) (a : Nat) (p0 : Nat) (p1 : Nat) (p2 : Int32) (p3 : Int32) (ha : K a = 4) (hp0 : K p0 = 8) (hp1 : K p1 = 2) (e1 : 0 ≤ p2.toInt ∧ p2.toInt < 3 ∧ 0 ≤ p3.toInt ∧ p3.toInt < 30) (e3 : (cel (vw (G.2.1 (F p0 0))) (p2.toInt) (p3.toInt) 0) ≠ -2000) (hro : RO (vw (G.2.1 (F p0 0))) (aI (G.2.1 (F p0 1)))) (bkn : BKr K G (G.2.2.1 (F p1 0))) (hac : ACo G (G.2.2.1 (F p1 0))) : Met l yX2_cutRow (xw yX2_cutRow cX2_cutRow 6 none) rm_X2_cutRow (va_Pc [.ref a, .ref p0, .ref p1, .int p2, .int p3] (XP E K F G)) (XQv E (fun (u : XG) => XFr [(a, 4)] [F a 0, F a 1, F a 2, F a 3, F p0 0, F p0 1] [] G u ∧ ((vw (u.2.1 (F p0 0))) = cfin (clsA G (G.2.2.1 (F p1 0))) (clsT G (G.2.2.1 (F p1 0))) (clsC G (G.2.2.1 (F p1 0))) ([(p2.toInt, p3.toInt, 0, 0)], rfil (vw (G.2.1 (F p0 0))) p2.toInt p3.toInt (-2000) 3)) ∧ (RO (vw (u.2.1 (F p0 0))) (aI (u.2.1 (F p0 1))))) (fun u H => TW E K F u H)) 0 0 (xA E) := by
  refine x_enter (by decide) (Nat.le_of_ble_eq_true rfl) ?_
  intro p e s m args below meth c Q S hr hlk hnm hQ hP ls hl
  obtain ⟨hz, hK, hT⟩ := hP
  obtain ⟨hx, hb, -, -, -⟩ := id S
  obtain ⟨H, hT, hS, hgo⟩ : ∃ H : Heap, TW E K F G H ∧ va_S (xA E) s.heap H [] ∧ H = s.heap := ⟨_, hT, va_S.rf, rfl⟩
  rw [← hgo]
  have hl : lv_has ls 6 [(0, .ref a), (1, .ref p0), (2, .ref p1), (3, .int p2), (4, .int p3)] := hl
  obtain ⟨hk9999, hj9999⟩ := fkX2_0 hT ha
  obtain ⟨hk9999a, hj9999a⟩ := fkX2_1 hT ha
  obtain ⟨hk9999b, hj9999b⟩ := fkX2_2 hT ha
  obtain ⟨hk9999c, hj9999c⟩ := fkX2_3 hT ha
  obtain ⟨hk9999d, hj9999d⟩ := fkX6_0 hT hp0
  obtain ⟨hk9999e, hj9999e⟩ := fkX6_1 hT hp0
  obtain ⟨hk9999f, hj9999f⟩ := fkX0_0 hT hp1
  refine lv_aload_n hx hb dX2_cutRow_0 rfl (lv_at hl 0 rfl) ?_
  refine lv_iconst (v := 0) hx hb dX2_cutRow_1 (by decide) ?_
  refine pX2_4 (v := 0) S hK hT hS ha kf_X2_24 dX2_cutRow_2 (fun H locs hT hS => ?_)
  obtain ⟨G2, hG2⟩ : ∃ GG : XG, GG = dput G a 4 0 := ⟨_, rfl⟩
  rw [← hG2] at hT
  refine lv_aload_n hx hb dX2_cutRow_5 rfl (lv_at hl 0 rfl) ?_
  refine lv_aload_n hx hb dX2_cutRow_6 rfl (lv_at hl 1 rfl) ?_
  refine lv_iload_n hx hb dX2_cutRow_7 rfl (lv_at hl 3 rfl) ?_
  refine lv_iload hx hb dX2_cutRow_8 (lv_at hl 4 rfl) ?_
  refine x_cv0 (x_runV (b := a) (As := [.ref p0, .int p2, .int p3]) (rest := []) S (c_X2_descend l E K F G2 a p0 p2 p3 ha hp0 (e1) (by rw [(show (G2.1 a 4).toInt = (0 : Int) from (congrArg Int32.toInt (ld_at hG2)).trans ((by decide) : Int32.toInt 0 = (0 : Int)))] <;> exact (by decide)) (v_X2_cutRow_10_1 (F := F) p0 G G2 hro (ld_c hG2) (ld_c hG2))) mv_X2_descend km_X2_28 rfl rfl ⟨Nat.le_of_ble_eq_true rfl, Nat.le_of_ble_eq_true rfl⟩ (rc_4 hK hT ha) hK (fun _ => XP.blind) (fun U hU hW => XP.at hK hz hS hT hU hW) rfl hl.1 (Nat.le_of_ble_eq_true rfl) dX2_cutRow_10 ⟨Nat.le_of_ble_eq_true rfl, Nat.le_of_ble_eq_true rfl⟩) hS ?_
  rintro G10 H locs ⟨hF10, t10, oq10, oq10a, oq10b, oq10c, oq10d, oq10e⟩ hT hS
  have t10 : ((G10.1 a 4).toInt) = (0 : Int) + 1 := by rw [(show (G2.1 a 4).toInt = (0 : Int) from (congrArg Int32.toInt (ld_at hG2)).trans ((by decide) : Int32.toInt 0 = (0 : Int)))] at t10; exact t10
  have oq10 : ∀ z : Int, 0 ≤ z → aI (G10.2.1 (F a 0)) z = if z = ((G2.1 a 4).toInt) then p2.toInt else aI (G.2.1 (F a 0)) z := by simp only [(show G2.2.1 (F a 0) = G.2.1 (F a 0) from (ld_c hG2))] at oq10; exact oq10
  have oq10a : ∀ z : Int, 0 ≤ z → aI (G10.2.1 (F a 1)) z = if z = ((G2.1 a 4).toInt) then p3.toInt else aI (G.2.1 (F a 1)) z := by simp only [(show G2.2.1 (F a 1) = G.2.1 (F a 1) from (ld_c hG2))] at oq10a; exact oq10a
  have oq10b : ∀ z : Int, 0 ≤ z → aI (G10.2.1 (F a 2)) z = if z = ((G2.1 a 4).toInt) then 0 else aI (G.2.1 (F a 2)) z := by simp only [(show G2.2.1 (F a 2) = G.2.1 (F a 2) from (ld_c hG2))] at oq10b; exact oq10b
  have oq10c : ∀ z : Int, 0 ≤ z → aI (G10.2.1 (F a 3)) z = if z = ((G2.1 a 4).toInt) then 0 else aI (G.2.1 (F a 3)) z := by simp only [(show G2.2.1 (F a 3) = G.2.1 (F a 3) from (ld_c hG2))] at oq10c; exact oq10c
  have oq10d : (vw (G10.2.1 (F p0 0))) = rfil (vw (G.2.1 (F p0 0))) p2.toInt p3.toInt (-2000) 3 := by simp only [(show G2.2.1 (F p0 0) = G.2.1 (F p0 0) from (ld_c hG2))] at oq10d; exact oq10d
  have en13 : (cnv (gst (G10.2.1 (F a 0)) (G10.2.1 (F a 1)) (G10.2.1 (F a 2)) (G10.2.1 (F a 3)) (Int.toNat ((G10.1 a 4).toInt)), (vw (G10.2.1 (F p0 0))))) ≤ 1259 := (v_X2_cutRow_13_2 (K := K) (F := F) a p0 p1 G G10 G2 p2 p3 ha hp0 hp1 hro oq10 oq10a oq10b oq10c oq10d e1 e3 t10 (ld_at hG2))
  refine lv_iconst (v := 0) hx hb dX2_cutRow_13 (by decide) ?_
  refine lv_istore (lv' := [(5, .int 0), (0, .ref a), (1, .ref p0), (2, .ref p1), (3, .int p2), (4, .int p3)]) hx hb dX2_cutRow_14 hl (by decide) rfl (fun ls hl => ?_)
  have L16 : ∀ (N16 : Nat) (l5_16 : Int32) (G_16 : XG) (H : Heap) (locs : List Loc) (ls : Array Slot), XFr [(a, 4)] [F a 0, F a 1, F a 2, F a 3, F p0 0, F p0 1] [] G10 G_16 → CIv (gst (G_16.2.1 (F a 0)) (G_16.2.1 (F a 1)) (G_16.2.1 (F a 2)) (G_16.2.1 (F a 3)) (Int.toNat (((G_16.1 a 4).toInt))), (vw (G_16.2.1 (F p0 0)))) → CZ (clsA G (G.2.2.1 (F p1 0))) (gst (G_16.2.1 (F a 0)) (G_16.2.1 (F a 1)) (G_16.2.1 (F a 2)) (G_16.2.1 (F a 3)) (Int.toNat (((G_16.1 a 4).toInt))), (vw (G_16.2.1 (F p0 0)))).1 → cfin (clsA G (G.2.2.1 (F p1 0))) (clsT G (G.2.2.1 (F p1 0))) (clsC G (G.2.2.1 (F p1 0))) (gst (G_16.2.1 (F a 0)) (G_16.2.1 (F a 1)) (G_16.2.1 (F a 2)) (G_16.2.1 (F a 3)) (Int.toNat (((G_16.1 a 4).toInt))), (vw (G_16.2.1 (F p0 0)))) = cfin (clsA G (G.2.2.1 (F p1 0))) (clsT G (G.2.2.1 (F p1 0))) (clsC G (G.2.2.1 (F p1 0))) ([(p2.toInt, p3.toInt, 0, 0)], rfil (vw (G.2.1 (F p0 0))) p2.toInt p3.toInt (-2000) 3) → RO (vw (G_16.2.1 (F p0 0))) (aI (G_16.2.1 (F p0 1))) → 0 ≤ l5_16.toInt ∧ l5_16.toInt ≤ 1260 → 0 ≤ ((G_16.1 a 4).toInt) ∧ ((G_16.1 a 4).toInt) ≤ 90 → l5_16.toInt + (cnv (gst (G_16.2.1 (F a 0)) (G_16.2.1 (F a 1)) (G_16.2.1 (F a 2)) (G_16.2.1 (F a 3)) (Int.toNat ((G_16.1 a 4).toInt)), (vw (G_16.2.1 (F p0 0))))) ≤ 1259 → (0 : Int) ≤ l5_16.toInt → 2147483648 - l5_16.toInt < ((N16 : Nat) : Int) → TW E K F G_16 H → va_S (xA E) s.heap H locs → lv_has ls 6 [(0, .ref a), (1, .ref p0), (2, .ref p1), (5, .int l5_16)] → W p l e rm_X2_cutRow s m args below meth c H locs 0 0 Q (F0 m 16 ls []) := by
    intro N16
    induction N16 with
    | zero =>
      intro l5_16 G_16 H locs ls hF_16 iv cz fi ro I16_0 I16_1 I16_2 I16_3 hm16
      exact absurd hm16 (z_X2_cutRow_2 l5_16.toInt I16_0)
    | succ N16 ih16 =>
      intro l5_16 G_16 H locs ls hF_16 iv cz fi ro I16_0 I16_1 I16_2 I16_3 hm16 hT hS hl
      refine lv_iload hx hb dX2_cutRow_16 (lv_at hl 3 rfl) ?_
      refine lv_sipush (v := 1260) hx hb dX2_cutRow_18 (by decide) ?_
      refine xi_cge (tgt := 43) hx hb (rfl : Int32.toInt l5_16 = l5_16.toInt) ((by decide) : Int32.toInt 1260 = (1260 : Int)) dX2_cutRow_21 (by decide) (fun c21 => ?_) (fun c21 => ?_)
      · have z43 : 0 ≤ (cnv (gst (G_16.2.1 (F a 0)) (G_16.2.1 (F a 1)) (G_16.2.1 (F a 2)) (G_16.2.1 (F a 3)) (Int.toNat ((G_16.1 a 4).toInt)), (vw (G_16.2.1 (F p0 0))))) := (cnv_b iv).1
        exact x_rv hx hb hr hlk hQ (Nat.le_of_ble_eq_true rfl) (Nat.le_of_ble_eq_true rfl) hS dX2_cutRow_43 G_16 ⟨(XFr.call (XFr.call (by rw [hG2]; exact XFr.dput XFr.rf (List.mem_of_getElem? (i := 0) rfl)) hF10 (xm1 0 rfl xm0) (xm1 0 rfl (xm1 1 rfl (xm1 2 rfl (xm1 3 rfl (xm1 4 rfl (xm1 5 rfl xm0)))))) xm0) hF_16 (xm1 0 rfl xm0) (xm1 0 rfl (xm1 1 rfl (xm1 2 rfl (xm1 3 rfl (xm1 4 rfl (xm1 5 rfl xm0)))))) xm0), (v_X2_cutRow_43_3 (K := K) (F := F) a p0 p1 G G_16 G10 p2 p3 l5_16 N16 ha hp0 hp1 cz fi e1 e3 t10 en13 I16_0 I16_1 I16_2 I16_3 hm16 c21 z43), (v_X2_cutRow_43_4 (F := F) p0 G_16 ro)⟩ hT
      · refine lv_aload_n hx hb dX2_cutRow_24 rfl (lv_at hl 0 rfl) ?_
        refine gX2_4 S hK hT ha kf_X2_24 dX2_cutRow_25 (v := (G_16.1 a 4)) rfl (?_)
        refine xi_zle (tgt := 43) hx hb (rfl : Int32.toInt (G_16.1 a 4) = ((G_16.1 a 4).toInt)) dX2_cutRow_28 (by decide) (fun c28 => ?_) (fun c28 => ?_)
        · have z43 : 0 ≤ (cnv (gst (G_16.2.1 (F a 0)) (G_16.2.1 (F a 1)) (G_16.2.1 (F a 2)) (G_16.2.1 (F a 3)) (Int.toNat ((G_16.1 a 4).toInt)), (vw (G_16.2.1 (F p0 0))))) := (cnv_b iv).1
          exact x_rv hx hb hr hlk hQ (Nat.le_of_ble_eq_true rfl) (Nat.le_of_ble_eq_true rfl) hS dX2_cutRow_43 G_16 ⟨(XFr.call (XFr.call (by rw [hG2]; exact XFr.dput XFr.rf (List.mem_of_getElem? (i := 0) rfl)) hF10 (xm1 0 rfl xm0) (xm1 0 rfl (xm1 1 rfl (xm1 2 rfl (xm1 3 rfl (xm1 4 rfl (xm1 5 rfl xm0)))))) xm0) hF_16 (xm1 0 rfl xm0) (xm1 0 rfl (xm1 1 rfl (xm1 2 rfl (xm1 3 rfl (xm1 4 rfl (xm1 5 rfl xm0)))))) xm0), (v_X2_cutRow_43_5 (K := K) (F := F) a p0 p1 G G_16 G10 p2 p3 l5_16 N16 ha hp0 hp1 cz fi e1 e3 t10 en13 I16_0 I16_1 I16_2 I16_3 hm16 c21 c28 z43), (v_X2_cutRow_43_6 (F := F) p0 G_16 ro)⟩ hT
        · refine lv_aload_n hx hb dX2_cutRow_31 rfl (lv_at hl 0 rfl) ?_
          refine lv_aload_n hx hb dX2_cutRow_32 rfl (lv_at hl 1 rfl) ?_
          refine lv_aload_n hx hb dX2_cutRow_33 rfl (lv_at hl 2 rfl) ?_
          refine x_cv0 (x_runV (b := a) (As := [.ref p0, .ref p1]) (rest := []) S (c_X2_goOn l E K F G_16 a p0 p1 ha hp0 hp1 (z_X2_cutRow_3 ((G_16.1 a 4).toInt) I16_1 c28) (v_X2_cutRow_34_7 (F := F) p0 G_16 ro) (v_X2_cutRow_34_8 (K := K) (F := F) a p0 p1 G G_16 G10 p2 p3 l5_16 N16 ha hp0 hp1 hk9999 hj9999 hk9999a hj9999a hk9999b hj9999b hk9999c hj9999c hk9999d hj9999d hk9999e hj9999e hk9999f hj9999f (XFr.call (XFr.call (by rw [hG2]; exact XFr.dput XFr.rf (List.mem_of_getElem? (i := 0) rfl)) hF10 (xm1 0 rfl xm0) (xm1 0 rfl (xm1 1 rfl (xm1 2 rfl (xm1 3 rfl (xm1 4 rfl (xm1 5 rfl xm0)))))) xm0) hF_16 (xm1 0 rfl xm0) (xm1 0 rfl (xm1 1 rfl (xm1 2 rfl (xm1 3 rfl (xm1 4 rfl (xm1 5 rfl xm0)))))) xm0) bkn cz e1 e3 t10 en13 I16_0 I16_1 I16_2 I16_3 hm16 c21 c28 ((hF_16.2.2 _ xn0).trans ((hF10.2.2 _ xn0).trans (ld_r hG2)))) (v_X2_cutRow_34_9 (K := K) (F := F) a p0 p1 G G_16 G10 p2 p3 l5_16 N16 ha hp0 hp1 hk9999 hj9999 hk9999a hj9999a hk9999b hj9999b hk9999c hj9999c hk9999d hj9999d hk9999e hj9999e hk9999f hj9999f (XFr.call (XFr.call (by rw [hG2]; exact XFr.dput XFr.rf (List.mem_of_getElem? (i := 0) rfl)) hF10 (xm1 0 rfl xm0) (xm1 0 rfl (xm1 1 rfl (xm1 2 rfl (xm1 3 rfl (xm1 4 rfl (xm1 5 rfl xm0)))))) xm0) hF_16 (xm1 0 rfl xm0) (xm1 0 rfl (xm1 1 rfl (xm1 2 rfl (xm1 3 rfl (xm1 4 rfl (xm1 5 rfl xm0)))))) xm0) bkn hac cz e1 e3 t10 en13 I16_0 I16_1 I16_2 I16_3 hm16 c21 c28 ((hF_16.2.2 _ xn0).trans ((hF10.2.2 _ xn0).trans (ld_r hG2)))) (v_X2_cutRow_34_10 (F := F) a p0 G_16 iv) (v_X2_cutRow_34_11 (K := K) (F := F) a p0 p1 G G_16 G10 p2 p3 l5_16 N16 ha hp0 hp1 hk9999 hj9999 hk9999a hj9999a hk9999b hj9999b hk9999c hj9999c hk9999d hj9999d hk9999e hj9999e hk9999f hj9999f (XFr.call (XFr.call (by rw [hG2]; exact XFr.dput XFr.rf (List.mem_of_getElem? (i := 0) rfl)) hF10 (xm1 0 rfl xm0) (xm1 0 rfl (xm1 1 rfl (xm1 2 rfl (xm1 3 rfl (xm1 4 rfl (xm1 5 rfl xm0)))))) xm0) hF_16 (xm1 0 rfl xm0) (xm1 0 rfl (xm1 1 rfl (xm1 2 rfl (xm1 3 rfl (xm1 4 rfl (xm1 5 rfl xm0)))))) xm0) bkn cz e1 e3 t10 en13 I16_0 I16_1 I16_2 I16_3 hm16 c21 c28 ((hF_16.2.2 _ xn0).trans ((hF10.2.2 _ xn0).trans (ld_r hG2))))) mv_X2_goOn km_X2_32 rfl rfl ⟨Nat.le_of_ble_eq_true rfl, Nat.le_of_ble_eq_true rfl⟩ (rc_4 hK hT ha) hK (fun _ => XP.blind) (fun U hU hW => XP.at hK hz hS hT hU hW) rfl hl.1 (Nat.le_of_ble_eq_true rfl) dX2_cutRow_34 ⟨Nat.le_of_ble_eq_true rfl, Nat.le_of_ble_eq_true rfl⟩) hS ?_
          rintro G34 H locs ⟨hF34, t34, oq34, oq34a⟩ hT hS
          have t34 : 0 ≤ ((G34.1 a 4).toInt) ∧ ((G34.1 a 4).toInt) ≤ 90 := t34
          have z37 : (cnv (gst (G34.2.1 (F a 0)) (G34.2.1 (F a 1)) (G34.2.1 (F a 2)) (G34.2.1 (F a 3)) (Int.toNat ((G34.1 a 4).toInt)), (vw (G34.2.1 (F p0 0))))) = (cnv (gst (G_16.2.1 (F a 0)) (G_16.2.1 (F a 1)) (G_16.2.1 (F a 2)) (G_16.2.1 (F a 3)) (Int.toNat ((G_16.1 a 4).toInt)), (vw (G_16.2.1 (F p0 0))))) - 1 := oq34.2.2.2
          refine xi_iinc (n := 1) (lv' := fun z9 => [(5, .int z9), (0, .ref a), (1, .ref p0), (2, .ref p1)]) (k := 3) hx hb (rfl : Int32.toInt l5_16 = l5_16.toInt) (by decide) dX2_cutRow_37 hl rfl (by decide) (fun _ => rfl) (fun x37 ls t37 hl => ?_)
          have e37 : x37.toInt = (l5_16.toInt + 1) := (z_X2_cutRow_4 l5_16.toInt x37.toInt I16_0 t37)
          have hl : lv_has ls 6 [(5, .int x37), (0, .ref a), (1, .ref p0), (2, .ref p1)] := hl
          refine lv_goto (tgt := 16) hx hb dX2_cutRow_40 (by decide) ?_
          exact ih16 x37 G34 _ _ _ (XFr.call (XFr.call XFr.rf hF_16 (xm1 0 rfl xm0) (xm1 0 rfl (xm1 1 rfl (xm1 2 rfl (xm1 3 rfl (xm1 4 rfl (xm1 5 rfl xm0)))))) xm0) hF34 (xm1 0 rfl xm0) (xm1 0 rfl (xm1 1 rfl (xm1 2 rfl (xm1 3 rfl (xm1 4 rfl (xm1 5 rfl xm0)))))) xm0) (v_X2_cutRow_40_12 (F := F) a p0 p1 G34 G_16 oq34) (v_X2_cutRow_40_13 (K := K) (F := F) a p0 p1 G G34 G10 G_16 p2 p3 l5_16 N16 ha hp0 hp1 hk9999 hj9999 hk9999a hj9999a hk9999b hj9999b hk9999c hj9999c hk9999d hj9999d hk9999e hj9999e hk9999f hj9999f (XFr.call (XFr.call (XFr.call (by rw [hG2]; exact XFr.dput XFr.rf (List.mem_of_getElem? (i := 0) rfl)) hF10 (xm1 0 rfl xm0) (xm1 0 rfl (xm1 1 rfl (xm1 2 rfl (xm1 3 rfl (xm1 4 rfl (xm1 5 rfl xm0)))))) xm0) hF_16 (xm1 0 rfl xm0) (xm1 0 rfl (xm1 1 rfl (xm1 2 rfl (xm1 3 rfl (xm1 4 rfl (xm1 5 rfl xm0)))))) xm0) hF34 (xm1 0 rfl xm0) (xm1 0 rfl (xm1 1 rfl (xm1 2 rfl (xm1 3 rfl (xm1 4 rfl (xm1 5 rfl xm0)))))) xm0) hF34 bkn cz oq34 e1 e3 t10 en13 I16_0 I16_1 I16_2 I16_3 hm16 c21 c28 t34 z37 ((hF_16.2.2 _ xn0).trans ((hF10.2.2 _ xn0).trans (ld_r hG2)))) (v_X2_cutRow_40_14 (K := K) (F := F) a p0 p1 G G34 G10 G_16 p2 p3 l5_16 N16 ha hp0 hp1 hk9999 hj9999 hk9999a hj9999a hk9999b hj9999b hk9999c hj9999c hk9999d hj9999d hk9999e hj9999e hk9999f hj9999f (XFr.call (XFr.call (XFr.call (by rw [hG2]; exact XFr.dput XFr.rf (List.mem_of_getElem? (i := 0) rfl)) hF10 (xm1 0 rfl xm0) (xm1 0 rfl (xm1 1 rfl (xm1 2 rfl (xm1 3 rfl (xm1 4 rfl (xm1 5 rfl xm0)))))) xm0) hF_16 (xm1 0 rfl xm0) (xm1 0 rfl (xm1 1 rfl (xm1 2 rfl (xm1 3 rfl (xm1 4 rfl (xm1 5 rfl xm0)))))) xm0) hF34 (xm1 0 rfl xm0) (xm1 0 rfl (xm1 1 rfl (xm1 2 rfl (xm1 3 rfl (xm1 4 rfl (xm1 5 rfl xm0)))))) xm0) hF34 bkn cz fi oq34 e1 e3 t10 en13 I16_0 I16_1 I16_2 I16_3 hm16 c21 c28 t34 z37 ((hF_16.2.2 _ xn0).trans ((hF10.2.2 _ xn0).trans (ld_r hG2)))) (v_X2_cutRow_40_15 (F := F) p0 G34 oq34a) (by rw [(e37 : Int32.toInt x37 = (l5_16.toInt + 1))] <;> exact (z_X2_cutRow_5 l5_16.toInt I16_0 c21)) (t34) (by rw [(e37 : Int32.toInt x37 = (l5_16.toInt + 1))] <;> exact (z_X2_cutRow_7 l5_16.toInt (cnv (gst (G34.2.1 (F a 0)) (G34.2.1 (F a 1)) (G34.2.1 (F a 2)) (G34.2.1 (F a 3)) (Int.toNat ((G34.1 a 4).toInt)), (vw (G34.2.1 (F p0 0))))) (cnv (gst (G_16.2.1 (F a 0)) (G_16.2.1 (F a 1)) (G_16.2.1 (F a 2)) (G_16.2.1 (F a 3)) (Int.toNat ((G_16.1 a 4).toInt)), (vw (G_16.2.1 (F p0 0))))) I16_2 z37)) (by rw [(e37 : Int32.toInt x37 = (l5_16.toInt + 1))] <;> exact (z_X2_cutRow_8 l5_16.toInt I16_0)) (by rw [(e37 : Int32.toInt x37 = (l5_16.toInt + 1))] <;> exact (z_X2_cutRow_9 l5_16.toInt N16 hm16)) hT hS (lv_sub hl [1, 2, 3, 0] rfl)
  exact L16 4294967297 0 G10 _ _ _ XFr.rf (v_X2_cutRow_14_16 (K := K) (F := F) a p0 p1 G G10 G2 p2 p3 ha hp0 hp1 hro oq10 oq10a oq10b oq10c oq10d e1 e3 t10 en13 (ld_at hG2)) (v_X2_cutRow_14_17 (K := K) (F := F) a p0 p1 G G10 G2 p2 p3 ha hp0 hp1 oq10 oq10a oq10b oq10c e1 e3 t10 en13 (ld_at hG2)) (v_X2_cutRow_14_18 (K := K) (F := F) a p0 p1 G G10 G2 p2 p3 ha hp0 hp1 oq10 oq10a oq10b oq10c oq10d e1 e3 t10 en13 (ld_at hG2)) (v_X2_cutRow_14_19 (F := F) p0 G10 oq10e) (by decide) (z_X2_cutRow_10 ((G10.1 a 4).toInt) t10) (z_X2_cutRow_11 (cnv (gst (G10.2.1 (F a 0)) (G10.2.1 (F a 1)) (G10.2.1 (F a 2)) (G10.2.1 (F a 3)) (Int.toNat ((G10.1 a 4).toInt)), (vw (G10.2.1 (F p0 0))))) en13) (by decide) (by decide) hT hS (lv_sub hl [1, 2, 3, 0] rfl)
theorem v_X2_moveRow_6_1 {F : Nat → Nat → Nat} (p0 : Nat) (G : XG)
    (hro : RO (vw (G.2.1 (F p0 0))) (aI (G.2.1 (F p0 1)))) :
    RO (vw (G.2.1 (F p0 0))) (aI (G.2.1 (F p0 1))) := by exact hro
theorem v_X2_moveRow_72_2 {K : Nat → Nat} {F : Nat → Nat → Nat} (a : Nat) (p0 : Nat) (p1 : Nat) (G : XG) (G_12 : XG) (p2 : Int32) (p3 : Int32) (p4 : Int32) (l6_12 : Int32) (N12 : Nat)
    (ha : K a = 4)
    (hp0 : K p0 = 8)
    (hp1 : K p1 = 2)
    (mv : (vw (G_12.2.1 (F p0 0))) = mvR (clsA G (G.2.2.1 (F p1 0))) (clsT G (G.2.2.1 (F p1 0))) (clsC G (G.2.2.1 (F p1 0))) p2.toInt p3.toInt p4.toInt (rmv (vw (G.2.1 (F p0 0))) p2.toInt p3.toInt p4.toInt) (Int.toNat (l6_12.toInt)))
    (e1 : 0 ≤ p2.toInt ∧ p2.toInt < 3 ∧ 0 ≤ p3.toInt ∧ p3.toInt < 30 ∧ 0 ≤ p4.toInt ∧ p4.toInt < 30 ∧ p3.toInt ≠ p4.toInt)
    (e3 : (cel (vw (G.2.1 (F p0 0))) (p2.toInt) (p3.toInt) 0) ≠ -2000)
    (I12_0 : 0 ≤ l6_12.toInt ∧ l6_12.toInt ≤ 12)
    (I12_1 : (0 : Int) ≤ l6_12.toInt)
    (hm12 : 2147483648 - l6_12.toInt < (((N12) + 1 : Nat) : Int))
    (c16 : (12 : Int) ≤ l6_12.toInt) :
    (vw (G_12.2.1 (F p0 0))) = mvR (clsA G (G.2.2.1 (F p1 0))) (clsT G (G.2.2.1 (F p1 0))) (clsC G (G.2.2.1 (F p1 0))) p2.toInt p3.toInt p4.toInt (rmv (vw (G.2.1 (F p0 0))) p2.toInt p3.toInt p4.toInt) 12 := by
  rw [mv, show l6_12.toInt = 12 from by omega]; rfl
theorem v_X2_moveRow_72_3 {F : Nat → Nat → Nat} (p0 : Nat) (G_12 : XG)
    (ro : RO (vw (G_12.2.1 (F p0 0))) (aI (G_12.2.1 (F p0 1)))) :
    RO (vw (G_12.2.1 (F p0 0))) (aI (G_12.2.1 (F p0 1))) := by
  exact ro
theorem v_X2_moveRow_69_4 {K : Nat → Nat} {F : Nat → Nat → Nat} (a : Nat) (p0 : Nat) (p1 : Nat) (G : XG) (G_12 : XG) (p2 : Int32) (p3 : Int32) (p4 : Int32) (l6_12 : Int32) (N12 : Nat)
    (ha : K a = 4)
    (hp0 : K p0 = 8)
    (hp1 : K p1 = 2)
    (mv : (vw (G_12.2.1 (F p0 0))) = mvR (clsA G (G.2.2.1 (F p1 0))) (clsT G (G.2.2.1 (F p1 0))) (clsC G (G.2.2.1 (F p1 0))) p2.toInt p3.toInt p4.toInt (rmv (vw (G.2.1 (F p0 0))) p2.toInt p3.toInt p4.toInt) (Int.toNat (l6_12.toInt)))
    (hn22 : (l6_12.toInt < 0 ∨ 12 ≤ l6_12.toInt) ∨ G_12.2.2.1 (F p1 0) (l6_12.toInt).toNat = none)
    (e1 : 0 ≤ p2.toInt ∧ p2.toInt < 3 ∧ 0 ≤ p3.toInt ∧ p3.toInt < 30 ∧ 0 ≤ p4.toInt ∧ p4.toInt < 30 ∧ p3.toInt ≠ p4.toInt)
    (e3 : (cel (vw (G.2.1 (F p0 0))) (p2.toInt) (p3.toInt) 0) ≠ -2000)
    (I12_0 : 0 ≤ l6_12.toInt ∧ l6_12.toInt ≤ 12)
    (I12_1 : (0 : Int) ≤ l6_12.toInt)
    (hm12 : 2147483648 - l6_12.toInt < (((N12) + 1 : Nat) : Int))
    (c16 : ¬ ((12 : Int) ≤ l6_12.toInt))
    (r_G_12_F_p1_0 : G_12.2.2.1 (F p1 0) = G.2.2.1 (F p1 0)) :
    (vw (G_12.2.1 (F p0 0))) = mvR (clsA G (G.2.2.1 (F p1 0))) (clsT G (G.2.2.1 (F p1 0))) (clsC G (G.2.2.1 (F p1 0))) p2.toInt p3.toInt p4.toInt (rmv (vw (G.2.1 (F p0 0))) p2.toInt p3.toInt p4.toInt) (Int.toNat (l6_12.toInt + 1)) := by
  have hq : G.2.2.1 (F p1 0) l6_12.toInt.toNat = none := by rw [← r_G_12_F_p1_0]; exact hn22.elim (fun h => absurd h (by omega)) id
  rw [mvR_s (by omega), if_neg (by rw [clsA_n hq]; decide)]
  exact mv
theorem v_X2_moveRow_69_5 {F : Nat → Nat → Nat} (p0 : Nat) (G_12 : XG)
    (ro : RO (vw (G_12.2.1 (F p0 0))) (aI (G_12.2.1 (F p0 1)))) :
    RO (vw (G_12.2.1 (F p0 0))) (aI (G_12.2.1 (F p0 1))) := by
  first | exact oq63a | exact ro
theorem v_X2_moveRow_69_6 {K : Nat → Nat} {F : Nat → Nat → Nat} (a : Nat) (p0 : Nat) (p1 : Nat) (q22 : Nat) (G : XG) (G6 : XG) (G_12 : XG) (p2 : Int32) (p3 : Int32) (p4 : Int32) (l6_12 : Int32) (N12 : Nat) (x35 : Int32)
    (ha : K a = 4)
    (hp0 : K p0 = 8)
    (hp1 : K p1 = 2)
    (hk9999 : K (F p0 0) = 20)
    (hj9999 : F (F p0 0) 99 = F p0 99)
    (hk9999a : K (F p0 1) = 21)
    (hj9999a : F (F p0 1) 99 = F p0 99)
    (hk9999b : K (F p1 0) = 15)
    (hj9999b : F (F p1 0) 99 = 0)
    (hk22 : K q22 = 9)
    (hF6 : XFr [] [F p0 0, F p0 1] [] G G6)
    (hF_12 : XFr [] [F p0 0, F p0 1] [] G6 G_12)
    (bkn : BKr K G (G.2.2.1 (F p1 0)))
    (hac : ACo G (G.2.2.1 (F p1 0)))
    (mv : (vw (G_12.2.1 (F p0 0))) = mvR (clsA G (G.2.2.1 (F p1 0))) (clsT G (G.2.2.1 (F p1 0))) (clsC G (G.2.2.1 (F p1 0))) p2.toInt p3.toInt p4.toInt (rmv (vw (G.2.1 (F p0 0))) p2.toInt p3.toInt p4.toInt) (Int.toNat (l6_12.toInt)))
    (hs22 : G_12.2.2.1 (F p1 0) (l6_12.toInt).toNat = some q22)
    (e1 : 0 ≤ p2.toInt ∧ p2.toInt < 3 ∧ 0 ≤ p3.toInt ∧ p3.toInt < 30 ∧ 0 ≤ p4.toInt ∧ p4.toInt < 30 ∧ p3.toInt ≠ p4.toInt)
    (e3 : (cel (vw (G.2.1 (F p0 0))) (p2.toInt) (p3.toInt) 0) ≠ -2000)
    (I12_0 : 0 ≤ l6_12.toInt ∧ l6_12.toInt ≤ 12)
    (I12_1 : (0 : Int) ≤ l6_12.toInt)
    (hm12 : 2147483648 - l6_12.toInt < (((N12) + 1 : Nat) : Int))
    (c16 : ¬ ((12 : Int) ≤ l6_12.toInt))
    (ht22 : 0 ≤ l6_12.toInt ∧ l6_12.toInt < 12)
    (t35 : ((((G.1 q22 0).toInt) = 1 ∧ ((G.1 q22 4).toInt) = p2.toInt ∧ ((G.1 q22 7).toInt) ≠ 0) ∧ x35.toInt = 1) ∨ (¬ (((G.1 q22 0).toInt) = 1 ∧ ((G.1 q22 4).toInt) = p2.toInt ∧ ((G.1 q22 7).toInt) ≠ 0) ∧ x35.toInt = 0))
    (c38 : x35.toInt = 0)
    (r_G_12_F_p1_0 : G_12.2.2.1 (F p1 0) = G.2.2.1 (F p1 0)) :
    (vw (G_12.2.1 (F p0 0))) = mvR (clsA G (G.2.2.1 (F p1 0))) (clsT G (G.2.2.1 (F p1 0))) (clsC G (G.2.2.1 (F p1 0))) p2.toInt p3.toInt p4.toInt (rmv (vw (G.2.1 (F p0 0))) p2.toInt p3.toInt p4.toInt) (Int.toNat (l6_12.toInt + 1)) := by
  have hd : ∀ p, p ∈ ([] : List (Nat × Nat)) → K p.1 ≠ 9 := fun _ h => by cases h
  have hc : ∀ (i q : Nat), i < 12 → G.2.2.1 (F p1 0) i = some q → G_12.1 q = G.1 q := fun i q hi hq => (hF_12.rule hd (bkn i q hi hq).1).trans (hF6.rule hd (bkn i q hi hq).1)
  have hq : G.2.2.1 (F p1 0) l6_12.toInt.toNat = some q22 := by rw [← r_G_12_F_p1_0]; exact hs22
  have hg : G_12.1 q22 = G.1 q22 := hc _ q22 (by omega) hq
  have as := clsA_s (G := G) (t := p2.toInt) hq
  have ac := hac _ q22 (by omega) hq
  rw [hg] at *
  rw [mvR_s (by omega), if_neg (by rw [as]; split <;> omega)]
  exact mv
theorem v_X2_moveRow_69_7 {F : Nat → Nat → Nat} (p0 : Nat) (G_12 : XG)
    (ro : RO (vw (G_12.2.1 (F p0 0))) (aI (G_12.2.1 (F p0 1)))) :
    RO (vw (G_12.2.1 (F p0 0))) (aI (G_12.2.1 (F p0 1))) := by
  first | exact oq63a | exact ro
theorem v_X2_moveRow_63_8 {F : Nat → Nat → Nat} (p0 : Nat) (G_12 : XG)
    (ro : RO (vw (G_12.2.1 (F p0 0))) (aI (G_12.2.1 (F p0 1)))) :
    RO (vw (G_12.2.1 (F p0 0))) (aI (G_12.2.1 (F p0 1))) := by exact ro
theorem v_X2_moveRow_63_9 {K : Nat → Nat} {F : Nat → Nat → Nat} (a : Nat) (p0 : Nat) (p1 : Nat) (q22 : Nat) (G : XG) (G6 : XG) (G_12 : XG) (p2 : Int32) (p3 : Int32) (p4 : Int32) (l6_12 : Int32) (N12 : Nat) (x35 : Int32)
    (ha : K a = 4)
    (hp0 : K p0 = 8)
    (hp1 : K p1 = 2)
    (hk9999 : K (F p0 0) = 20)
    (hj9999 : F (F p0 0) 99 = F p0 99)
    (hk9999a : K (F p0 1) = 21)
    (hj9999a : F (F p0 1) 99 = F p0 99)
    (hk9999b : K (F p1 0) = 15)
    (hj9999b : F (F p1 0) 99 = 0)
    (hk22 : K q22 = 9)
    (hF6 : XFr [] [F p0 0, F p0 1] [] G G6)
    (hF_12 : XFr [] [F p0 0, F p0 1] [] G6 G_12)
    (bkn : BKr K G (G.2.2.1 (F p1 0)))
    (hs22 : G_12.2.2.1 (F p1 0) (l6_12.toInt).toNat = some q22)
    (e1 : 0 ≤ p2.toInt ∧ p2.toInt < 3 ∧ 0 ≤ p3.toInt ∧ p3.toInt < 30 ∧ 0 ≤ p4.toInt ∧ p4.toInt < 30 ∧ p3.toInt ≠ p4.toInt)
    (e3 : (cel (vw (G.2.1 (F p0 0))) (p2.toInt) (p3.toInt) 0) ≠ -2000)
    (I12_0 : 0 ≤ l6_12.toInt ∧ l6_12.toInt ≤ 12)
    (I12_1 : (0 : Int) ≤ l6_12.toInt)
    (hm12 : 2147483648 - l6_12.toInt < (((N12) + 1 : Nat) : Int))
    (c16 : ¬ ((12 : Int) ≤ l6_12.toInt))
    (ht22 : 0 ≤ l6_12.toInt ∧ l6_12.toInt < 12)
    (t35 : ((((G.1 q22 0).toInt) = 1 ∧ ((G.1 q22 4).toInt) = p2.toInt ∧ ((G.1 q22 7).toInt) ≠ 0) ∧ x35.toInt = 1) ∨ (¬ (((G.1 q22 0).toInt) = 1 ∧ ((G.1 q22 4).toInt) = p2.toInt ∧ ((G.1 q22 7).toInt) ≠ 0) ∧ x35.toInt = 0))
    (c38 : ¬ (x35.toInt = 0))
    (c52 : ((G.1 q22 7).toInt) ≠ (1 : Int))
    (r_G_12_F_p1_0 : G_12.2.2.1 (F p1 0) = G.2.2.1 (F p1 0)) :
    RW (G_12.1 q22) := by
  have hd : ∀ p, p ∈ ([] : List (Nat × Nat)) → K p.1 ≠ 9 := fun _ h => by cases h
  have hc : ∀ (i q : Nat), i < 12 → G.2.2.1 (F p1 0) i = some q → G_12.1 q = G.1 q := fun i q hi hq => (hF_12.rule hd (bkn i q hi hq).1).trans (hF6.rule hd (bkn i q hi hq).1)
  have hq : G.2.2.1 (F p1 0) l6_12.toInt.toNat = some q22 := by rw [← r_G_12_F_p1_0]; exact hs22
  rw [hc _ q22 (by omega) hq]
  exact (bkn _ q22 (by omega) hq).2
theorem v_X2_moveRow_69_10 {K : Nat → Nat} {F : Nat → Nat → Nat} (a : Nat) (p0 : Nat) (p1 : Nat) (q22 : Nat) (G : XG) (G6 : XG) (G_12 : XG) (G63 : XG) (p2 : Int32) (p3 : Int32) (p4 : Int32) (l6_12 : Int32) (N12 : Nat) (x35 : Int32)
    (ha : K a = 4)
    (hp0 : K p0 = 8)
    (hp1 : K p1 = 2)
    (hk9999 : K (F p0 0) = 20)
    (hj9999 : F (F p0 0) 99 = F p0 99)
    (hk9999a : K (F p0 1) = 21)
    (hj9999a : F (F p0 1) 99 = F p0 99)
    (hk9999b : K (F p1 0) = 15)
    (hj9999b : F (F p1 0) 99 = 0)
    (hk22 : K q22 = 9)
    (hF6 : XFr [] [F p0 0, F p0 1] [] G G6)
    (hF_12 : XFr [] [F p0 0, F p0 1] [] G6 G_12)
    (bkn : BKr K G (G.2.2.1 (F p1 0)))
    (hac : ACo G (G.2.2.1 (F p1 0)))
    (mv : (vw (G_12.2.1 (F p0 0))) = mvR (clsA G (G.2.2.1 (F p1 0))) (clsT G (G.2.2.1 (F p1 0))) (clsC G (G.2.2.1 (F p1 0))) p2.toInt p3.toInt p4.toInt (rmv (vw (G.2.1 (F p0 0))) p2.toInt p3.toInt p4.toInt) (Int.toNat (l6_12.toInt)))
    (hs22 : G_12.2.2.1 (F p1 0) (l6_12.toInt).toNat = some q22)
    (oq63 : (vw (G63.2.1 (F p0 0))) = repl (vw (G_12.2.1 (F p0 0))) ((G.1 q22 2).toInt) ((G.1 q22 3).toInt) p3.toInt (-1000 : Int) 30)
    (e1 : 0 ≤ p2.toInt ∧ p2.toInt < 3 ∧ 0 ≤ p3.toInt ∧ p3.toInt < 30 ∧ 0 ≤ p4.toInt ∧ p4.toInt < 30 ∧ p3.toInt ≠ p4.toInt)
    (e3 : (cel (vw (G.2.1 (F p0 0))) (p2.toInt) (p3.toInt) 0) ≠ -2000)
    (I12_0 : 0 ≤ l6_12.toInt ∧ l6_12.toInt ≤ 12)
    (I12_1 : (0 : Int) ≤ l6_12.toInt)
    (hm12 : 2147483648 - l6_12.toInt < (((N12) + 1 : Nat) : Int))
    (c16 : ¬ ((12 : Int) ≤ l6_12.toInt))
    (ht22 : 0 ≤ l6_12.toInt ∧ l6_12.toInt < 12)
    (t35 : ((((G.1 q22 0).toInt) = 1 ∧ ((G.1 q22 4).toInt) = p2.toInt ∧ ((G.1 q22 7).toInt) ≠ 0) ∧ x35.toInt = 1) ∨ (¬ (((G.1 q22 0).toInt) = 1 ∧ ((G.1 q22 4).toInt) = p2.toInt ∧ ((G.1 q22 7).toInt) ≠ 0) ∧ x35.toInt = 0))
    (c38 : ¬ (x35.toInt = 0))
    (c52 : ((G.1 q22 7).toInt) ≠ (1 : Int))
    (r_G_12_F_p1_0 : G_12.2.2.1 (F p1 0) = G.2.2.1 (F p1 0)) :
    (vw (G63.2.1 (F p0 0))) = mvR (clsA G (G.2.2.1 (F p1 0))) (clsT G (G.2.2.1 (F p1 0))) (clsC G (G.2.2.1 (F p1 0))) p2.toInt p3.toInt p4.toInt (rmv (vw (G.2.1 (F p0 0))) p2.toInt p3.toInt p4.toInt) (Int.toNat (l6_12.toInt + 1)) := by
  have hd : ∀ p, p ∈ ([] : List (Nat × Nat)) → K p.1 ≠ 9 := fun _ h => by cases h
  have hc : ∀ (i q : Nat), i < 12 → G.2.2.1 (F p1 0) i = some q → G_12.1 q = G.1 q := fun i q hi hq => (hF_12.rule hd (bkn i q hi hq).1).trans (hF6.rule hd (bkn i q hi hq).1)
  have hq : G.2.2.1 (F p1 0) l6_12.toInt.toNat = some q22 := by rw [← r_G_12_F_p1_0]; exact hs22
  have hg : G_12.1 q22 = G.1 q22 := hc _ q22 (by omega) hq
  have as := clsA_s (G := G) (t := p2.toInt) hq
  have ac := hac _ q22 (by omega) hq
  rw [hg] at *
  have ts := clsT_s (G := G) hq ⟨by omega, by omega, by omega⟩
  rw [if_pos (by omega)] at as
  rw [mvR_s (by omega), if_pos (by omega), ts.1, ts.2, ← mv, as, oq63]
  first
    | rw [if_pos (by omega)]
    | rw [if_neg (by omega)]
theorem v_X2_moveRow_69_11 {F : Nat → Nat → Nat} (p0 : Nat) (G_12 : XG) (G63 : XG)
    (ro : RO (vw (G_12.2.1 (F p0 0))) (aI (G_12.2.1 (F p0 1))))
    (oq63a : RO (vw (G63.2.1 (F p0 0))) (aI (G63.2.1 (F p0 1)))) :
    RO (vw (G63.2.1 (F p0 0))) (aI (G63.2.1 (F p0 1))) := by
  first | exact oq63a | exact ro
theorem v_X2_moveRow_63_12 {F : Nat → Nat → Nat} (p0 : Nat) (G_12 : XG)
    (ro : RO (vw (G_12.2.1 (F p0 0))) (aI (G_12.2.1 (F p0 1)))) :
    RO (vw (G_12.2.1 (F p0 0))) (aI (G_12.2.1 (F p0 1))) := by exact ro
theorem v_X2_moveRow_63_13 {K : Nat → Nat} {F : Nat → Nat → Nat} (a : Nat) (p0 : Nat) (p1 : Nat) (q22 : Nat) (G : XG) (G6 : XG) (G_12 : XG) (p2 : Int32) (p3 : Int32) (p4 : Int32) (l6_12 : Int32) (N12 : Nat) (x35 : Int32)
    (ha : K a = 4)
    (hp0 : K p0 = 8)
    (hp1 : K p1 = 2)
    (hk9999 : K (F p0 0) = 20)
    (hj9999 : F (F p0 0) 99 = F p0 99)
    (hk9999a : K (F p0 1) = 21)
    (hj9999a : F (F p0 1) 99 = F p0 99)
    (hk9999b : K (F p1 0) = 15)
    (hj9999b : F (F p1 0) 99 = 0)
    (hk22 : K q22 = 9)
    (hF6 : XFr [] [F p0 0, F p0 1] [] G G6)
    (hF_12 : XFr [] [F p0 0, F p0 1] [] G6 G_12)
    (bkn : BKr K G (G.2.2.1 (F p1 0)))
    (hs22 : G_12.2.2.1 (F p1 0) (l6_12.toInt).toNat = some q22)
    (e1 : 0 ≤ p2.toInt ∧ p2.toInt < 3 ∧ 0 ≤ p3.toInt ∧ p3.toInt < 30 ∧ 0 ≤ p4.toInt ∧ p4.toInt < 30 ∧ p3.toInt ≠ p4.toInt)
    (e3 : (cel (vw (G.2.1 (F p0 0))) (p2.toInt) (p3.toInt) 0) ≠ -2000)
    (I12_0 : 0 ≤ l6_12.toInt ∧ l6_12.toInt ≤ 12)
    (I12_1 : (0 : Int) ≤ l6_12.toInt)
    (hm12 : 2147483648 - l6_12.toInt < (((N12) + 1 : Nat) : Int))
    (c16 : ¬ ((12 : Int) ≤ l6_12.toInt))
    (ht22 : 0 ≤ l6_12.toInt ∧ l6_12.toInt < 12)
    (t35 : ((((G.1 q22 0).toInt) = 1 ∧ ((G.1 q22 4).toInt) = p2.toInt ∧ ((G.1 q22 7).toInt) ≠ 0) ∧ x35.toInt = 1) ∨ (¬ (((G.1 q22 0).toInt) = 1 ∧ ((G.1 q22 4).toInt) = p2.toInt ∧ ((G.1 q22 7).toInt) ≠ 0) ∧ x35.toInt = 0))
    (c38 : ¬ (x35.toInt = 0))
    (c52 : ¬ (((G.1 q22 7).toInt) ≠ (1 : Int)))
    (r_G_12_F_p1_0 : G_12.2.2.1 (F p1 0) = G.2.2.1 (F p1 0)) :
    RW (G_12.1 q22) := by
  have hd : ∀ p, p ∈ ([] : List (Nat × Nat)) → K p.1 ≠ 9 := fun _ h => by cases h
  have hc : ∀ (i q : Nat), i < 12 → G.2.2.1 (F p1 0) i = some q → G_12.1 q = G.1 q := fun i q hi hq => (hF_12.rule hd (bkn i q hi hq).1).trans (hF6.rule hd (bkn i q hi hq).1)
  have hq : G.2.2.1 (F p1 0) l6_12.toInt.toNat = some q22 := by rw [← r_G_12_F_p1_0]; exact hs22
  rw [hc _ q22 (by omega) hq]
  exact (bkn _ q22 (by omega) hq).2
theorem v_X2_moveRow_69_14 {K : Nat → Nat} {F : Nat → Nat → Nat} (a : Nat) (p0 : Nat) (p1 : Nat) (q22 : Nat) (G : XG) (G6 : XG) (G_12 : XG) (G63 : XG) (p2 : Int32) (p3 : Int32) (p4 : Int32) (l6_12 : Int32) (N12 : Nat) (x35 : Int32)
    (ha : K a = 4)
    (hp0 : K p0 = 8)
    (hp1 : K p1 = 2)
    (hk9999 : K (F p0 0) = 20)
    (hj9999 : F (F p0 0) 99 = F p0 99)
    (hk9999a : K (F p0 1) = 21)
    (hj9999a : F (F p0 1) 99 = F p0 99)
    (hk9999b : K (F p1 0) = 15)
    (hj9999b : F (F p1 0) 99 = 0)
    (hk22 : K q22 = 9)
    (hF6 : XFr [] [F p0 0, F p0 1] [] G G6)
    (hF_12 : XFr [] [F p0 0, F p0 1] [] G6 G_12)
    (bkn : BKr K G (G.2.2.1 (F p1 0)))
    (hac : ACo G (G.2.2.1 (F p1 0)))
    (mv : (vw (G_12.2.1 (F p0 0))) = mvR (clsA G (G.2.2.1 (F p1 0))) (clsT G (G.2.2.1 (F p1 0))) (clsC G (G.2.2.1 (F p1 0))) p2.toInt p3.toInt p4.toInt (rmv (vw (G.2.1 (F p0 0))) p2.toInt p3.toInt p4.toInt) (Int.toNat (l6_12.toInt)))
    (hs22 : G_12.2.2.1 (F p1 0) (l6_12.toInt).toNat = some q22)
    (oq63 : (vw (G63.2.1 (F p0 0))) = repl (vw (G_12.2.1 (F p0 0))) ((G.1 q22 2).toInt) ((G.1 q22 3).toInt) p3.toInt p4.toInt 30)
    (e1 : 0 ≤ p2.toInt ∧ p2.toInt < 3 ∧ 0 ≤ p3.toInt ∧ p3.toInt < 30 ∧ 0 ≤ p4.toInt ∧ p4.toInt < 30 ∧ p3.toInt ≠ p4.toInt)
    (e3 : (cel (vw (G.2.1 (F p0 0))) (p2.toInt) (p3.toInt) 0) ≠ -2000)
    (I12_0 : 0 ≤ l6_12.toInt ∧ l6_12.toInt ≤ 12)
    (I12_1 : (0 : Int) ≤ l6_12.toInt)
    (hm12 : 2147483648 - l6_12.toInt < (((N12) + 1 : Nat) : Int))
    (c16 : ¬ ((12 : Int) ≤ l6_12.toInt))
    (ht22 : 0 ≤ l6_12.toInt ∧ l6_12.toInt < 12)
    (t35 : ((((G.1 q22 0).toInt) = 1 ∧ ((G.1 q22 4).toInt) = p2.toInt ∧ ((G.1 q22 7).toInt) ≠ 0) ∧ x35.toInt = 1) ∨ (¬ (((G.1 q22 0).toInt) = 1 ∧ ((G.1 q22 4).toInt) = p2.toInt ∧ ((G.1 q22 7).toInt) ≠ 0) ∧ x35.toInt = 0))
    (c38 : ¬ (x35.toInt = 0))
    (c52 : ¬ (((G.1 q22 7).toInt) ≠ (1 : Int)))
    (r_G_12_F_p1_0 : G_12.2.2.1 (F p1 0) = G.2.2.1 (F p1 0)) :
    (vw (G63.2.1 (F p0 0))) = mvR (clsA G (G.2.2.1 (F p1 0))) (clsT G (G.2.2.1 (F p1 0))) (clsC G (G.2.2.1 (F p1 0))) p2.toInt p3.toInt p4.toInt (rmv (vw (G.2.1 (F p0 0))) p2.toInt p3.toInt p4.toInt) (Int.toNat (l6_12.toInt + 1)) := by
  have hd : ∀ p, p ∈ ([] : List (Nat × Nat)) → K p.1 ≠ 9 := fun _ h => by cases h
  have hc : ∀ (i q : Nat), i < 12 → G.2.2.1 (F p1 0) i = some q → G_12.1 q = G.1 q := fun i q hi hq => (hF_12.rule hd (bkn i q hi hq).1).trans (hF6.rule hd (bkn i q hi hq).1)
  have hq : G.2.2.1 (F p1 0) l6_12.toInt.toNat = some q22 := by rw [← r_G_12_F_p1_0]; exact hs22
  have hg : G_12.1 q22 = G.1 q22 := hc _ q22 (by omega) hq
  have as := clsA_s (G := G) (t := p2.toInt) hq
  have ac := hac _ q22 (by omega) hq
  rw [hg] at *
  have ts := clsT_s (G := G) hq ⟨by omega, by omega, by omega⟩
  rw [if_pos (by omega)] at as
  rw [mvR_s (by omega), if_pos (by omega), ts.1, ts.2, ← mv, as, oq63]
  first
    | rw [if_pos (by omega)]
    | rw [if_neg (by omega)]
theorem v_X2_moveRow_69_15 {F : Nat → Nat → Nat} (p0 : Nat) (G_12 : XG) (G63 : XG)
    (ro : RO (vw (G_12.2.1 (F p0 0))) (aI (G_12.2.1 (F p0 1))))
    (oq63a : RO (vw (G63.2.1 (F p0 0))) (aI (G63.2.1 (F p0 1)))) :
    RO (vw (G63.2.1 (F p0 0))) (aI (G63.2.1 (F p0 1))) := by
  first | exact oq63a | exact ro
theorem v_X2_moveRow_10_16 {F : Nat → Nat → Nat} (p0 : Nat) (p1 : Nat) (G : XG) (G6 : XG) (p2 : Int32) (p3 : Int32) (p4 : Int32)
    (oq6 : (vw (G6.2.1 (F p0 0))) = rmv (vw (G.2.1 (F p0 0))) (p2.toInt) (p3.toInt) (p4.toInt)) :
    (vw (G6.2.1 (F p0 0))) = mvR (clsA G (G.2.2.1 (F p1 0))) (clsT G (G.2.2.1 (F p1 0))) (clsC G (G.2.2.1 (F p1 0))) p2.toInt p3.toInt p4.toInt (rmv (vw (G.2.1 (F p0 0))) p2.toInt p3.toInt p4.toInt) (Int.toNat (0 : Int)) := by
  rw [oq6]; rfl
theorem v_X2_moveRow_10_17 {F : Nat → Nat → Nat} (p0 : Nat) (G6 : XG)
    (oq6a : RO (vw (G6.2.1 (F p0 0))) (aI (G6.2.1 (F p0 1)))) :
    RO (vw (G6.2.1 (F p0 0))) (aI (G6.2.1 (F p0 1))) := by
  exact oq6a
theorem z_X2_moveRow_1 (a0 : Int) (a1 : Int) (a2 : Int) (h0 : 0 ≤ a0) (h1 : a0 < 3) (h2 : 0 ≤ a1) (h3 : a1 < 30) (h4 : 0 ≤ a2) (h5 : a2 < 30) (h6 : a1 ≠ a2) : 0 ≤ a0 ∧ a0 < 3 ∧ 0 ≤ a1 ∧ a1 < 30 ∧ 0 ≤ a2 ∧ a2 < 30 ∧ a1 ≠ a2 := by omega
theorem z_X2_moveRow_3 (a0 : Int) (h0 : 0 ≤ a0 ∧ a0 ≤ 12) : ¬ (2147483648 - a0 < ((0 : Nat) : Int)) := by omega
theorem z_X2_moveRow_4 (a0 : Int) (a1 : Int) (h0 : 0 ≤ a0 ∧ a0 ≤ 12) (h1 : a1 = (a0 + 1) ∨ (a0 + 1) < -2147483648 ∨ 2147483648 ≤ (a0 + 1)) : a1 = (a0 + 1) := by omega
theorem z_X2_moveRow_5 (a0 : Int) (h0 : 0 ≤ a0 ∧ a0 ≤ 12) (h1 : ¬ ((12 : Int) ≤ a0)) : 0 ≤ (a0 + 1) ∧ (a0 + 1) ≤ 12 := by omega
theorem z_X2_moveRow_6 (a0 : Int) (h0 : 0 ≤ a0 ∧ a0 ≤ 12) : (0 : Int) ≤ (a0 + 1) := by omega
theorem z_X2_moveRow_7 (a0 : Int) (a1 : Nat) (h0 : 2147483648 - a0 < ((a1 + 1 : Nat) : Int)) : 2147483648 - (a0 + 1) < ((a1 : Nat) : Int) := by omega
theorem z_X2_moveRow_12 (a0 : Int) (h0 : 0 ≤ a0) (h1 : a0 < 30) : 0 ≤ a0 ∧ a0 < 30 := by omega
theorem z_X2_moveRow_18 (a0 : Int) (h0 : 0 ≤ a0) (h1 : a0 < 30) : a0 = -1000 ∨ (-99 ≤ a0 ∧ a0 ≤ 99) := by omega
abbrev rm_X2_moveRow : Room := { frames := 4, cells := 0, slots := 0, locals := 91 }
set_option maxHeartbeats 4000000 in
set_option maxRecDepth 100000 in
theorem c_X2_moveRow (l : Launch) (E : XE) (K : Nat → Nat) (F : Nat → Nat → Nat) (G : XG) (a : Nat) (p0 : Nat) (p1 : Nat) (p2 : Int32) (p3 : Int32) (p4 : Int32) (ha : K a = 4) (hp0 : K p0 = 8) (hp1 : K p1 = 2) (e1 : 0 ≤ p2.toInt ∧ p2.toInt < 3 ∧ 0 ≤ p3.toInt ∧ p3.toInt < 30 ∧ 0 ≤ p4.toInt ∧ p4.toInt < 30 ∧ p3.toInt ≠ p4.toInt) (e3 : (cel (vw (G.2.1 (F p0 0))) (p2.toInt) (p3.toInt) 0) ≠ -2000) (hro : RO (vw (G.2.1 (F p0 0))) (aI (G.2.1 (F p0 1)))) (bkn : BKr K G (G.2.2.1 (F p1 0))) (hac : ACo G (G.2.2.1 (F p1 0))) : Met l yX2_moveRow (xw yX2_moveRow cX2_moveRow 8 none) rm_X2_moveRow (va_Pc [.ref a, .ref p0, .ref p1, .int p2, .int p3, .int p4] (XP E K F G)) (XQv E (fun (u : XG) => XFr [] [F p0 0, F p0 1] [] G u ∧ ((vw (u.2.1 (F p0 0))) = mvR (clsA G (G.2.2.1 (F p1 0))) (clsT G (G.2.2.1 (F p1 0))) (clsC G (G.2.2.1 (F p1 0))) p2.toInt p3.toInt p4.toInt (rmv (vw (G.2.1 (F p0 0))) p2.toInt p3.toInt p4.toInt) 12) ∧ (RO (vw (u.2.1 (F p0 0))) (aI (u.2.1 (F p0 1))))) (fun u H => TW E K F u H)) 0 0 (xA E) := by
  refine x_enter (by decide) (Nat.le_of_ble_eq_true rfl) ?_
  intro p e s m args below meth c Q S hr hlk hnm hQ hP ls hl
  obtain ⟨hz, hK, hT⟩ := hP
  obtain ⟨hx, hb, -, -, -⟩ := id S
  obtain ⟨H, hT, hS, hgo⟩ : ∃ H : Heap, TW E K F G H ∧ va_S (xA E) s.heap H [] ∧ H = s.heap := ⟨_, hT, va_S.rf, rfl⟩
  rw [← hgo]
  have hl : lv_has ls 8 [(0, .ref a), (1, .ref p0), (2, .ref p1), (3, .int p2), (4, .int p3), (5, .int p4)] := hl
  obtain ⟨hk9999, hj9999⟩ := fkX6_0 hT hp0
  obtain ⟨hk9999a, hj9999a⟩ := fkX6_1 hT hp0
  obtain ⟨hk9999b, hj9999b⟩ := fkX0_0 hT hp1
  refine lv_aload_n hx hb dX2_moveRow_0 rfl (lv_at hl 1 rfl) ?_
  refine lv_iload_n hx hb dX2_moveRow_1 rfl (lv_at hl 3 rfl) ?_
  refine lv_iload hx hb dX2_moveRow_2 (lv_at hl 4 rfl) ?_
  refine lv_iload hx hb dX2_moveRow_4 (lv_at hl 5 rfl) ?_
  refine x_cv0 (x_runV (b := p0) (As := [.int p2, .int p3, .int p4]) (rest := []) S (c_X6_move l E K F G p0 p2 p3 p4 hp0 (z_X2_moveRow_1 p2.toInt p3.toInt p4.toInt (e1).1 (e1).2.1 (e1).2.2.1 (e1).2.2.2.1 (e1).2.2.2.2.1 (e1).2.2.2.2.2.1 (e1).2.2.2.2.2.2) (e3) (v_X2_moveRow_6_1 (F := F) p0 G hro)) mv_X6_move km_X2_36 rfl rfl ⟨Nat.le_of_ble_eq_true rfl, Nat.le_of_ble_eq_true rfl⟩ (rc_8 hK hT hp0) hK (fun _ => XP.blind) (fun U hU hW => XP.at hK hz hS hT hU hW) rfl hl.1 (Nat.le_of_ble_eq_true rfl) dX2_moveRow_6 ⟨Nat.le_of_ble_eq_true rfl, Nat.le_of_ble_eq_true rfl⟩) hS ?_
  rintro G6 H locs ⟨hF6, oq6, oq6a⟩ hT hS
  refine lv_iconst (v := 0) hx hb dX2_moveRow_9 (by decide) ?_
  refine lv_istore (lv' := [(6, .int 0), (0, .ref a), (1, .ref p0), (2, .ref p1), (3, .int p2), (4, .int p3), (5, .int p4)]) hx hb dX2_moveRow_10 hl (by decide) rfl (fun ls hl => ?_)
  have L12 : ∀ (N12 : Nat) (l6_12 : Int32) (G_12 : XG) (H : Heap) (locs : List Loc) (ls : Array Slot), XFr [] [F p0 0, F p0 1] [] G6 G_12 → (vw (G_12.2.1 (F p0 0))) = mvR (clsA G (G.2.2.1 (F p1 0))) (clsT G (G.2.2.1 (F p1 0))) (clsC G (G.2.2.1 (F p1 0))) p2.toInt p3.toInt p4.toInt (rmv (vw (G.2.1 (F p0 0))) p2.toInt p3.toInt p4.toInt) (Int.toNat (l6_12.toInt)) → RO (vw (G_12.2.1 (F p0 0))) (aI (G_12.2.1 (F p0 1))) → 0 ≤ l6_12.toInt ∧ l6_12.toInt ≤ 12 → (0 : Int) ≤ l6_12.toInt → 2147483648 - l6_12.toInt < ((N12 : Nat) : Int) → TW E K F G_12 H → va_S (xA E) s.heap H locs → lv_has ls 8 [(1, .ref p0), (2, .ref p1), (3, .int p2), (4, .int p3), (5, .int p4), (6, .int l6_12)] → W p l e rm_X2_moveRow s m args below meth c H locs 0 0 Q (F0 m 12 ls []) := by
    intro N12
    induction N12 with
    | zero =>
      intro l6_12 G_12 H locs ls hF_12 mv ro I12_0 I12_1 hm12
      exact absurd hm12 (z_X2_moveRow_3 l6_12.toInt I12_0)
    | succ N12 ih12 =>
      intro l6_12 G_12 H locs ls hF_12 mv ro I12_0 I12_1 hm12 hT hS hl
      refine lv_iload hx hb dX2_moveRow_12 (lv_at hl 5 rfl) ?_
      refine lv_bipush (v := 12) hx hb dX2_moveRow_14 (by decide) ?_
      refine xi_cge (tgt := 72) hx hb (rfl : Int32.toInt l6_12 = l6_12.toInt) ((by decide) : Int32.toInt 12 = (12 : Int)) dX2_moveRow_16 (by decide) (fun c16 => ?_) (fun c16 => ?_)
      · exact x_rv hx hb hr hlk hQ (Nat.le_of_ble_eq_true rfl) (Nat.le_of_ble_eq_true rfl) hS dX2_moveRow_72 G_12 ⟨(XFr.call (XFr.call XFr.rf hF6 xm0 (xm1 0 rfl (xm1 1 rfl xm0)) xm0) hF_12 xm0 (xm1 0 rfl (xm1 1 rfl xm0)) xm0), (v_X2_moveRow_72_2 (K := K) (F := F) a p0 p1 G G_12 p2 p3 p4 l6_12 N12 ha hp0 hp1 mv e1 e3 I12_0 I12_1 hm12 c16), (v_X2_moveRow_72_3 (F := F) p0 G_12 ro)⟩ hT
      · refine lv_aload_n hx hb dX2_moveRow_19 rfl (lv_at hl 1 rfl) ?_
        refine lv_iload hx hb dX2_moveRow_20 (lv_at hl 5 rfl) ?_
        refine x_clp (x_runV (b := p1) (As := [.int l6_12]) (rest := []) S (c_X0_get l E K F G_12 H p1 l6_12 hp1) mv_X0_get km_X2_42 rfl rfl ⟨Nat.le_of_ble_eq_true rfl, Nat.le_of_ble_eq_true rfl⟩ (rc_2 hK hT hp1) hK (fun _ => XPh.blind) (fun U hU hW => XPh.at hK hz hS hT hU hW) rfl hl.1 (Nat.le_of_ble_eq_true rfl) dX2_moveRow_22 ⟨Nat.le_of_ble_eq_true rfl, Nat.le_of_ble_eq_true rfl⟩) hS ?_
        rintro _ _ locs (⟨rfl, hn22⟩ | ⟨q22, rfl, hk22, ht22, hs22⟩) hS
        · refine lv_astoreN (lv' := [(7, .null), (1, .ref p0), (2, .ref p1), (3, .int p2), (4, .int p3), (5, .int p4), (6, .int l6_12)]) hx hb dX2_moveRow_25 hl (by decide) rfl (fun ls hl => ?_)
          refine lv_aloadN hx hb dX2_moveRow_27 (lv_at hl 0 rfl) ?_
          refine lv_ifnullN (tgt := 66) hx hb dX2_moveRow_29 (by decide) ?_
          refine xi_iinc (n := 1) (lv' := fun z9 => [(6, .int z9), (7, .null), (1, .ref p0), (2, .ref p1), (3, .int p2), (4, .int p3), (5, .int p4)]) (k := 6) hx hb (rfl : Int32.toInt l6_12 = l6_12.toInt) (by decide) dX2_moveRow_66 hl rfl (by decide) (fun _ => rfl) (fun x66 ls t66 hl => ?_)
          have e66 : x66.toInt = (l6_12.toInt + 1) := (z_X2_moveRow_4 l6_12.toInt x66.toInt I12_0 t66)
          have hl : lv_has ls 8 [(6, .int x66), (7, .null), (1, .ref p0), (2, .ref p1), (3, .int p2), (4, .int p3), (5, .int p4)] := hl
          refine lv_goto (tgt := 12) hx hb dX2_moveRow_69 (by decide) ?_
          exact ih12 x66 G_12 _ _ _ (XFr.call XFr.rf hF_12 xm0 (xm1 0 rfl (xm1 1 rfl xm0)) xm0) (by rw [(e66 : Int32.toInt x66 = (l6_12.toInt + 1))] <;> exact (v_X2_moveRow_69_4 (K := K) (F := F) a p0 p1 G G_12 p2 p3 p4 l6_12 N12 ha hp0 hp1 mv hn22 e1 e3 I12_0 I12_1 hm12 c16 ((hF_12.2.2 _ xn0).trans (hF6.2.2 _ xn0)))) (v_X2_moveRow_69_5 (F := F) p0 G_12 ro) (by rw [(e66 : Int32.toInt x66 = (l6_12.toInt + 1))] <;> exact (z_X2_moveRow_5 l6_12.toInt I12_0 c16)) (by rw [(e66 : Int32.toInt x66 = (l6_12.toInt + 1))] <;> exact (z_X2_moveRow_6 l6_12.toInt I12_0)) (by rw [(e66 : Int32.toInt x66 = (l6_12.toInt + 1))] <;> exact (z_X2_moveRow_7 l6_12.toInt N12 hm12)) hT hS (lv_sub hl [2, 3, 4, 5, 6, 0] rfl)
        · have ht22 : 0 ≤ l6_12.toInt ∧ l6_12.toInt < 12 := ht22
          refine lv_astore (lv' := [(7, .ref q22), (1, .ref p0), (2, .ref p1), (3, .int p2), (4, .int p3), (5, .int p4), (6, .int l6_12)]) hx hb dX2_moveRow_25 hl (by decide) rfl (fun ls hl => ?_)
          refine lv_aload hx hb dX2_moveRow_27 (lv_at hl 0 rfl) ?_
          refine lv_ifnull hx hb dX2_moveRow_29 ?_
          refine lv_aload hx hb dX2_moveRow_32 (lv_at hl 0 rfl) ?_
          refine lv_iload_n hx hb dX2_moveRow_34 rfl (lv_at hl 3 rfl) ?_
          refine x_clp (x_runV (b := q22) (As := [.int p2]) (rest := []) S (c_X7_follows l E K F G_12 H q22 p2 hk22) mv_X7_follows km_X2_48 rfl rfl ⟨Nat.le_of_ble_eq_true rfl, Nat.le_of_ble_eq_true rfl⟩ (rc_9 hK hT hk22) hK (fun _ => XPh.blind) (fun U hU hW => XPh.at hK hz hS hT hU hW) rfl hl.1 (Nat.le_of_ble_eq_true rfl) dX2_moveRow_35 ⟨Nat.le_of_ble_eq_true rfl, Nat.le_of_ble_eq_true rfl⟩) hS ?_
          rintro _ _ locs ⟨x35, rfl, b35, t35⟩ hS
          have t35 : ((((G.1 q22 0).toInt) = 1 ∧ ((G.1 q22 4).toInt) = p2.toInt ∧ ((G.1 q22 7).toInt) ≠ 0) ∧ x35.toInt = 1) ∨ (¬ (((G.1 q22 0).toInt) = 1 ∧ ((G.1 q22 4).toInt) = p2.toInt ∧ ((G.1 q22 7).toInt) ≠ 0) ∧ x35.toInt = 0) := by rw [(show (G_12.1 q22 0).toInt = ((G.1 q22 0).toInt) from (congrArg Int32.toInt ((hF_12.1 _ _ xn0).trans (hF6.1 _ _ xn0))).trans (rfl : Int32.toInt (G.1 q22 0) = ((G.1 q22 0).toInt)))] at t35; rw [(show (G_12.1 q22 4).toInt = ((G.1 q22 4).toInt) from (congrArg Int32.toInt ((hF_12.1 _ _ xn0).trans (hF6.1 _ _ xn0))).trans (rfl : Int32.toInt (G.1 q22 4) = ((G.1 q22 4).toInt)))] at t35; rw [(show (G_12.1 q22 7).toInt = ((G.1 q22 7).toInt) from (congrArg Int32.toInt ((hF_12.1 _ _ xn0).trans (hF6.1 _ _ xn0))).trans (rfl : Int32.toInt (G.1 q22 7) = ((G.1 q22 7).toInt)))] at t35; exact t35
          refine xi_zeq (tgt := 66) hx hb (rfl : Int32.toInt x35 = x35.toInt) dX2_moveRow_38 (by decide) (fun c38 => ?_) (fun c38 => ?_)
          · refine xi_iinc (n := 1) (lv' := fun z9 => [(6, .int z9), (7, .ref q22), (1, .ref p0), (2, .ref p1), (3, .int p2), (4, .int p3), (5, .int p4)]) (k := 6) hx hb (rfl : Int32.toInt l6_12 = l6_12.toInt) (by decide) dX2_moveRow_66 hl rfl (by decide) (fun _ => rfl) (fun x66 ls t66 hl => ?_)
            have e66 : x66.toInt = (l6_12.toInt + 1) := (z_X2_moveRow_4 l6_12.toInt x66.toInt I12_0 t66)
            have hl : lv_has ls 8 [(6, .int x66), (7, .ref q22), (1, .ref p0), (2, .ref p1), (3, .int p2), (4, .int p3), (5, .int p4)] := hl
            refine lv_goto (tgt := 12) hx hb dX2_moveRow_69 (by decide) ?_
            exact ih12 x66 G_12 _ _ _ (XFr.call XFr.rf hF_12 xm0 (xm1 0 rfl (xm1 1 rfl xm0)) xm0) (by rw [(e66 : Int32.toInt x66 = (l6_12.toInt + 1))] <;> exact (v_X2_moveRow_69_6 (K := K) (F := F) a p0 p1 q22 G G6 G_12 p2 p3 p4 l6_12 N12 x35 ha hp0 hp1 hk9999 hj9999 hk9999a hj9999a hk9999b hj9999b hk22 hF6 hF_12 bkn hac mv hs22 e1 e3 I12_0 I12_1 hm12 c16 ht22 t35 c38 ((hF_12.2.2 _ xn0).trans (hF6.2.2 _ xn0)))) (v_X2_moveRow_69_7 (F := F) p0 G_12 ro) (by rw [(e66 : Int32.toInt x66 = (l6_12.toInt + 1))] <;> exact (z_X2_moveRow_5 l6_12.toInt I12_0 c16)) (by rw [(e66 : Int32.toInt x66 = (l6_12.toInt + 1))] <;> exact (z_X2_moveRow_6 l6_12.toInt I12_0)) (by rw [(e66 : Int32.toInt x66 = (l6_12.toInt + 1))] <;> exact (z_X2_moveRow_7 l6_12.toInt N12 hm12)) hT hS (lv_sub hl [2, 3, 4, 5, 6, 0] rfl)
          · refine lv_aload_n hx hb dX2_moveRow_41 rfl (lv_at hl 1 rfl) ?_
            refine lv_aload hx hb dX2_moveRow_42 (lv_at hl 0 rfl) ?_
            refine lv_iload hx hb dX2_moveRow_44 (lv_at hl 4 rfl) ?_
            refine lv_aload hx hb dX2_moveRow_46 (lv_at hl 0 rfl) ?_
            refine gX7_7 S hK hT hk22 kf_X2_54 dX2_moveRow_48 (v := (G.1 q22 7)) ((hF_12.1 _ _ xn0).trans (hF6.1 _ _ xn0)) (?_)
            refine lv_iconst (v := 1) hx hb dX2_moveRow_51 (by decide) ?_
            refine xi_cne (tgt := 60) hx hb (rfl : Int32.toInt (G.1 q22 7) = ((G.1 q22 7).toInt)) ((by decide) : Int32.toInt 1 = (1 : Int)) dX2_moveRow_52 (by decide) (fun c52 => ?_) (fun c52 => ?_)
            · refine lv_sipush (v := (-1000)) hx hb dX2_moveRow_60 (by decide) ?_
              refine x_cv0 (x_runS (As := [.ref p0, .ref q22, .int p3, .int (-1000)]) (rest := []) S (c_X2_replace l E K F G_12 p0 q22 p3 (-1000) hp0 hk22 (z_X2_moveRow_12 p3.toInt (e1).2.2.1 (e1).2.2.2.1) (by rw [((by decide) : Int32.toInt (-1000) = (-1000 : Int))] <;> exact (by decide)) (v_X2_moveRow_63_8 (F := F) p0 G_12 ro) (v_X2_moveRow_63_9 (K := K) (F := F) a p0 p1 q22 G G6 G_12 p2 p3 p4 l6_12 N12 x35 ha hp0 hp1 hk9999 hj9999 hk9999a hj9999a hk9999b hj9999b hk22 hF6 hF_12 bkn hs22 e1 e3 I12_0 I12_1 hm12 c16 ht22 t35 c38 c52 ((hF_12.2.2 _ xn0).trans (hF6.2.2 _ xn0)))) ms_X2_replace km_X2_57 rfl rfl ⟨Nat.le_of_ble_eq_true rfl, Nat.le_of_ble_eq_true rfl⟩ hK (fun _ => XP.blind) (fun U hU hW => XP.at hK hz hS hT hU hW) rfl hl.1 (Nat.le_of_ble_eq_true rfl) dX2_moveRow_63 ⟨Nat.le_of_ble_eq_true rfl, Nat.le_of_ble_eq_true rfl⟩) hS ?_
              rintro G63 H locs ⟨hF63, oq63, oq63a⟩ hT hS
              have oq63 : (vw (G63.2.1 (F p0 0))) = repl (vw (G_12.2.1 (F p0 0))) ((G.1 q22 2).toInt) ((G.1 q22 3).toInt) p3.toInt (-1000 : Int) 30 := by simp only [((by decide) : Int32.toInt (-1000) = (-1000 : Int)), (show G_12.1 q22 2 = G.1 q22 2 from ((hF_12.1 _ _ xn0).trans (hF6.1 _ _ xn0))), (show G_12.1 q22 3 = G.1 q22 3 from ((hF_12.1 _ _ xn0).trans (hF6.1 _ _ xn0)))] at oq63; exact oq63
              refine xi_iinc (n := 1) (lv' := fun z9 => [(6, .int z9), (7, .ref q22), (1, .ref p0), (2, .ref p1), (3, .int p2), (4, .int p3), (5, .int p4)]) (k := 6) hx hb (rfl : Int32.toInt l6_12 = l6_12.toInt) (by decide) dX2_moveRow_66 hl rfl (by decide) (fun _ => rfl) (fun x66 ls t66 hl => ?_)
              have e66 : x66.toInt = (l6_12.toInt + 1) := (z_X2_moveRow_4 l6_12.toInt x66.toInt I12_0 t66)
              have hl : lv_has ls 8 [(6, .int x66), (7, .ref q22), (1, .ref p0), (2, .ref p1), (3, .int p2), (4, .int p3), (5, .int p4)] := hl
              refine lv_goto (tgt := 12) hx hb dX2_moveRow_69 (by decide) ?_
              exact ih12 x66 G63 _ _ _ (XFr.call (XFr.call XFr.rf hF_12 xm0 (xm1 0 rfl (xm1 1 rfl xm0)) xm0) hF63 xm0 (xm1 0 rfl (xm1 1 rfl xm0)) xm0) (by rw [(e66 : Int32.toInt x66 = (l6_12.toInt + 1))] <;> exact (v_X2_moveRow_69_10 (K := K) (F := F) a p0 p1 q22 G G6 G_12 G63 p2 p3 p4 l6_12 N12 x35 ha hp0 hp1 hk9999 hj9999 hk9999a hj9999a hk9999b hj9999b hk22 hF6 hF_12 bkn hac mv hs22 oq63 e1 e3 I12_0 I12_1 hm12 c16 ht22 t35 c38 c52 ((hF_12.2.2 _ xn0).trans (hF6.2.2 _ xn0)))) (v_X2_moveRow_69_11 (F := F) p0 G_12 G63 ro oq63a) (by rw [(e66 : Int32.toInt x66 = (l6_12.toInt + 1))] <;> exact (z_X2_moveRow_5 l6_12.toInt I12_0 c16)) (by rw [(e66 : Int32.toInt x66 = (l6_12.toInt + 1))] <;> exact (z_X2_moveRow_6 l6_12.toInt I12_0)) (by rw [(e66 : Int32.toInt x66 = (l6_12.toInt + 1))] <;> exact (z_X2_moveRow_7 l6_12.toInt N12 hm12)) hT hS (lv_sub hl [2, 3, 4, 5, 6, 0] rfl)
            · refine lv_iload hx hb dX2_moveRow_55 (lv_at hl 5 rfl) ?_
              refine lv_goto (tgt := 63) hx hb dX2_moveRow_57 (by decide) ?_
              refine x_cv0 (x_runS (As := [.ref p0, .ref q22, .int p3, .int p4]) (rest := []) S (c_X2_replace l E K F G_12 p0 q22 p3 p4 hp0 hk22 (z_X2_moveRow_12 p3.toInt (e1).2.2.1 (e1).2.2.2.1) (z_X2_moveRow_18 p4.toInt (e1).2.2.2.2.1 (e1).2.2.2.2.2.1) (v_X2_moveRow_63_12 (F := F) p0 G_12 ro) (v_X2_moveRow_63_13 (K := K) (F := F) a p0 p1 q22 G G6 G_12 p2 p3 p4 l6_12 N12 x35 ha hp0 hp1 hk9999 hj9999 hk9999a hj9999a hk9999b hj9999b hk22 hF6 hF_12 bkn hs22 e1 e3 I12_0 I12_1 hm12 c16 ht22 t35 c38 c52 ((hF_12.2.2 _ xn0).trans (hF6.2.2 _ xn0)))) ms_X2_replace km_X2_57 rfl rfl ⟨Nat.le_of_ble_eq_true rfl, Nat.le_of_ble_eq_true rfl⟩ hK (fun _ => XP.blind) (fun U hU hW => XP.at hK hz hS hT hU hW) rfl hl.1 (Nat.le_of_ble_eq_true rfl) dX2_moveRow_63 ⟨Nat.le_of_ble_eq_true rfl, Nat.le_of_ble_eq_true rfl⟩) hS ?_
              rintro G63 H locs ⟨hF63, oq63, oq63a⟩ hT hS
              have oq63 : (vw (G63.2.1 (F p0 0))) = repl (vw (G_12.2.1 (F p0 0))) ((G.1 q22 2).toInt) ((G.1 q22 3).toInt) p3.toInt p4.toInt 30 := by simp only [(show G_12.1 q22 2 = G.1 q22 2 from ((hF_12.1 _ _ xn0).trans (hF6.1 _ _ xn0))), (show G_12.1 q22 3 = G.1 q22 3 from ((hF_12.1 _ _ xn0).trans (hF6.1 _ _ xn0)))] at oq63; exact oq63
              refine xi_iinc (n := 1) (lv' := fun z9 => [(6, .int z9), (7, .ref q22), (1, .ref p0), (2, .ref p1), (3, .int p2), (4, .int p3), (5, .int p4)]) (k := 6) hx hb (rfl : Int32.toInt l6_12 = l6_12.toInt) (by decide) dX2_moveRow_66 hl rfl (by decide) (fun _ => rfl) (fun x66 ls t66 hl => ?_)
              have e66 : x66.toInt = (l6_12.toInt + 1) := (z_X2_moveRow_4 l6_12.toInt x66.toInt I12_0 t66)
              have hl : lv_has ls 8 [(6, .int x66), (7, .ref q22), (1, .ref p0), (2, .ref p1), (3, .int p2), (4, .int p3), (5, .int p4)] := hl
              refine lv_goto (tgt := 12) hx hb dX2_moveRow_69 (by decide) ?_
              exact ih12 x66 G63 _ _ _ (XFr.call (XFr.call XFr.rf hF_12 xm0 (xm1 0 rfl (xm1 1 rfl xm0)) xm0) hF63 xm0 (xm1 0 rfl (xm1 1 rfl xm0)) xm0) (by rw [(e66 : Int32.toInt x66 = (l6_12.toInt + 1))] <;> exact (v_X2_moveRow_69_14 (K := K) (F := F) a p0 p1 q22 G G6 G_12 G63 p2 p3 p4 l6_12 N12 x35 ha hp0 hp1 hk9999 hj9999 hk9999a hj9999a hk9999b hj9999b hk22 hF6 hF_12 bkn hac mv hs22 oq63 e1 e3 I12_0 I12_1 hm12 c16 ht22 t35 c38 c52 ((hF_12.2.2 _ xn0).trans (hF6.2.2 _ xn0)))) (v_X2_moveRow_69_15 (F := F) p0 G_12 G63 ro oq63a) (by rw [(e66 : Int32.toInt x66 = (l6_12.toInt + 1))] <;> exact (z_X2_moveRow_5 l6_12.toInt I12_0 c16)) (by rw [(e66 : Int32.toInt x66 = (l6_12.toInt + 1))] <;> exact (z_X2_moveRow_6 l6_12.toInt I12_0)) (by rw [(e66 : Int32.toInt x66 = (l6_12.toInt + 1))] <;> exact (z_X2_moveRow_7 l6_12.toInt N12 hm12)) hT hS (lv_sub hl [2, 3, 4, 5, 6, 0] rfl)
  exact L12 4294967297 0 G6 _ _ _ XFr.rf (v_X2_moveRow_10_16 (F := F) p0 p1 G G6 p2 p3 p4 oq6) (v_X2_moveRow_10_17 (F := F) p0 G6 oq6a) (by decide) (by decide) (by decide) hT hS (lv_sub hl [2, 3, 4, 5, 6, 0] rfl)
theorem v_X10_cut_26_1 {K : Nat → Nat} {F : Nat → Nat → Nat} (a : Nat) (G : XG) (G23 : XG) (G4 : XG) (x8 : Int32) (p0 : Int32) (p1 : Int32)
    (ha : K a = 12)
    (sb : 0 ≤ ((G.1 (F a 2) 2).toInt) ∧ ((G.1 (F a 2) 2).toInt) ≤ 12)
    (sw : 0 ≤ ((G.1 (F a 8) 6).toInt) ∧ ((G.1 (F a 8) 6).toInt) ≤ 1080)
    (t4 : ((G4.1 (F a 14) 1).toInt) = 0)
    (t8 : (x8.toInt = 1 ∧ 0 ≤ p0.toInt ∧ p0.toInt < 3) ∨ (x8.toInt = 0 ∧ (p0.toInt < 0 ∨ 3 ≤ p0.toInt)))
    (c11 : x8.toInt = 0)
    (c_G23_F_F_a_3_0 : G23.2.1 (F (F a 3) 0) = G.2.1 (F (F a 3) 0))
    (c_G23_F_F_a_8_0 : G23.2.1 (F (F a 8) 0) = G.2.1 (F (F a 8) 0))
    (c_G23_F_F_a_8_1 : G23.2.1 (F (F a 8) 1) = G.2.1 (F (F a 8) 1))
    (c_G23_F_F_a_8_2 : G23.2.1 (F (F a 8) 2) = G.2.1 (F (F a 8) 2))
    (c_G23_F_F_a_8_3 : G23.2.1 (F (F a 8) 3) = G.2.1 (F (F a 8) 3))
    (c_G23_F_F_a_8_4 : G23.2.1 (F (F a 8) 4) = G.2.1 (F (F a 8) 4))
    (c_G23_F_F_a_8_5 : G23.2.1 (F (F a 8) 5) = G.2.1 (F (F a 8) 5))
    (d_G23_F_a_8_6 : G23.1 (F a 8) 6 = G.1 (F a 8) 6) :
    ((-1 : Int) = -1 ∧ ¬ ((0 ≤ p0.toInt ∧ p0.toInt < 3) ∧ (0 ≤ p1.toInt ∧ p1.toInt < 30)) ∧ ((vw (G23.2.1 (F (F a 3) 0))) = (vw (G.2.1 (F (F a 3) 0))) ∧ qL G23 F (F a 8) = qL G F (F a 8))) ∨ (((0 ≤ p0.toInt ∧ p0.toInt < 3) ∧ (0 ≤ p1.toInt ∧ p1.toInt < 30)) ∧ (-1 : Int) = -2 ∧ cel (vw (G.2.1 (F (F a 3) 0))) p0.toInt p1.toInt 0 = -2000 ∧ ((vw (G23.2.1 (F (F a 3) 0))) = (vw (G.2.1 (F (F a 3) 0))) ∧ qL G23 F (F a 8) = qL G F (F a 8))) ∨ (((0 ≤ p0.toInt ∧ p0.toInt < 3) ∧ (0 ≤ p1.toInt ∧ p1.toInt < 30)) ∧ cel (vw (G.2.1 (F (F a 3) 0))) p0.toInt p1.toInt 0 ≠ -2000 ∧ ActR ((G.1 a 18).toInt) (-1 : Int) (gaL G (G.2.2.1 (F (F a 2) 1)) (vw (G.2.1 (F (F a 3) 0))) (cfin (clsA G (G.2.2.1 (F (F a 2) 0))) (clsT G (G.2.2.1 (F (F a 2) 0))) (clsC G (G.2.2.1 (F (F a 2) 0))) ([(p0.toInt, p1.toInt, 0, 0)], rfil (vw (G.2.1 (F (F a 3) 0))) p0.toInt p1.toInt (-2000) 3)) 0 (((G.1 (F a 2) 2).toInt)).toNat) (vw (G.2.1 (F (F a 3) 0))) (vw (G23.2.1 (F (F a 3) 0))) (cfin (clsA G (G.2.2.1 (F (F a 2) 0))) (clsT G (G.2.2.1 (F (F a 2) 0))) (clsC G (G.2.2.1 (F (F a 2) 0))) ([(p0.toInt, p1.toInt, 0, 0)], rfil (vw (G.2.1 (F (F a 3) 0))) p0.toInt p1.toInt (-2000) 3)) (qL G F (F a 8)) (qL G23 F (F a 8)) (gaL G (G.2.2.1 (F (F a 2) 1)) (vw (G.2.1 (F (F a 4) 0))) (cfin (clsA G (G.2.2.1 (F (F a 2) 0))) (clsT G (G.2.2.1 (F (F a 2) 0))) (clsC G (G.2.2.1 (F (F a 2) 0))) ([(p0.toInt, p1.toInt, 0, 0)], rfil (vw (G.2.1 (F (F a 3) 0))) p0.toInt p1.toInt (-2000) 3)) 1 (((G.1 (F a 2) 2).toInt)).toNat)) := by
  exact Or.inl ⟨rfl, fun h => by omega, by rw [c_G23_F_F_a_3_0], qL_cg d_G23_F_a_8_6 c_G23_F_F_a_8_0 c_G23_F_F_a_8_1 c_G23_F_F_a_8_2 c_G23_F_F_a_8_3 c_G23_F_F_a_8_4 c_G23_F_F_a_8_5⟩
theorem v_X10_cut_26_2 {F : Nat → Nat → Nat} (a : Nat) (G : XG) (G23 : XG)
    (ron : RO (vw (G.2.1 (F (F a 3) 0))) (aI (G.2.1 (F (F a 3) 1))))
    (c_G23_F_F_a_3_0 : G23.2.1 (F (F a 3) 0) = G.2.1 (F (F a 3) 0))
    (c_G23_F_F_a_3_1 : G23.2.1 (F (F a 3) 1) = G.2.1 (F (F a 3) 1)) :
    RO (vw (G23.2.1 (F (F a 3) 0))) (aI (G23.2.1 (F (F a 3) 1))) := by
  rw [c_G23_F_F_a_3_0, c_G23_F_F_a_3_1]; exact ron
theorem v_X10_cut_33_3 {F : Nat → Nat → Nat} (a : Nat) (G : XG) (G4 : XG)
    (ron : RO (vw (G.2.1 (F (F a 3) 0))) (aI (G.2.1 (F (F a 3) 1))))
    (rob : RO (vw (G.2.1 (F (F a 4) 0))) (aI (G.2.1 (F (F a 4) 1))))
    (c_G4_F_F_a_3_0 : G4.2.1 (F (F a 3) 0) = G.2.1 (F (F a 3) 0))
    (c_G4_F_F_a_3_1 : G4.2.1 (F (F a 3) 1) = G.2.1 (F (F a 3) 1)) :
    RO (vw (G4.2.1 (F (F a 3) 0))) (aI (G4.2.1 (F (F a 3) 1))) := by simp only [c_G4_F_F_a_3_0, c_G4_F_F_a_3_1]; assumption
theorem v_X10_cut_54_4 {F : Nat → Nat → Nat} (a : Nat) (G : XG) (G4 : XG)
    (ron : RO (vw (G.2.1 (F (F a 3) 0))) (aI (G.2.1 (F (F a 3) 1))))
    (rob : RO (vw (G.2.1 (F (F a 4) 0))) (aI (G.2.1 (F (F a 4) 1))))
    (c_G4_F_F_a_3_0 : G4.2.1 (F (F a 3) 0) = G.2.1 (F (F a 3) 0))
    (c_G4_F_F_a_3_1 : G4.2.1 (F (F a 3) 1) = G.2.1 (F (F a 3) 1)) :
    RO (vw (G4.2.1 (F (F a 3) 0))) (aI (G4.2.1 (F (F a 3) 1))) := by simp only [c_G4_F_F_a_3_0, c_G4_F_F_a_3_1]; assumption
theorem v_X10_cut_71_5 {F : Nat → Nat → Nat} (a : Nat) (G54 : XG)
    (oq54a : RO (vw (G54.2.1 (F (F a 5) 0))) (aI (G54.2.1 (F (F a 5) 1)))) :
    RO (vw (G54.2.1 (F (F a 5) 0))) (aI (G54.2.1 (F (F a 5) 1))) := by
  exact oq54a
theorem v_X10_cut_71_6 {K : Nat → Nat} {F : Nat → Nat → Nat} (a : Nat) (G : XG) (G54 : XG) (G4 : XG) (x8 : Int32) (p0 : Int32) (x15 : Int32) (p1 : Int32) (x33 : Int32)
    (ha : K a = 12)
    (hk9999 : K (F a 11) = 3)
    (hj9999 : F (F a 11) 99 = 0)
    (hk9999a : K (F a 9) = 6)
    (hj9999a : F (F a 9) 99 = 1)
    (hk9999b : K (F a 14) = 11)
    (hj9999b : F (F a 14) 99 = 0)
    (hk9999c : K (F a 10) = 6)
    (hj9999c : F (F a 10) 99 = 2)
    (hk9999d : K (F a 8) = 6)
    (hj9999d : F (F a 8) 99 = 0)
    (hk9999e : K (F a 12) = 4)
    (hj9999e : F (F a 12) 99 = 0)
    (hk9999f : K (F (F a 11) 0) = 21)
    (hj9999f : F (F (F a 11) 0) 99 = 100)
    (hk9999g : K (F (F a 11) 1) = 21)
    (hj9999g : F (F (F a 11) 1) 99 = 101)
    (hk9999h : K (F (F a 11) 2) = 24)
    (hj9999h : F (F (F a 11) 2) 99 = 4)
    (hk9999i : K (F (F a 9) 0) = 22)
    (hj9999j : F (F (F a 9) 0) 99 = 10 * 1 + 0)
    (hk9999j : K (F (F a 9) 1) = 22)
    (hj9999l : F (F (F a 9) 1) 99 = 10 * 1 + 1)
    (hk9999k : K (F (F a 9) 2) = 22)
    (hj9999n : F (F (F a 9) 2) 99 = 10 * 1 + 2)
    (hk9999l : K (F (F a 9) 3) = 22)
    (hj9999p : F (F (F a 9) 3) 99 = 10 * 1 + 3)
    (hk9999m : K (F (F a 9) 4) = 23)
    (hj9999r : F (F (F a 9) 4) 99 = 10 * 1 + 4)
    (hk9999n : K (F (F a 9) 5) = 23)
    (hj9999t : F (F (F a 9) 5) 99 = 10 * 1 + 5)
    (hk9999o : K (F a 16) = 27)
    (hj9999u : F (F a 16) 99 = 0)
    (hk9999p : K (F a 15) = 26)
    (hj9999v : F (F a 15) 99 = 0)
    (hk9999q : K (F (F a 10) 0) = 22)
    (hj9999y : F (F (F a 10) 0) 99 = 10 * 2 + 0)
    (hk9999r : K (F (F a 10) 1) = 22)
    (hj9999z26 : F (F (F a 10) 1) 99 = 10 * 2 + 1)
    (hk9999s : K (F (F a 10) 2) = 22)
    (hj9999z28 : F (F (F a 10) 2) 99 = 10 * 2 + 2)
    (hk9999t : K (F (F a 10) 3) = 22)
    (hj9999z30 : F (F (F a 10) 3) 99 = 10 * 2 + 3)
    (hk9999u : K (F (F a 10) 4) = 23)
    (hj9999z32 : F (F (F a 10) 4) 99 = 10 * 2 + 4)
    (hk9999v : K (F (F a 10) 5) = 23)
    (hj9999z34 : F (F (F a 10) 5) 99 = 10 * 2 + 5)
    (hk9999w : K (F a 3) = 8)
    (hj9999z35 : F (F a 3) 99 = 0)
    (hk9999y : K (F (F a 3) 0) = 20)
    (hj9999z37 : F (F (F a 3) 0) 99 = 0)
    (hk9999z25 : K (F (F a 3) 1) = 21)
    (hj9999z39 : F (F (F a 3) 1) 99 = 0)
    (hk9999z26 : K (F (F a 8) 0) = 22)
    (hj9999z41 : F (F (F a 8) 0) 99 = 10 * 0 + 0)
    (hk9999z27 : K (F (F a 8) 1) = 22)
    (hj9999z43 : F (F (F a 8) 1) 99 = 10 * 0 + 1)
    (hk9999z28 : K (F (F a 8) 2) = 22)
    (hj9999z45 : F (F (F a 8) 2) 99 = 10 * 0 + 2)
    (hk9999z29 : K (F (F a 8) 3) = 22)
    (hj9999z47 : F (F (F a 8) 3) 99 = 10 * 0 + 3)
    (hk9999z30 : K (F (F a 8) 4) = 23)
    (hj9999z49 : F (F (F a 8) 4) 99 = 10 * 0 + 4)
    (hk9999z31 : K (F (F a 8) 5) = 23)
    (hj9999z51 : F (F (F a 8) 5) 99 = 10 * 0 + 5)
    (hk9999z32 : K (F a 5) = 8)
    (hj9999z52 : F (F a 5) 99 = 2)
    (hk9999z33 : K (F (F a 5) 0) = 20)
    (hj9999z54 : F (F (F a 5) 0) 99 = 2)
    (hk9999z34 : K (F (F a 5) 1) = 21)
    (hj9999z56 : F (F (F a 5) 1) 99 = 2)
    (hk9999z35 : K (F (F a 12) 0) = 24)
    (hj9999z57 : F (F (F a 12) 0) 99 = 0)
    (hk9999z36 : K (F (F a 12) 1) = 24)
    (hj9999z58 : F (F (F a 12) 1) 99 = 1)
    (hk9999z37 : K (F (F a 12) 2) = 24)
    (hj9999z59 : F (F (F a 12) 2) 99 = 2)
    (hk9999z38 : K (F (F a 12) 3) = 24)
    (hj9999z60 : F (F (F a 12) 3) 99 = 3)
    (hk9999z39 : K (F a 2) = 2)
    (hj9999z61 : F (F a 2) 99 = 0)
    (hk9999z40 : K (F (F a 2) 1) = 15)
    (hj9999z62 : F (F (F a 2) 1) 99 = 1)
    (hk9999z41 : K (F (F a 2) 0) = 15)
    (hj9999z63 : F (F (F a 2) 0) 99 = 0)
    (hk9999z42 : K (F a 4) = 8)
    (hj9999z64 : F (F a 4) 99 = 1)
    (hk9999z43 : K (F (F a 4) 0) = 20)
    (hj9999z66 : F (F (F a 4) 0) 99 = 1)
    (hk9999z44 : K (F (F a 4) 1) = 21)
    (hj9999z68 : F (F (F a 4) 1) 99 = 1)
    (hfr : XFr [(F a 11, 3), (F a 9, 6), (F a 14, 1), (F a 14, 2), (F a 14, 3), (F a 10, 6), (F a 8, 6), (F a 12, 4)] [F (F a 11) 0, F (F a 11) 1, F (F a 11) 2, F (F a 9) 0, F (F a 9) 1, F (F a 9) 2, F (F a 9) 3, F (F a 9) 4, F (F a 9) 5, F a 16, F a 15, F (F a 10) 0, F (F a 10) 1, F (F a 10) 2, F (F a 10) 3, F (F a 10) 4, F (F a 10) 5, F (F a 3) 0, F (F a 3) 1, F (F a 8) 0, F (F a 8) 1, F (F a 8) 2, F (F a 8) 3, F (F a 8) 4, F (F a 8) 5, F (F a 5) 0, F (F a 5) 1, F (F a 12) 0, F (F a 12) 1, F (F a 12) 2, F (F a 12) 3] [] G G54)
    (hF4 : XFr [(F a 14, 1)] [] [] G G4)
    (hF54 : XFr [] [F (F a 5) 0, F (F a 5) 1] [] G4 G54)
    (ron : RO (vw (G.2.1 (F (F a 3) 0))) (aI (G.2.1 (F (F a 3) 1))))
    (rob : RO (vw (G.2.1 (F (F a 4) 0))) (aI (G.2.1 (F (F a 4) 1))))
    (bko : BKr K G (G.2.2.1 (F (F a 2) 1)))
    (bkn : BKr K G (G.2.2.1 (F (F a 2) 0)))
    (hac : ACo G (G.2.2.1 (F (F a 2) 0)))
    (oq54 : (vw (G54.2.1 (F (F a 5) 0))) = (vw (G.2.1 (F (F a 3) 0))))
    (oq54a : RO (vw (G54.2.1 (F (F a 5) 0))) (aI (G54.2.1 (F (F a 5) 1))))
    (sb : 0 ≤ ((G.1 (F a 2) 2).toInt) ∧ ((G.1 (F a 2) 2).toInt) ≤ 12)
    (sw : 0 ≤ ((G.1 (F a 8) 6).toInt) ∧ ((G.1 (F a 8) 6).toInt) ≤ 1080)
    (t4 : ((G4.1 (F a 14) 1).toInt) = 0)
    (t8 : (x8.toInt = 1 ∧ 0 ≤ p0.toInt ∧ p0.toInt < 3) ∨ (x8.toInt = 0 ∧ (p0.toInt < 0 ∨ 3 ≤ p0.toInt)))
    (c11 : ¬ (x8.toInt = 0))
    (t15 : (x15.toInt = 1 ∧ 0 ≤ p1.toInt ∧ p1.toInt < 30) ∨ (x15.toInt = 0 ∧ (p1.toInt < 0 ∨ 30 ≤ p1.toInt)))
    (c18 : x15.toInt ≠ 0)
    (t33 : (x33.toInt = 1 ∧ (cel (vw (G.2.1 (F (F a 3) 0))) (p0.toInt) (p1.toInt) 0) ≠ -2000) ∨ (x33.toInt = 0 ∧ (cel (vw (G.2.1 (F (F a 3) 0))) (p0.toInt) (p1.toInt) 0) = -2000))
    (c36 : x33.toInt ≠ 0)
    (z57 : (cel (vw (G54.2.1 (F (F a 5) 0))) (p0.toInt) (p1.toInt) 0) = (cel (vw (G.2.1 (F (F a 3) 0))) (p0.toInt) (p1.toInt) 0))
    (c_G54_F_F_a_10_0 : G54.2.1 (F (F a 10) 0) = G.2.1 (F (F a 10) 0))
    (c_G54_F_F_a_10_1 : G54.2.1 (F (F a 10) 1) = G.2.1 (F (F a 10) 1))
    (c_G54_F_F_a_10_2 : G54.2.1 (F (F a 10) 2) = G.2.1 (F (F a 10) 2))
    (c_G54_F_F_a_10_3 : G54.2.1 (F (F a 10) 3) = G.2.1 (F (F a 10) 3))
    (c_G54_F_F_a_10_4 : G54.2.1 (F (F a 10) 4) = G.2.1 (F (F a 10) 4))
    (c_G54_F_F_a_10_5 : G54.2.1 (F (F a 10) 5) = G.2.1 (F (F a 10) 5))
    (c_G54_F_F_a_11_0 : G54.2.1 (F (F a 11) 0) = G.2.1 (F (F a 11) 0))
    (c_G54_F_F_a_11_1 : G54.2.1 (F (F a 11) 1) = G.2.1 (F (F a 11) 1))
    (c_G54_F_F_a_11_2 : G54.2.1 (F (F a 11) 2) = G.2.1 (F (F a 11) 2))
    (c_G54_F_F_a_12_0 : G54.2.1 (F (F a 12) 0) = G.2.1 (F (F a 12) 0))
    (c_G54_F_F_a_12_1 : G54.2.1 (F (F a 12) 1) = G.2.1 (F (F a 12) 1))
    (c_G54_F_F_a_12_2 : G54.2.1 (F (F a 12) 2) = G.2.1 (F (F a 12) 2))
    (c_G54_F_F_a_12_3 : G54.2.1 (F (F a 12) 3) = G.2.1 (F (F a 12) 3))
    (c_G54_F_F_a_3_0 : G54.2.1 (F (F a 3) 0) = G.2.1 (F (F a 3) 0))
    (c_G54_F_F_a_3_1 : G54.2.1 (F (F a 3) 1) = G.2.1 (F (F a 3) 1))
    (c_G54_F_F_a_8_0 : G54.2.1 (F (F a 8) 0) = G.2.1 (F (F a 8) 0))
    (c_G54_F_F_a_8_1 : G54.2.1 (F (F a 8) 1) = G.2.1 (F (F a 8) 1))
    (c_G54_F_F_a_8_2 : G54.2.1 (F (F a 8) 2) = G.2.1 (F (F a 8) 2))
    (c_G54_F_F_a_8_3 : G54.2.1 (F (F a 8) 3) = G.2.1 (F (F a 8) 3))
    (c_G54_F_F_a_8_4 : G54.2.1 (F (F a 8) 4) = G.2.1 (F (F a 8) 4))
    (c_G54_F_F_a_8_5 : G54.2.1 (F (F a 8) 5) = G.2.1 (F (F a 8) 5))
    (c_G54_F_F_a_9_0 : G54.2.1 (F (F a 9) 0) = G.2.1 (F (F a 9) 0))
    (c_G54_F_F_a_9_1 : G54.2.1 (F (F a 9) 1) = G.2.1 (F (F a 9) 1))
    (c_G54_F_F_a_9_2 : G54.2.1 (F (F a 9) 2) = G.2.1 (F (F a 9) 2))
    (c_G54_F_F_a_9_3 : G54.2.1 (F (F a 9) 3) = G.2.1 (F (F a 9) 3))
    (c_G54_F_F_a_9_4 : G54.2.1 (F (F a 9) 4) = G.2.1 (F (F a 9) 4))
    (c_G54_F_F_a_9_5 : G54.2.1 (F (F a 9) 5) = G.2.1 (F (F a 9) 5))
    (c_G54_F_a_15 : G54.2.1 (F a 15) = G.2.1 (F a 15))
    (c_G54_F_a_16 : G54.2.1 (F a 16) = G.2.1 (F a 16))
    (r_G54_F_F_a_2_0 : G54.2.2.1 (F (F a 2) 0) = G.2.2.1 (F (F a 2) 0))
    (d_G54_F_a_10_6 : G54.1 (F a 10) 6 = G.1 (F a 10) 6)
    (d_G54_F_a_11_3 : G54.1 (F a 11) 3 = G.1 (F a 11) 3)
    (d_G54_F_a_12_4 : G54.1 (F a 12) 4 = G.1 (F a 12) 4)
    (d_G54_F_a_14_1 : G54.1 (F a 14) 1 = G4.1 (F a 14) 1)
    (d_G54_F_a_14_2 : G54.1 (F a 14) 2 = G.1 (F a 14) 2)
    (d_G54_F_a_14_3 : G54.1 (F a 14) 3 = G.1 (F a 14) 3)
    (d_G54_F_a_8_6 : G54.1 (F a 8) 6 = G.1 (F a 8) 6)
    (d_G54_F_a_9_6 : G54.1 (F a 9) 6 = G.1 (F a 9) 6) :
    BKr K G54 (G54.2.2.1 (F (F a 2) 0)) := by
  have hd : ∀ p, p ∈ [(F a 11, 3), (F a 9, 6), (F a 14, 1), (F a 14, 2), (F a 14, 3), (F a 10, 6), (F a 8, 6), (F a 12, 4)] → K p.1 ≠ 9 := (List.forall_mem_cons.mpr ⟨(show K (F a 11) ≠ 9 by omega), List.forall_mem_cons.mpr ⟨(show K (F a 9) ≠ 9 by omega), List.forall_mem_cons.mpr ⟨(show K (F a 14) ≠ 9 by omega), List.forall_mem_cons.mpr ⟨(show K (F a 14) ≠ 9 by omega), List.forall_mem_cons.mpr ⟨(show K (F a 14) ≠ 9 by omega), List.forall_mem_cons.mpr ⟨(show K (F a 10) ≠ 9 by omega), List.forall_mem_cons.mpr ⟨(show K (F a 8) ≠ 9 by omega), List.forall_mem_cons.mpr ⟨(show K (F a 12) ≠ 9 by omega), fun _ h => by cases h⟩⟩⟩⟩⟩⟩⟩⟩)
  rw [show G54.2.2.1 (F (F a 2) 0) = G.2.2.1 (F (F a 2) 0) by assumption]
  exact bkn.fr hfr hd
theorem v_X10_cut_71_7 {K : Nat → Nat} {F : Nat → Nat → Nat} (a : Nat) (G : XG) (G54 : XG) (G4 : XG) (x8 : Int32) (p0 : Int32) (x15 : Int32) (p1 : Int32) (x33 : Int32)
    (ha : K a = 12)
    (hk9999 : K (F a 11) = 3)
    (hj9999 : F (F a 11) 99 = 0)
    (hk9999a : K (F a 9) = 6)
    (hj9999a : F (F a 9) 99 = 1)
    (hk9999b : K (F a 14) = 11)
    (hj9999b : F (F a 14) 99 = 0)
    (hk9999c : K (F a 10) = 6)
    (hj9999c : F (F a 10) 99 = 2)
    (hk9999d : K (F a 8) = 6)
    (hj9999d : F (F a 8) 99 = 0)
    (hk9999e : K (F a 12) = 4)
    (hj9999e : F (F a 12) 99 = 0)
    (hk9999f : K (F (F a 11) 0) = 21)
    (hj9999f : F (F (F a 11) 0) 99 = 100)
    (hk9999g : K (F (F a 11) 1) = 21)
    (hj9999g : F (F (F a 11) 1) 99 = 101)
    (hk9999h : K (F (F a 11) 2) = 24)
    (hj9999h : F (F (F a 11) 2) 99 = 4)
    (hk9999i : K (F (F a 9) 0) = 22)
    (hj9999j : F (F (F a 9) 0) 99 = 10 * 1 + 0)
    (hk9999j : K (F (F a 9) 1) = 22)
    (hj9999l : F (F (F a 9) 1) 99 = 10 * 1 + 1)
    (hk9999k : K (F (F a 9) 2) = 22)
    (hj9999n : F (F (F a 9) 2) 99 = 10 * 1 + 2)
    (hk9999l : K (F (F a 9) 3) = 22)
    (hj9999p : F (F (F a 9) 3) 99 = 10 * 1 + 3)
    (hk9999m : K (F (F a 9) 4) = 23)
    (hj9999r : F (F (F a 9) 4) 99 = 10 * 1 + 4)
    (hk9999n : K (F (F a 9) 5) = 23)
    (hj9999t : F (F (F a 9) 5) 99 = 10 * 1 + 5)
    (hk9999o : K (F a 16) = 27)
    (hj9999u : F (F a 16) 99 = 0)
    (hk9999p : K (F a 15) = 26)
    (hj9999v : F (F a 15) 99 = 0)
    (hk9999q : K (F (F a 10) 0) = 22)
    (hj9999y : F (F (F a 10) 0) 99 = 10 * 2 + 0)
    (hk9999r : K (F (F a 10) 1) = 22)
    (hj9999z26 : F (F (F a 10) 1) 99 = 10 * 2 + 1)
    (hk9999s : K (F (F a 10) 2) = 22)
    (hj9999z28 : F (F (F a 10) 2) 99 = 10 * 2 + 2)
    (hk9999t : K (F (F a 10) 3) = 22)
    (hj9999z30 : F (F (F a 10) 3) 99 = 10 * 2 + 3)
    (hk9999u : K (F (F a 10) 4) = 23)
    (hj9999z32 : F (F (F a 10) 4) 99 = 10 * 2 + 4)
    (hk9999v : K (F (F a 10) 5) = 23)
    (hj9999z34 : F (F (F a 10) 5) 99 = 10 * 2 + 5)
    (hk9999w : K (F a 3) = 8)
    (hj9999z35 : F (F a 3) 99 = 0)
    (hk9999y : K (F (F a 3) 0) = 20)
    (hj9999z37 : F (F (F a 3) 0) 99 = 0)
    (hk9999z25 : K (F (F a 3) 1) = 21)
    (hj9999z39 : F (F (F a 3) 1) 99 = 0)
    (hk9999z26 : K (F (F a 8) 0) = 22)
    (hj9999z41 : F (F (F a 8) 0) 99 = 10 * 0 + 0)
    (hk9999z27 : K (F (F a 8) 1) = 22)
    (hj9999z43 : F (F (F a 8) 1) 99 = 10 * 0 + 1)
    (hk9999z28 : K (F (F a 8) 2) = 22)
    (hj9999z45 : F (F (F a 8) 2) 99 = 10 * 0 + 2)
    (hk9999z29 : K (F (F a 8) 3) = 22)
    (hj9999z47 : F (F (F a 8) 3) 99 = 10 * 0 + 3)
    (hk9999z30 : K (F (F a 8) 4) = 23)
    (hj9999z49 : F (F (F a 8) 4) 99 = 10 * 0 + 4)
    (hk9999z31 : K (F (F a 8) 5) = 23)
    (hj9999z51 : F (F (F a 8) 5) 99 = 10 * 0 + 5)
    (hk9999z32 : K (F a 5) = 8)
    (hj9999z52 : F (F a 5) 99 = 2)
    (hk9999z33 : K (F (F a 5) 0) = 20)
    (hj9999z54 : F (F (F a 5) 0) 99 = 2)
    (hk9999z34 : K (F (F a 5) 1) = 21)
    (hj9999z56 : F (F (F a 5) 1) 99 = 2)
    (hk9999z35 : K (F (F a 12) 0) = 24)
    (hj9999z57 : F (F (F a 12) 0) 99 = 0)
    (hk9999z36 : K (F (F a 12) 1) = 24)
    (hj9999z58 : F (F (F a 12) 1) 99 = 1)
    (hk9999z37 : K (F (F a 12) 2) = 24)
    (hj9999z59 : F (F (F a 12) 2) 99 = 2)
    (hk9999z38 : K (F (F a 12) 3) = 24)
    (hj9999z60 : F (F (F a 12) 3) 99 = 3)
    (hk9999z39 : K (F a 2) = 2)
    (hj9999z61 : F (F a 2) 99 = 0)
    (hk9999z40 : K (F (F a 2) 1) = 15)
    (hj9999z62 : F (F (F a 2) 1) 99 = 1)
    (hk9999z41 : K (F (F a 2) 0) = 15)
    (hj9999z63 : F (F (F a 2) 0) 99 = 0)
    (hk9999z42 : K (F a 4) = 8)
    (hj9999z64 : F (F a 4) 99 = 1)
    (hk9999z43 : K (F (F a 4) 0) = 20)
    (hj9999z66 : F (F (F a 4) 0) 99 = 1)
    (hk9999z44 : K (F (F a 4) 1) = 21)
    (hj9999z68 : F (F (F a 4) 1) 99 = 1)
    (hfr : XFr [(F a 11, 3), (F a 9, 6), (F a 14, 1), (F a 14, 2), (F a 14, 3), (F a 10, 6), (F a 8, 6), (F a 12, 4)] [F (F a 11) 0, F (F a 11) 1, F (F a 11) 2, F (F a 9) 0, F (F a 9) 1, F (F a 9) 2, F (F a 9) 3, F (F a 9) 4, F (F a 9) 5, F a 16, F a 15, F (F a 10) 0, F (F a 10) 1, F (F a 10) 2, F (F a 10) 3, F (F a 10) 4, F (F a 10) 5, F (F a 3) 0, F (F a 3) 1, F (F a 8) 0, F (F a 8) 1, F (F a 8) 2, F (F a 8) 3, F (F a 8) 4, F (F a 8) 5, F (F a 5) 0, F (F a 5) 1, F (F a 12) 0, F (F a 12) 1, F (F a 12) 2, F (F a 12) 3] [] G G54)
    (hF4 : XFr [(F a 14, 1)] [] [] G G4)
    (hF54 : XFr [] [F (F a 5) 0, F (F a 5) 1] [] G4 G54)
    (ron : RO (vw (G.2.1 (F (F a 3) 0))) (aI (G.2.1 (F (F a 3) 1))))
    (rob : RO (vw (G.2.1 (F (F a 4) 0))) (aI (G.2.1 (F (F a 4) 1))))
    (bko : BKr K G (G.2.2.1 (F (F a 2) 1)))
    (bkn : BKr K G (G.2.2.1 (F (F a 2) 0)))
    (hac : ACo G (G.2.2.1 (F (F a 2) 0)))
    (oq54 : (vw (G54.2.1 (F (F a 5) 0))) = (vw (G.2.1 (F (F a 3) 0))))
    (oq54a : RO (vw (G54.2.1 (F (F a 5) 0))) (aI (G54.2.1 (F (F a 5) 1))))
    (sb : 0 ≤ ((G.1 (F a 2) 2).toInt) ∧ ((G.1 (F a 2) 2).toInt) ≤ 12)
    (sw : 0 ≤ ((G.1 (F a 8) 6).toInt) ∧ ((G.1 (F a 8) 6).toInt) ≤ 1080)
    (t4 : ((G4.1 (F a 14) 1).toInt) = 0)
    (t8 : (x8.toInt = 1 ∧ 0 ≤ p0.toInt ∧ p0.toInt < 3) ∨ (x8.toInt = 0 ∧ (p0.toInt < 0 ∨ 3 ≤ p0.toInt)))
    (c11 : ¬ (x8.toInt = 0))
    (t15 : (x15.toInt = 1 ∧ 0 ≤ p1.toInt ∧ p1.toInt < 30) ∨ (x15.toInt = 0 ∧ (p1.toInt < 0 ∨ 30 ≤ p1.toInt)))
    (c18 : x15.toInt ≠ 0)
    (t33 : (x33.toInt = 1 ∧ (cel (vw (G.2.1 (F (F a 3) 0))) (p0.toInt) (p1.toInt) 0) ≠ -2000) ∨ (x33.toInt = 0 ∧ (cel (vw (G.2.1 (F (F a 3) 0))) (p0.toInt) (p1.toInt) 0) = -2000))
    (c36 : x33.toInt ≠ 0)
    (z57 : (cel (vw (G54.2.1 (F (F a 5) 0))) (p0.toInt) (p1.toInt) 0) = (cel (vw (G.2.1 (F (F a 3) 0))) (p0.toInt) (p1.toInt) 0))
    (c_G54_F_F_a_10_0 : G54.2.1 (F (F a 10) 0) = G.2.1 (F (F a 10) 0))
    (c_G54_F_F_a_10_1 : G54.2.1 (F (F a 10) 1) = G.2.1 (F (F a 10) 1))
    (c_G54_F_F_a_10_2 : G54.2.1 (F (F a 10) 2) = G.2.1 (F (F a 10) 2))
    (c_G54_F_F_a_10_3 : G54.2.1 (F (F a 10) 3) = G.2.1 (F (F a 10) 3))
    (c_G54_F_F_a_10_4 : G54.2.1 (F (F a 10) 4) = G.2.1 (F (F a 10) 4))
    (c_G54_F_F_a_10_5 : G54.2.1 (F (F a 10) 5) = G.2.1 (F (F a 10) 5))
    (c_G54_F_F_a_11_0 : G54.2.1 (F (F a 11) 0) = G.2.1 (F (F a 11) 0))
    (c_G54_F_F_a_11_1 : G54.2.1 (F (F a 11) 1) = G.2.1 (F (F a 11) 1))
    (c_G54_F_F_a_11_2 : G54.2.1 (F (F a 11) 2) = G.2.1 (F (F a 11) 2))
    (c_G54_F_F_a_12_0 : G54.2.1 (F (F a 12) 0) = G.2.1 (F (F a 12) 0))
    (c_G54_F_F_a_12_1 : G54.2.1 (F (F a 12) 1) = G.2.1 (F (F a 12) 1))
    (c_G54_F_F_a_12_2 : G54.2.1 (F (F a 12) 2) = G.2.1 (F (F a 12) 2))
    (c_G54_F_F_a_12_3 : G54.2.1 (F (F a 12) 3) = G.2.1 (F (F a 12) 3))
    (c_G54_F_F_a_3_0 : G54.2.1 (F (F a 3) 0) = G.2.1 (F (F a 3) 0))
    (c_G54_F_F_a_3_1 : G54.2.1 (F (F a 3) 1) = G.2.1 (F (F a 3) 1))
    (c_G54_F_F_a_8_0 : G54.2.1 (F (F a 8) 0) = G.2.1 (F (F a 8) 0))
    (c_G54_F_F_a_8_1 : G54.2.1 (F (F a 8) 1) = G.2.1 (F (F a 8) 1))
    (c_G54_F_F_a_8_2 : G54.2.1 (F (F a 8) 2) = G.2.1 (F (F a 8) 2))
    (c_G54_F_F_a_8_3 : G54.2.1 (F (F a 8) 3) = G.2.1 (F (F a 8) 3))
    (c_G54_F_F_a_8_4 : G54.2.1 (F (F a 8) 4) = G.2.1 (F (F a 8) 4))
    (c_G54_F_F_a_8_5 : G54.2.1 (F (F a 8) 5) = G.2.1 (F (F a 8) 5))
    (c_G54_F_F_a_9_0 : G54.2.1 (F (F a 9) 0) = G.2.1 (F (F a 9) 0))
    (c_G54_F_F_a_9_1 : G54.2.1 (F (F a 9) 1) = G.2.1 (F (F a 9) 1))
    (c_G54_F_F_a_9_2 : G54.2.1 (F (F a 9) 2) = G.2.1 (F (F a 9) 2))
    (c_G54_F_F_a_9_3 : G54.2.1 (F (F a 9) 3) = G.2.1 (F (F a 9) 3))
    (c_G54_F_F_a_9_4 : G54.2.1 (F (F a 9) 4) = G.2.1 (F (F a 9) 4))
    (c_G54_F_F_a_9_5 : G54.2.1 (F (F a 9) 5) = G.2.1 (F (F a 9) 5))
    (c_G54_F_a_15 : G54.2.1 (F a 15) = G.2.1 (F a 15))
    (c_G54_F_a_16 : G54.2.1 (F a 16) = G.2.1 (F a 16))
    (r_G54_F_F_a_2_0 : G54.2.2.1 (F (F a 2) 0) = G.2.2.1 (F (F a 2) 0))
    (d_G54_F_a_10_6 : G54.1 (F a 10) 6 = G.1 (F a 10) 6)
    (d_G54_F_a_11_3 : G54.1 (F a 11) 3 = G.1 (F a 11) 3)
    (d_G54_F_a_12_4 : G54.1 (F a 12) 4 = G.1 (F a 12) 4)
    (d_G54_F_a_14_1 : G54.1 (F a 14) 1 = G4.1 (F a 14) 1)
    (d_G54_F_a_14_2 : G54.1 (F a 14) 2 = G.1 (F a 14) 2)
    (d_G54_F_a_14_3 : G54.1 (F a 14) 3 = G.1 (F a 14) 3)
    (d_G54_F_a_8_6 : G54.1 (F a 8) 6 = G.1 (F a 8) 6)
    (d_G54_F_a_9_6 : G54.1 (F a 9) 6 = G.1 (F a 9) 6) :
    ACo G54 (G54.2.2.1 (F (F a 2) 0)) := by
  have hd : ∀ p, p ∈ [(F a 11, 3), (F a 9, 6), (F a 14, 1), (F a 14, 2), (F a 14, 3), (F a 10, 6), (F a 8, 6), (F a 12, 4)] → K p.1 ≠ 9 := (List.forall_mem_cons.mpr ⟨(show K (F a 11) ≠ 9 by omega), List.forall_mem_cons.mpr ⟨(show K (F a 9) ≠ 9 by omega), List.forall_mem_cons.mpr ⟨(show K (F a 14) ≠ 9 by omega), List.forall_mem_cons.mpr ⟨(show K (F a 14) ≠ 9 by omega), List.forall_mem_cons.mpr ⟨(show K (F a 14) ≠ 9 by omega), List.forall_mem_cons.mpr ⟨(show K (F a 10) ≠ 9 by omega), List.forall_mem_cons.mpr ⟨(show K (F a 8) ≠ 9 by omega), List.forall_mem_cons.mpr ⟨(show K (F a 12) ≠ 9 by omega), fun _ h => by cases h⟩⟩⟩⟩⟩⟩⟩⟩)
  rw [show G54.2.2.1 (F (F a 2) 0) = G.2.2.1 (F (F a 2) 0) by assumption]
  exact hac.cg (fun i q hi hq => hfr.rule hd (bkn i q hi hq).1)
theorem v_X10_cut_75_8 {F : Nat → Nat → Nat} (a : Nat) (G : XG) (G71 : XG) (G54 : XG)
    (ron : RO (vw (G.2.1 (F (F a 3) 0))) (aI (G.2.1 (F (F a 3) 1))))
    (rob : RO (vw (G.2.1 (F (F a 4) 0))) (aI (G.2.1 (F (F a 4) 1))))
    (oq54a : RO (vw (G54.2.1 (F (F a 5) 0))) (aI (G54.2.1 (F (F a 5) 1))))
    (oq71a : RO (vw (G71.2.1 (F (F a 5) 0))) (aI (G71.2.1 (F (F a 5) 1))))
    (c_G71_F_F_a_3_0 : G71.2.1 (F (F a 3) 0) = G.2.1 (F (F a 3) 0))
    (c_G71_F_F_a_3_1 : G71.2.1 (F (F a 3) 1) = G.2.1 (F (F a 3) 1)) :
    RO (vw (G71.2.1 (F (F a 3) 0))) (aI (G71.2.1 (F (F a 3) 1))) := by simp only [c_G71_F_F_a_3_0, c_G71_F_F_a_3_1]; assumption
theorem v_X10_cut_75_9 {F : Nat → Nat → Nat} (a : Nat) (G71 : XG)
    (oq71a : RO (vw (G71.2.1 (F (F a 5) 0))) (aI (G71.2.1 (F (F a 5) 1)))) :
    RO (vw (G71.2.1 (F (F a 5) 0))) (aI (G71.2.1 (F (F a 5) 1))) := by
  exact oq71a
theorem v_X10_cut_75_10 {F : Nat → Nat → Nat} (a : Nat) (G : XG) (G71 : XG) (G54 : XG)
    (ron : RO (vw (G.2.1 (F (F a 3) 0))) (aI (G.2.1 (F (F a 3) 1))))
    (rob : RO (vw (G.2.1 (F (F a 4) 0))) (aI (G.2.1 (F (F a 4) 1))))
    (oq54a : RO (vw (G54.2.1 (F (F a 5) 0))) (aI (G54.2.1 (F (F a 5) 1))))
    (oq71a : RO (vw (G71.2.1 (F (F a 5) 0))) (aI (G71.2.1 (F (F a 5) 1))))
    (c_G71_F_F_a_4_0 : G71.2.1 (F (F a 4) 0) = G.2.1 (F (F a 4) 0))
    (c_G71_F_F_a_4_1 : G71.2.1 (F (F a 4) 1) = G.2.1 (F (F a 4) 1)) :
    RO (vw (G71.2.1 (F (F a 4) 0))) (aI (G71.2.1 (F (F a 4) 1))) := by simp only [c_G71_F_F_a_4_0, c_G71_F_F_a_4_1]; assumption
theorem v_X10_cut_75_11 {K : Nat → Nat} {F : Nat → Nat → Nat} (a : Nat) (G : XG) (G71 : XG) (G4 : XG) (G54 : XG) (p0 : Int32) (p1 : Int32) (x8 : Int32) (x15 : Int32) (x33 : Int32)
    (ha : K a = 12)
    (hk9999 : K (F a 11) = 3)
    (hj9999 : F (F a 11) 99 = 0)
    (hk9999a : K (F a 9) = 6)
    (hj9999a : F (F a 9) 99 = 1)
    (hk9999b : K (F a 14) = 11)
    (hj9999b : F (F a 14) 99 = 0)
    (hk9999c : K (F a 10) = 6)
    (hj9999c : F (F a 10) 99 = 2)
    (hk9999d : K (F a 8) = 6)
    (hj9999d : F (F a 8) 99 = 0)
    (hk9999e : K (F a 12) = 4)
    (hj9999e : F (F a 12) 99 = 0)
    (hk9999f : K (F (F a 11) 0) = 21)
    (hj9999f : F (F (F a 11) 0) 99 = 100)
    (hk9999g : K (F (F a 11) 1) = 21)
    (hj9999g : F (F (F a 11) 1) 99 = 101)
    (hk9999h : K (F (F a 11) 2) = 24)
    (hj9999h : F (F (F a 11) 2) 99 = 4)
    (hk9999i : K (F (F a 9) 0) = 22)
    (hj9999j : F (F (F a 9) 0) 99 = 10 * 1 + 0)
    (hk9999j : K (F (F a 9) 1) = 22)
    (hj9999l : F (F (F a 9) 1) 99 = 10 * 1 + 1)
    (hk9999k : K (F (F a 9) 2) = 22)
    (hj9999n : F (F (F a 9) 2) 99 = 10 * 1 + 2)
    (hk9999l : K (F (F a 9) 3) = 22)
    (hj9999p : F (F (F a 9) 3) 99 = 10 * 1 + 3)
    (hk9999m : K (F (F a 9) 4) = 23)
    (hj9999r : F (F (F a 9) 4) 99 = 10 * 1 + 4)
    (hk9999n : K (F (F a 9) 5) = 23)
    (hj9999t : F (F (F a 9) 5) 99 = 10 * 1 + 5)
    (hk9999o : K (F a 16) = 27)
    (hj9999u : F (F a 16) 99 = 0)
    (hk9999p : K (F a 15) = 26)
    (hj9999v : F (F a 15) 99 = 0)
    (hk9999q : K (F (F a 10) 0) = 22)
    (hj9999y : F (F (F a 10) 0) 99 = 10 * 2 + 0)
    (hk9999r : K (F (F a 10) 1) = 22)
    (hj9999z26 : F (F (F a 10) 1) 99 = 10 * 2 + 1)
    (hk9999s : K (F (F a 10) 2) = 22)
    (hj9999z28 : F (F (F a 10) 2) 99 = 10 * 2 + 2)
    (hk9999t : K (F (F a 10) 3) = 22)
    (hj9999z30 : F (F (F a 10) 3) 99 = 10 * 2 + 3)
    (hk9999u : K (F (F a 10) 4) = 23)
    (hj9999z32 : F (F (F a 10) 4) 99 = 10 * 2 + 4)
    (hk9999v : K (F (F a 10) 5) = 23)
    (hj9999z34 : F (F (F a 10) 5) 99 = 10 * 2 + 5)
    (hk9999w : K (F a 3) = 8)
    (hj9999z35 : F (F a 3) 99 = 0)
    (hk9999y : K (F (F a 3) 0) = 20)
    (hj9999z37 : F (F (F a 3) 0) 99 = 0)
    (hk9999z25 : K (F (F a 3) 1) = 21)
    (hj9999z39 : F (F (F a 3) 1) 99 = 0)
    (hk9999z26 : K (F (F a 8) 0) = 22)
    (hj9999z41 : F (F (F a 8) 0) 99 = 10 * 0 + 0)
    (hk9999z27 : K (F (F a 8) 1) = 22)
    (hj9999z43 : F (F (F a 8) 1) 99 = 10 * 0 + 1)
    (hk9999z28 : K (F (F a 8) 2) = 22)
    (hj9999z45 : F (F (F a 8) 2) 99 = 10 * 0 + 2)
    (hk9999z29 : K (F (F a 8) 3) = 22)
    (hj9999z47 : F (F (F a 8) 3) 99 = 10 * 0 + 3)
    (hk9999z30 : K (F (F a 8) 4) = 23)
    (hj9999z49 : F (F (F a 8) 4) 99 = 10 * 0 + 4)
    (hk9999z31 : K (F (F a 8) 5) = 23)
    (hj9999z51 : F (F (F a 8) 5) 99 = 10 * 0 + 5)
    (hk9999z32 : K (F a 5) = 8)
    (hj9999z52 : F (F a 5) 99 = 2)
    (hk9999z33 : K (F (F a 5) 0) = 20)
    (hj9999z54 : F (F (F a 5) 0) 99 = 2)
    (hk9999z34 : K (F (F a 5) 1) = 21)
    (hj9999z56 : F (F (F a 5) 1) 99 = 2)
    (hk9999z35 : K (F (F a 12) 0) = 24)
    (hj9999z57 : F (F (F a 12) 0) 99 = 0)
    (hk9999z36 : K (F (F a 12) 1) = 24)
    (hj9999z58 : F (F (F a 12) 1) 99 = 1)
    (hk9999z37 : K (F (F a 12) 2) = 24)
    (hj9999z59 : F (F (F a 12) 2) 99 = 2)
    (hk9999z38 : K (F (F a 12) 3) = 24)
    (hj9999z60 : F (F (F a 12) 3) 99 = 3)
    (hk9999z39 : K (F a 2) = 2)
    (hj9999z61 : F (F a 2) 99 = 0)
    (hk9999z40 : K (F (F a 2) 1) = 15)
    (hj9999z62 : F (F (F a 2) 1) 99 = 1)
    (hk9999z41 : K (F (F a 2) 0) = 15)
    (hj9999z63 : F (F (F a 2) 0) 99 = 0)
    (hk9999z42 : K (F a 4) = 8)
    (hj9999z64 : F (F a 4) 99 = 1)
    (hk9999z43 : K (F (F a 4) 0) = 20)
    (hj9999z66 : F (F (F a 4) 0) 99 = 1)
    (hk9999z44 : K (F (F a 4) 1) = 21)
    (hj9999z68 : F (F (F a 4) 1) 99 = 1)
    (hfr : XFr [(F a 11, 3), (F a 9, 6), (F a 14, 1), (F a 14, 2), (F a 14, 3), (F a 10, 6), (F a 8, 6), (F a 12, 4)] [F (F a 11) 0, F (F a 11) 1, F (F a 11) 2, F (F a 9) 0, F (F a 9) 1, F (F a 9) 2, F (F a 9) 3, F (F a 9) 4, F (F a 9) 5, F a 16, F a 15, F (F a 10) 0, F (F a 10) 1, F (F a 10) 2, F (F a 10) 3, F (F a 10) 4, F (F a 10) 5, F (F a 3) 0, F (F a 3) 1, F (F a 8) 0, F (F a 8) 1, F (F a 8) 2, F (F a 8) 3, F (F a 8) 4, F (F a 8) 5, F (F a 5) 0, F (F a 5) 1, F (F a 12) 0, F (F a 12) 1, F (F a 12) 2, F (F a 12) 3] [] G G71)
    (hF4 : XFr [(F a 14, 1)] [] [] G G4)
    (hF54 : XFr [] [F (F a 5) 0, F (F a 5) 1] [] G4 G54)
    (hF71 : XFr [(F a 12, 4)] [F (F a 12) 0, F (F a 12) 1, F (F a 12) 2, F (F a 12) 3, F (F a 5) 0, F (F a 5) 1] [] G54 G71)
    (ron : RO (vw (G.2.1 (F (F a 3) 0))) (aI (G.2.1 (F (F a 3) 1))))
    (rob : RO (vw (G.2.1 (F (F a 4) 0))) (aI (G.2.1 (F (F a 4) 1))))
    (bko : BKr K G (G.2.2.1 (F (F a 2) 1)))
    (bkn : BKr K G (G.2.2.1 (F (F a 2) 0)))
    (hac : ACo G (G.2.2.1 (F (F a 2) 0)))
    (oq54 : (vw (G54.2.1 (F (F a 5) 0))) = (vw (G.2.1 (F (F a 3) 0))))
    (oq54a : RO (vw (G54.2.1 (F (F a 5) 0))) (aI (G54.2.1 (F (F a 5) 1))))
    (oq71 : (vw (G71.2.1 (F (F a 5) 0))) = cfin (clsA G54 (G54.2.2.1 (F (F a 2) 0))) (clsT G54 (G54.2.2.1 (F (F a 2) 0))) (clsC G54 (G54.2.2.1 (F (F a 2) 0))) ([(p0.toInt, p1.toInt, 0, 0)], rfil (vw (G54.2.1 (F (F a 5) 0))) p0.toInt p1.toInt (-2000) 3))
    (oq71a : RO (vw (G71.2.1 (F (F a 5) 0))) (aI (G71.2.1 (F (F a 5) 1))))
    (sb : 0 ≤ ((G.1 (F a 2) 2).toInt) ∧ ((G.1 (F a 2) 2).toInt) ≤ 12)
    (sw : 0 ≤ ((G.1 (F a 8) 6).toInt) ∧ ((G.1 (F a 8) 6).toInt) ≤ 1080)
    (t4 : ((G4.1 (F a 14) 1).toInt) = 0)
    (t8 : (x8.toInt = 1 ∧ 0 ≤ p0.toInt ∧ p0.toInt < 3) ∨ (x8.toInt = 0 ∧ (p0.toInt < 0 ∨ 3 ≤ p0.toInt)))
    (c11 : ¬ (x8.toInt = 0))
    (t15 : (x15.toInt = 1 ∧ 0 ≤ p1.toInt ∧ p1.toInt < 30) ∨ (x15.toInt = 0 ∧ (p1.toInt < 0 ∨ 30 ≤ p1.toInt)))
    (c18 : x15.toInt ≠ 0)
    (t33 : (x33.toInt = 1 ∧ (cel (vw (G.2.1 (F (F a 3) 0))) (p0.toInt) (p1.toInt) 0) ≠ -2000) ∨ (x33.toInt = 0 ∧ (cel (vw (G.2.1 (F (F a 3) 0))) (p0.toInt) (p1.toInt) 0) = -2000))
    (c36 : x33.toInt ≠ 0)
    (z57 : (cel (vw (G54.2.1 (F (F a 5) 0))) (p0.toInt) (p1.toInt) 0) = (cel (vw (G.2.1 (F (F a 3) 0))) (p0.toInt) (p1.toInt) 0))
    (c_G71_F_F_a_10_0 : G71.2.1 (F (F a 10) 0) = G.2.1 (F (F a 10) 0))
    (c_G71_F_F_a_10_1 : G71.2.1 (F (F a 10) 1) = G.2.1 (F (F a 10) 1))
    (c_G71_F_F_a_10_2 : G71.2.1 (F (F a 10) 2) = G.2.1 (F (F a 10) 2))
    (c_G71_F_F_a_10_3 : G71.2.1 (F (F a 10) 3) = G.2.1 (F (F a 10) 3))
    (c_G71_F_F_a_10_4 : G71.2.1 (F (F a 10) 4) = G.2.1 (F (F a 10) 4))
    (c_G71_F_F_a_10_5 : G71.2.1 (F (F a 10) 5) = G.2.1 (F (F a 10) 5))
    (c_G71_F_F_a_11_0 : G71.2.1 (F (F a 11) 0) = G.2.1 (F (F a 11) 0))
    (c_G71_F_F_a_11_1 : G71.2.1 (F (F a 11) 1) = G.2.1 (F (F a 11) 1))
    (c_G71_F_F_a_11_2 : G71.2.1 (F (F a 11) 2) = G.2.1 (F (F a 11) 2))
    (c_G71_F_F_a_3_0 : G71.2.1 (F (F a 3) 0) = G.2.1 (F (F a 3) 0))
    (c_G71_F_F_a_3_1 : G71.2.1 (F (F a 3) 1) = G.2.1 (F (F a 3) 1))
    (c_G71_F_F_a_8_0 : G71.2.1 (F (F a 8) 0) = G.2.1 (F (F a 8) 0))
    (c_G71_F_F_a_8_1 : G71.2.1 (F (F a 8) 1) = G.2.1 (F (F a 8) 1))
    (c_G71_F_F_a_8_2 : G71.2.1 (F (F a 8) 2) = G.2.1 (F (F a 8) 2))
    (c_G71_F_F_a_8_3 : G71.2.1 (F (F a 8) 3) = G.2.1 (F (F a 8) 3))
    (c_G71_F_F_a_8_4 : G71.2.1 (F (F a 8) 4) = G.2.1 (F (F a 8) 4))
    (c_G71_F_F_a_8_5 : G71.2.1 (F (F a 8) 5) = G.2.1 (F (F a 8) 5))
    (c_G71_F_F_a_9_0 : G71.2.1 (F (F a 9) 0) = G.2.1 (F (F a 9) 0))
    (c_G71_F_F_a_9_1 : G71.2.1 (F (F a 9) 1) = G.2.1 (F (F a 9) 1))
    (c_G71_F_F_a_9_2 : G71.2.1 (F (F a 9) 2) = G.2.1 (F (F a 9) 2))
    (c_G71_F_F_a_9_3 : G71.2.1 (F (F a 9) 3) = G.2.1 (F (F a 9) 3))
    (c_G71_F_F_a_9_4 : G71.2.1 (F (F a 9) 4) = G.2.1 (F (F a 9) 4))
    (c_G71_F_F_a_9_5 : G71.2.1 (F (F a 9) 5) = G.2.1 (F (F a 9) 5))
    (c_G71_F_a_15 : G71.2.1 (F a 15) = G.2.1 (F a 15))
    (c_G71_F_a_16 : G71.2.1 (F a 16) = G.2.1 (F a 16))
    (r_G54_F_F_a_2_0 : G54.2.2.1 (F (F a 2) 0) = G.2.2.1 (F (F a 2) 0))
    (r_G71_F_F_a_2_0 : G71.2.2.1 (F (F a 2) 0) = G.2.2.1 (F (F a 2) 0))
    (r_G71_F_F_a_2_1 : G71.2.2.1 (F (F a 2) 1) = G.2.2.1 (F (F a 2) 1))
    (d_G71_F_a_10_6 : G71.1 (F a 10) 6 = G.1 (F a 10) 6)
    (d_G71_F_a_11_3 : G71.1 (F a 11) 3 = G.1 (F a 11) 3)
    (d_G71_F_a_14_1 : G71.1 (F a 14) 1 = G4.1 (F a 14) 1)
    (d_G71_F_a_14_2 : G71.1 (F a 14) 2 = G.1 (F a 14) 2)
    (d_G71_F_a_14_3 : G71.1 (F a 14) 3 = G.1 (F a 14) 3)
    (d_G71_F_a_8_6 : G71.1 (F a 8) 6 = G.1 (F a 8) 6)
    (d_G71_F_a_9_6 : G71.1 (F a 9) 6 = G.1 (F a 9) 6) :
    BKr K G71 (G71.2.2.1 (F (F a 2) 1)) := by
  have hd : ∀ p, p ∈ [(F a 11, 3), (F a 9, 6), (F a 14, 1), (F a 14, 2), (F a 14, 3), (F a 10, 6), (F a 8, 6), (F a 12, 4)] → K p.1 ≠ 9 := (List.forall_mem_cons.mpr ⟨(show K (F a 11) ≠ 9 by omega), List.forall_mem_cons.mpr ⟨(show K (F a 9) ≠ 9 by omega), List.forall_mem_cons.mpr ⟨(show K (F a 14) ≠ 9 by omega), List.forall_mem_cons.mpr ⟨(show K (F a 14) ≠ 9 by omega), List.forall_mem_cons.mpr ⟨(show K (F a 14) ≠ 9 by omega), List.forall_mem_cons.mpr ⟨(show K (F a 10) ≠ 9 by omega), List.forall_mem_cons.mpr ⟨(show K (F a 8) ≠ 9 by omega), List.forall_mem_cons.mpr ⟨(show K (F a 12) ≠ 9 by omega), fun _ h => by cases h⟩⟩⟩⟩⟩⟩⟩⟩)
  rw [show G71.2.2.1 (F (F a 2) 1) = G.2.2.1 (F (F a 2) 1) by assumption]
  exact bko.fr hfr hd
theorem v_X10_cut_75_12 {K : Nat → Nat} {F : Nat → Nat → Nat} (a : Nat) (G : XG) (G71 : XG) (G4 : XG) (G54 : XG) (p0 : Int32) (p1 : Int32) (x8 : Int32) (x15 : Int32) (x33 : Int32)
    (ha : K a = 12)
    (hk9999 : K (F a 11) = 3)
    (hj9999 : F (F a 11) 99 = 0)
    (hk9999a : K (F a 9) = 6)
    (hj9999a : F (F a 9) 99 = 1)
    (hk9999b : K (F a 14) = 11)
    (hj9999b : F (F a 14) 99 = 0)
    (hk9999c : K (F a 10) = 6)
    (hj9999c : F (F a 10) 99 = 2)
    (hk9999d : K (F a 8) = 6)
    (hj9999d : F (F a 8) 99 = 0)
    (hk9999e : K (F a 12) = 4)
    (hj9999e : F (F a 12) 99 = 0)
    (hk9999f : K (F (F a 11) 0) = 21)
    (hj9999f : F (F (F a 11) 0) 99 = 100)
    (hk9999g : K (F (F a 11) 1) = 21)
    (hj9999g : F (F (F a 11) 1) 99 = 101)
    (hk9999h : K (F (F a 11) 2) = 24)
    (hj9999h : F (F (F a 11) 2) 99 = 4)
    (hk9999i : K (F (F a 9) 0) = 22)
    (hj9999j : F (F (F a 9) 0) 99 = 10 * 1 + 0)
    (hk9999j : K (F (F a 9) 1) = 22)
    (hj9999l : F (F (F a 9) 1) 99 = 10 * 1 + 1)
    (hk9999k : K (F (F a 9) 2) = 22)
    (hj9999n : F (F (F a 9) 2) 99 = 10 * 1 + 2)
    (hk9999l : K (F (F a 9) 3) = 22)
    (hj9999p : F (F (F a 9) 3) 99 = 10 * 1 + 3)
    (hk9999m : K (F (F a 9) 4) = 23)
    (hj9999r : F (F (F a 9) 4) 99 = 10 * 1 + 4)
    (hk9999n : K (F (F a 9) 5) = 23)
    (hj9999t : F (F (F a 9) 5) 99 = 10 * 1 + 5)
    (hk9999o : K (F a 16) = 27)
    (hj9999u : F (F a 16) 99 = 0)
    (hk9999p : K (F a 15) = 26)
    (hj9999v : F (F a 15) 99 = 0)
    (hk9999q : K (F (F a 10) 0) = 22)
    (hj9999y : F (F (F a 10) 0) 99 = 10 * 2 + 0)
    (hk9999r : K (F (F a 10) 1) = 22)
    (hj9999z26 : F (F (F a 10) 1) 99 = 10 * 2 + 1)
    (hk9999s : K (F (F a 10) 2) = 22)
    (hj9999z28 : F (F (F a 10) 2) 99 = 10 * 2 + 2)
    (hk9999t : K (F (F a 10) 3) = 22)
    (hj9999z30 : F (F (F a 10) 3) 99 = 10 * 2 + 3)
    (hk9999u : K (F (F a 10) 4) = 23)
    (hj9999z32 : F (F (F a 10) 4) 99 = 10 * 2 + 4)
    (hk9999v : K (F (F a 10) 5) = 23)
    (hj9999z34 : F (F (F a 10) 5) 99 = 10 * 2 + 5)
    (hk9999w : K (F a 3) = 8)
    (hj9999z35 : F (F a 3) 99 = 0)
    (hk9999y : K (F (F a 3) 0) = 20)
    (hj9999z37 : F (F (F a 3) 0) 99 = 0)
    (hk9999z25 : K (F (F a 3) 1) = 21)
    (hj9999z39 : F (F (F a 3) 1) 99 = 0)
    (hk9999z26 : K (F (F a 8) 0) = 22)
    (hj9999z41 : F (F (F a 8) 0) 99 = 10 * 0 + 0)
    (hk9999z27 : K (F (F a 8) 1) = 22)
    (hj9999z43 : F (F (F a 8) 1) 99 = 10 * 0 + 1)
    (hk9999z28 : K (F (F a 8) 2) = 22)
    (hj9999z45 : F (F (F a 8) 2) 99 = 10 * 0 + 2)
    (hk9999z29 : K (F (F a 8) 3) = 22)
    (hj9999z47 : F (F (F a 8) 3) 99 = 10 * 0 + 3)
    (hk9999z30 : K (F (F a 8) 4) = 23)
    (hj9999z49 : F (F (F a 8) 4) 99 = 10 * 0 + 4)
    (hk9999z31 : K (F (F a 8) 5) = 23)
    (hj9999z51 : F (F (F a 8) 5) 99 = 10 * 0 + 5)
    (hk9999z32 : K (F a 5) = 8)
    (hj9999z52 : F (F a 5) 99 = 2)
    (hk9999z33 : K (F (F a 5) 0) = 20)
    (hj9999z54 : F (F (F a 5) 0) 99 = 2)
    (hk9999z34 : K (F (F a 5) 1) = 21)
    (hj9999z56 : F (F (F a 5) 1) 99 = 2)
    (hk9999z35 : K (F (F a 12) 0) = 24)
    (hj9999z57 : F (F (F a 12) 0) 99 = 0)
    (hk9999z36 : K (F (F a 12) 1) = 24)
    (hj9999z58 : F (F (F a 12) 1) 99 = 1)
    (hk9999z37 : K (F (F a 12) 2) = 24)
    (hj9999z59 : F (F (F a 12) 2) 99 = 2)
    (hk9999z38 : K (F (F a 12) 3) = 24)
    (hj9999z60 : F (F (F a 12) 3) 99 = 3)
    (hk9999z39 : K (F a 2) = 2)
    (hj9999z61 : F (F a 2) 99 = 0)
    (hk9999z40 : K (F (F a 2) 1) = 15)
    (hj9999z62 : F (F (F a 2) 1) 99 = 1)
    (hk9999z41 : K (F (F a 2) 0) = 15)
    (hj9999z63 : F (F (F a 2) 0) 99 = 0)
    (hk9999z42 : K (F a 4) = 8)
    (hj9999z64 : F (F a 4) 99 = 1)
    (hk9999z43 : K (F (F a 4) 0) = 20)
    (hj9999z66 : F (F (F a 4) 0) 99 = 1)
    (hk9999z44 : K (F (F a 4) 1) = 21)
    (hj9999z68 : F (F (F a 4) 1) 99 = 1)
    (hfr : XFr [(F a 11, 3), (F a 9, 6), (F a 14, 1), (F a 14, 2), (F a 14, 3), (F a 10, 6), (F a 8, 6), (F a 12, 4)] [F (F a 11) 0, F (F a 11) 1, F (F a 11) 2, F (F a 9) 0, F (F a 9) 1, F (F a 9) 2, F (F a 9) 3, F (F a 9) 4, F (F a 9) 5, F a 16, F a 15, F (F a 10) 0, F (F a 10) 1, F (F a 10) 2, F (F a 10) 3, F (F a 10) 4, F (F a 10) 5, F (F a 3) 0, F (F a 3) 1, F (F a 8) 0, F (F a 8) 1, F (F a 8) 2, F (F a 8) 3, F (F a 8) 4, F (F a 8) 5, F (F a 5) 0, F (F a 5) 1, F (F a 12) 0, F (F a 12) 1, F (F a 12) 2, F (F a 12) 3] [] G G71)
    (hF4 : XFr [(F a 14, 1)] [] [] G G4)
    (hF54 : XFr [] [F (F a 5) 0, F (F a 5) 1] [] G4 G54)
    (hF71 : XFr [(F a 12, 4)] [F (F a 12) 0, F (F a 12) 1, F (F a 12) 2, F (F a 12) 3, F (F a 5) 0, F (F a 5) 1] [] G54 G71)
    (ron : RO (vw (G.2.1 (F (F a 3) 0))) (aI (G.2.1 (F (F a 3) 1))))
    (rob : RO (vw (G.2.1 (F (F a 4) 0))) (aI (G.2.1 (F (F a 4) 1))))
    (bko : BKr K G (G.2.2.1 (F (F a 2) 1)))
    (bkn : BKr K G (G.2.2.1 (F (F a 2) 0)))
    (hac : ACo G (G.2.2.1 (F (F a 2) 0)))
    (oq54 : (vw (G54.2.1 (F (F a 5) 0))) = (vw (G.2.1 (F (F a 3) 0))))
    (oq54a : RO (vw (G54.2.1 (F (F a 5) 0))) (aI (G54.2.1 (F (F a 5) 1))))
    (oq71 : (vw (G71.2.1 (F (F a 5) 0))) = cfin (clsA G54 (G54.2.2.1 (F (F a 2) 0))) (clsT G54 (G54.2.2.1 (F (F a 2) 0))) (clsC G54 (G54.2.2.1 (F (F a 2) 0))) ([(p0.toInt, p1.toInt, 0, 0)], rfil (vw (G54.2.1 (F (F a 5) 0))) p0.toInt p1.toInt (-2000) 3))
    (oq71a : RO (vw (G71.2.1 (F (F a 5) 0))) (aI (G71.2.1 (F (F a 5) 1))))
    (sb : 0 ≤ ((G.1 (F a 2) 2).toInt) ∧ ((G.1 (F a 2) 2).toInt) ≤ 12)
    (sw : 0 ≤ ((G.1 (F a 8) 6).toInt) ∧ ((G.1 (F a 8) 6).toInt) ≤ 1080)
    (t4 : ((G4.1 (F a 14) 1).toInt) = 0)
    (t8 : (x8.toInt = 1 ∧ 0 ≤ p0.toInt ∧ p0.toInt < 3) ∨ (x8.toInt = 0 ∧ (p0.toInt < 0 ∨ 3 ≤ p0.toInt)))
    (c11 : ¬ (x8.toInt = 0))
    (t15 : (x15.toInt = 1 ∧ 0 ≤ p1.toInt ∧ p1.toInt < 30) ∨ (x15.toInt = 0 ∧ (p1.toInt < 0 ∨ 30 ≤ p1.toInt)))
    (c18 : x15.toInt ≠ 0)
    (t33 : (x33.toInt = 1 ∧ (cel (vw (G.2.1 (F (F a 3) 0))) (p0.toInt) (p1.toInt) 0) ≠ -2000) ∨ (x33.toInt = 0 ∧ (cel (vw (G.2.1 (F (F a 3) 0))) (p0.toInt) (p1.toInt) 0) = -2000))
    (c36 : x33.toInt ≠ 0)
    (z57 : (cel (vw (G54.2.1 (F (F a 5) 0))) (p0.toInt) (p1.toInt) 0) = (cel (vw (G.2.1 (F (F a 3) 0))) (p0.toInt) (p1.toInt) 0))
    (c_G71_F_F_a_10_0 : G71.2.1 (F (F a 10) 0) = G.2.1 (F (F a 10) 0))
    (c_G71_F_F_a_10_1 : G71.2.1 (F (F a 10) 1) = G.2.1 (F (F a 10) 1))
    (c_G71_F_F_a_10_2 : G71.2.1 (F (F a 10) 2) = G.2.1 (F (F a 10) 2))
    (c_G71_F_F_a_10_3 : G71.2.1 (F (F a 10) 3) = G.2.1 (F (F a 10) 3))
    (c_G71_F_F_a_10_4 : G71.2.1 (F (F a 10) 4) = G.2.1 (F (F a 10) 4))
    (c_G71_F_F_a_10_5 : G71.2.1 (F (F a 10) 5) = G.2.1 (F (F a 10) 5))
    (c_G71_F_F_a_11_0 : G71.2.1 (F (F a 11) 0) = G.2.1 (F (F a 11) 0))
    (c_G71_F_F_a_11_1 : G71.2.1 (F (F a 11) 1) = G.2.1 (F (F a 11) 1))
    (c_G71_F_F_a_11_2 : G71.2.1 (F (F a 11) 2) = G.2.1 (F (F a 11) 2))
    (c_G71_F_F_a_3_0 : G71.2.1 (F (F a 3) 0) = G.2.1 (F (F a 3) 0))
    (c_G71_F_F_a_3_1 : G71.2.1 (F (F a 3) 1) = G.2.1 (F (F a 3) 1))
    (c_G71_F_F_a_8_0 : G71.2.1 (F (F a 8) 0) = G.2.1 (F (F a 8) 0))
    (c_G71_F_F_a_8_1 : G71.2.1 (F (F a 8) 1) = G.2.1 (F (F a 8) 1))
    (c_G71_F_F_a_8_2 : G71.2.1 (F (F a 8) 2) = G.2.1 (F (F a 8) 2))
    (c_G71_F_F_a_8_3 : G71.2.1 (F (F a 8) 3) = G.2.1 (F (F a 8) 3))
    (c_G71_F_F_a_8_4 : G71.2.1 (F (F a 8) 4) = G.2.1 (F (F a 8) 4))
    (c_G71_F_F_a_8_5 : G71.2.1 (F (F a 8) 5) = G.2.1 (F (F a 8) 5))
    (c_G71_F_F_a_9_0 : G71.2.1 (F (F a 9) 0) = G.2.1 (F (F a 9) 0))
    (c_G71_F_F_a_9_1 : G71.2.1 (F (F a 9) 1) = G.2.1 (F (F a 9) 1))
    (c_G71_F_F_a_9_2 : G71.2.1 (F (F a 9) 2) = G.2.1 (F (F a 9) 2))
    (c_G71_F_F_a_9_3 : G71.2.1 (F (F a 9) 3) = G.2.1 (F (F a 9) 3))
    (c_G71_F_F_a_9_4 : G71.2.1 (F (F a 9) 4) = G.2.1 (F (F a 9) 4))
    (c_G71_F_F_a_9_5 : G71.2.1 (F (F a 9) 5) = G.2.1 (F (F a 9) 5))
    (c_G71_F_a_15 : G71.2.1 (F a 15) = G.2.1 (F a 15))
    (c_G71_F_a_16 : G71.2.1 (F a 16) = G.2.1 (F a 16))
    (r_G54_F_F_a_2_0 : G54.2.2.1 (F (F a 2) 0) = G.2.2.1 (F (F a 2) 0))
    (r_G71_F_F_a_2_0 : G71.2.2.1 (F (F a 2) 0) = G.2.2.1 (F (F a 2) 0))
    (r_G71_F_F_a_2_1 : G71.2.2.1 (F (F a 2) 1) = G.2.2.1 (F (F a 2) 1))
    (d_G71_F_a_10_6 : G71.1 (F a 10) 6 = G.1 (F a 10) 6)
    (d_G71_F_a_11_3 : G71.1 (F a 11) 3 = G.1 (F a 11) 3)
    (d_G71_F_a_14_1 : G71.1 (F a 14) 1 = G4.1 (F a 14) 1)
    (d_G71_F_a_14_2 : G71.1 (F a 14) 2 = G.1 (F a 14) 2)
    (d_G71_F_a_14_3 : G71.1 (F a 14) 3 = G.1 (F a 14) 3)
    (d_G71_F_a_8_6 : G71.1 (F a 8) 6 = G.1 (F a 8) 6)
    (d_G71_F_a_9_6 : G71.1 (F a 9) 6 = G.1 (F a 9) 6) :
    BKr K G71 (G71.2.2.1 (F (F a 2) 0)) := by
  have hd : ∀ p, p ∈ [(F a 11, 3), (F a 9, 6), (F a 14, 1), (F a 14, 2), (F a 14, 3), (F a 10, 6), (F a 8, 6), (F a 12, 4)] → K p.1 ≠ 9 := (List.forall_mem_cons.mpr ⟨(show K (F a 11) ≠ 9 by omega), List.forall_mem_cons.mpr ⟨(show K (F a 9) ≠ 9 by omega), List.forall_mem_cons.mpr ⟨(show K (F a 14) ≠ 9 by omega), List.forall_mem_cons.mpr ⟨(show K (F a 14) ≠ 9 by omega), List.forall_mem_cons.mpr ⟨(show K (F a 14) ≠ 9 by omega), List.forall_mem_cons.mpr ⟨(show K (F a 10) ≠ 9 by omega), List.forall_mem_cons.mpr ⟨(show K (F a 8) ≠ 9 by omega), List.forall_mem_cons.mpr ⟨(show K (F a 12) ≠ 9 by omega), fun _ h => by cases h⟩⟩⟩⟩⟩⟩⟩⟩)
  rw [show G71.2.2.1 (F (F a 2) 0) = G.2.2.1 (F (F a 2) 0) by assumption]
  exact bkn.fr hfr hd
theorem v_X10_cut_78_13 {K : Nat → Nat} {F : Nat → Nat → Nat} (a : Nat) (G : XG) (G75 : XG) (G4 : XG) (G54 : XG) (G71 : XG) (p0 : Int32) (p1 : Int32) (x75 : Int32) (x8 : Int32) (x15 : Int32) (x33 : Int32)
    (ha : K a = 12)
    (hk9999 : K (F a 11) = 3)
    (hj9999 : F (F a 11) 99 = 0)
    (hk9999a : K (F a 9) = 6)
    (hj9999a : F (F a 9) 99 = 1)
    (hk9999b : K (F a 14) = 11)
    (hj9999b : F (F a 14) 99 = 0)
    (hk9999c : K (F a 10) = 6)
    (hj9999c : F (F a 10) 99 = 2)
    (hk9999d : K (F a 8) = 6)
    (hj9999d : F (F a 8) 99 = 0)
    (hk9999e : K (F a 12) = 4)
    (hj9999e : F (F a 12) 99 = 0)
    (hk9999f : K (F (F a 11) 0) = 21)
    (hj9999f : F (F (F a 11) 0) 99 = 100)
    (hk9999g : K (F (F a 11) 1) = 21)
    (hj9999g : F (F (F a 11) 1) 99 = 101)
    (hk9999h : K (F (F a 11) 2) = 24)
    (hj9999h : F (F (F a 11) 2) 99 = 4)
    (hk9999i : K (F (F a 9) 0) = 22)
    (hj9999j : F (F (F a 9) 0) 99 = 10 * 1 + 0)
    (hk9999j : K (F (F a 9) 1) = 22)
    (hj9999l : F (F (F a 9) 1) 99 = 10 * 1 + 1)
    (hk9999k : K (F (F a 9) 2) = 22)
    (hj9999n : F (F (F a 9) 2) 99 = 10 * 1 + 2)
    (hk9999l : K (F (F a 9) 3) = 22)
    (hj9999p : F (F (F a 9) 3) 99 = 10 * 1 + 3)
    (hk9999m : K (F (F a 9) 4) = 23)
    (hj9999r : F (F (F a 9) 4) 99 = 10 * 1 + 4)
    (hk9999n : K (F (F a 9) 5) = 23)
    (hj9999t : F (F (F a 9) 5) 99 = 10 * 1 + 5)
    (hk9999o : K (F a 16) = 27)
    (hj9999u : F (F a 16) 99 = 0)
    (hk9999p : K (F a 15) = 26)
    (hj9999v : F (F a 15) 99 = 0)
    (hk9999q : K (F (F a 10) 0) = 22)
    (hj9999y : F (F (F a 10) 0) 99 = 10 * 2 + 0)
    (hk9999r : K (F (F a 10) 1) = 22)
    (hj9999z26 : F (F (F a 10) 1) 99 = 10 * 2 + 1)
    (hk9999s : K (F (F a 10) 2) = 22)
    (hj9999z28 : F (F (F a 10) 2) 99 = 10 * 2 + 2)
    (hk9999t : K (F (F a 10) 3) = 22)
    (hj9999z30 : F (F (F a 10) 3) 99 = 10 * 2 + 3)
    (hk9999u : K (F (F a 10) 4) = 23)
    (hj9999z32 : F (F (F a 10) 4) 99 = 10 * 2 + 4)
    (hk9999v : K (F (F a 10) 5) = 23)
    (hj9999z34 : F (F (F a 10) 5) 99 = 10 * 2 + 5)
    (hk9999w : K (F a 3) = 8)
    (hj9999z35 : F (F a 3) 99 = 0)
    (hk9999y : K (F (F a 3) 0) = 20)
    (hj9999z37 : F (F (F a 3) 0) 99 = 0)
    (hk9999z25 : K (F (F a 3) 1) = 21)
    (hj9999z39 : F (F (F a 3) 1) 99 = 0)
    (hk9999z26 : K (F (F a 8) 0) = 22)
    (hj9999z41 : F (F (F a 8) 0) 99 = 10 * 0 + 0)
    (hk9999z27 : K (F (F a 8) 1) = 22)
    (hj9999z43 : F (F (F a 8) 1) 99 = 10 * 0 + 1)
    (hk9999z28 : K (F (F a 8) 2) = 22)
    (hj9999z45 : F (F (F a 8) 2) 99 = 10 * 0 + 2)
    (hk9999z29 : K (F (F a 8) 3) = 22)
    (hj9999z47 : F (F (F a 8) 3) 99 = 10 * 0 + 3)
    (hk9999z30 : K (F (F a 8) 4) = 23)
    (hj9999z49 : F (F (F a 8) 4) 99 = 10 * 0 + 4)
    (hk9999z31 : K (F (F a 8) 5) = 23)
    (hj9999z51 : F (F (F a 8) 5) 99 = 10 * 0 + 5)
    (hk9999z32 : K (F a 5) = 8)
    (hj9999z52 : F (F a 5) 99 = 2)
    (hk9999z33 : K (F (F a 5) 0) = 20)
    (hj9999z54 : F (F (F a 5) 0) 99 = 2)
    (hk9999z34 : K (F (F a 5) 1) = 21)
    (hj9999z56 : F (F (F a 5) 1) 99 = 2)
    (hk9999z35 : K (F (F a 12) 0) = 24)
    (hj9999z57 : F (F (F a 12) 0) 99 = 0)
    (hk9999z36 : K (F (F a 12) 1) = 24)
    (hj9999z58 : F (F (F a 12) 1) 99 = 1)
    (hk9999z37 : K (F (F a 12) 2) = 24)
    (hj9999z59 : F (F (F a 12) 2) 99 = 2)
    (hk9999z38 : K (F (F a 12) 3) = 24)
    (hj9999z60 : F (F (F a 12) 3) 99 = 3)
    (hk9999z39 : K (F a 2) = 2)
    (hj9999z61 : F (F a 2) 99 = 0)
    (hk9999z40 : K (F (F a 2) 1) = 15)
    (hj9999z62 : F (F (F a 2) 1) 99 = 1)
    (hk9999z41 : K (F (F a 2) 0) = 15)
    (hj9999z63 : F (F (F a 2) 0) 99 = 0)
    (hk9999z42 : K (F a 4) = 8)
    (hj9999z64 : F (F a 4) 99 = 1)
    (hk9999z43 : K (F (F a 4) 0) = 20)
    (hj9999z66 : F (F (F a 4) 0) 99 = 1)
    (hk9999z44 : K (F (F a 4) 1) = 21)
    (hj9999z68 : F (F (F a 4) 1) 99 = 1)
    (hfr : XFr [(F a 11, 3), (F a 9, 6), (F a 14, 1), (F a 14, 2), (F a 14, 3), (F a 10, 6), (F a 8, 6), (F a 12, 4)] [F (F a 11) 0, F (F a 11) 1, F (F a 11) 2, F (F a 9) 0, F (F a 9) 1, F (F a 9) 2, F (F a 9) 3, F (F a 9) 4, F (F a 9) 5, F a 16, F a 15, F (F a 10) 0, F (F a 10) 1, F (F a 10) 2, F (F a 10) 3, F (F a 10) 4, F (F a 10) 5, F (F a 3) 0, F (F a 3) 1, F (F a 8) 0, F (F a 8) 1, F (F a 8) 2, F (F a 8) 3, F (F a 8) 4, F (F a 8) 5, F (F a 5) 0, F (F a 5) 1, F (F a 12) 0, F (F a 12) 1, F (F a 12) 2, F (F a 12) 3] [] G G75)
    (hF71 : XFr [(F a 12, 4)] [F (F a 12) 0, F (F a 12) 1, F (F a 12) 2, F (F a 12) 3, F (F a 5) 0, F (F a 5) 1] [] G54 G71)
    (hF75 : XFr [(F a 11, 3), (F a 9, 6), (F a 14, 1), (F a 14, 2), (F a 14, 3), (F a 10, 6), (F a 8, 6)] [F (F a 11) 0, F (F a 11) 1, F (F a 11) 2, F (F a 9) 0, F (F a 9) 1, F (F a 9) 2, F (F a 9) 3, F (F a 9) 4, F (F a 9) 5, F a 16, F a 15, F (F a 10) 0, F (F a 10) 1, F (F a 10) 2, F (F a 10) 3, F (F a 10) 4, F (F a 10) 5, F (F a 3) 0, F (F a 3) 1, F (F a 8) 0, F (F a 8) 1, F (F a 8) 2, F (F a 8) 3, F (F a 8) 4, F (F a 8) 5] [] G71 G75)
    (bko : BKr K G (G.2.2.1 (F (F a 2) 1)))
    (bkn : BKr K G (G.2.2.1 (F (F a 2) 0)))
    (oq54 : (vw (G54.2.1 (F (F a 5) 0))) = (vw (G.2.1 (F (F a 3) 0))))
    (oq71 : (vw (G71.2.1 (F (F a 5) 0))) = cfin (clsA G54 (G54.2.2.1 (F (F a 2) 0))) (clsT G54 (G54.2.2.1 (F (F a 2) 0))) (clsC G54 (G54.2.2.1 (F (F a 2) 0))) ([(p0.toInt, p1.toInt, 0, 0)], rfil (vw (G54.2.1 (F (F a 5) 0))) p0.toInt p1.toInt (-2000) 3))
    (oq75 : ActR ((G.1 a 18).toInt) x75.toInt (gaL G71 (G71.2.2.1 (F (F a 2) 1)) (vw (G.2.1 (F (F a 3) 0))) (vw (G71.2.1 (F (F a 5) 0))) 0 (((G.1 (F a 2) 2).toInt)).toNat) (vw (G.2.1 (F (F a 3) 0))) (vw (G75.2.1 (F (F a 3) 0))) (vw (G71.2.1 (F (F a 5) 0))) (qL G71 F (F a 8)) (qL G75 F (F a 8)) (gaL G71 (G71.2.2.1 (F (F a 2) 1)) (vw (G.2.1 (F (F a 4) 0))) (vw (G71.2.1 (F (F a 5) 0))) 1 (((G.1 (F a 2) 2).toInt)).toNat))
    (sb : 0 ≤ ((G.1 (F a 2) 2).toInt) ∧ ((G.1 (F a 2) 2).toInt) ≤ 12)
    (sw : 0 ≤ ((G.1 (F a 8) 6).toInt) ∧ ((G.1 (F a 8) 6).toInt) ≤ 1080)
    (t4 : ((G4.1 (F a 14) 1).toInt) = 0)
    (t8 : (x8.toInt = 1 ∧ 0 ≤ p0.toInt ∧ p0.toInt < 3) ∨ (x8.toInt = 0 ∧ (p0.toInt < 0 ∨ 3 ≤ p0.toInt)))
    (c11 : ¬ (x8.toInt = 0))
    (t15 : (x15.toInt = 1 ∧ 0 ≤ p1.toInt ∧ p1.toInt < 30) ∨ (x15.toInt = 0 ∧ (p1.toInt < 0 ∨ 30 ≤ p1.toInt)))
    (c18 : x15.toInt ≠ 0)
    (t33 : (x33.toInt = 1 ∧ (cel (vw (G.2.1 (F (F a 3) 0))) (p0.toInt) (p1.toInt) 0) ≠ -2000) ∨ (x33.toInt = 0 ∧ (cel (vw (G.2.1 (F (F a 3) 0))) (p0.toInt) (p1.toInt) 0) = -2000))
    (c36 : x33.toInt ≠ 0)
    (z57 : (cel (vw (G54.2.1 (F (F a 5) 0))) (p0.toInt) (p1.toInt) 0) = (cel (vw (G.2.1 (F (F a 3) 0))) (p0.toInt) (p1.toInt) 0))
    (t75 : 0 ≤ ((G75.1 (F a 8) 6).toInt) ∧ ((G75.1 (F a 8) 6).toInt) ≤ 1080)
    (c_G71_F_F_a_8_0 : G71.2.1 (F (F a 8) 0) = G.2.1 (F (F a 8) 0))
    (c_G71_F_F_a_8_1 : G71.2.1 (F (F a 8) 1) = G.2.1 (F (F a 8) 1))
    (c_G71_F_F_a_8_2 : G71.2.1 (F (F a 8) 2) = G.2.1 (F (F a 8) 2))
    (c_G71_F_F_a_8_3 : G71.2.1 (F (F a 8) 3) = G.2.1 (F (F a 8) 3))
    (c_G71_F_F_a_8_4 : G71.2.1 (F (F a 8) 4) = G.2.1 (F (F a 8) 4))
    (c_G71_F_F_a_8_5 : G71.2.1 (F (F a 8) 5) = G.2.1 (F (F a 8) 5))
    (r_G54_F_F_a_2_0 : G54.2.2.1 (F (F a 2) 0) = G.2.2.1 (F (F a 2) 0))
    (r_G71_F_F_a_2_1 : G71.2.2.1 (F (F a 2) 1) = G.2.2.1 (F (F a 2) 1))
    (d_G71_F_a_8_6 : G71.1 (F a 8) 6 = G.1 (F a 8) 6) :
    (x75.toInt = -1 ∧ ¬ ((0 ≤ p0.toInt ∧ p0.toInt < 3) ∧ (0 ≤ p1.toInt ∧ p1.toInt < 30)) ∧ ((vw (G75.2.1 (F (F a 3) 0))) = (vw (G.2.1 (F (F a 3) 0))) ∧ qL G75 F (F a 8) = qL G F (F a 8))) ∨ (((0 ≤ p0.toInt ∧ p0.toInt < 3) ∧ (0 ≤ p1.toInt ∧ p1.toInt < 30)) ∧ x75.toInt = -2 ∧ cel (vw (G.2.1 (F (F a 3) 0))) p0.toInt p1.toInt 0 = -2000 ∧ ((vw (G75.2.1 (F (F a 3) 0))) = (vw (G.2.1 (F (F a 3) 0))) ∧ qL G75 F (F a 8) = qL G F (F a 8))) ∨ (((0 ≤ p0.toInt ∧ p0.toInt < 3) ∧ (0 ≤ p1.toInt ∧ p1.toInt < 30)) ∧ cel (vw (G.2.1 (F (F a 3) 0))) p0.toInt p1.toInt 0 ≠ -2000 ∧ ActR ((G.1 a 18).toInt) x75.toInt (gaL G (G.2.2.1 (F (F a 2) 1)) (vw (G.2.1 (F (F a 3) 0))) (cfin (clsA G (G.2.2.1 (F (F a 2) 0))) (clsT G (G.2.2.1 (F (F a 2) 0))) (clsC G (G.2.2.1 (F (F a 2) 0))) ([(p0.toInt, p1.toInt, 0, 0)], rfil (vw (G.2.1 (F (F a 3) 0))) p0.toInt p1.toInt (-2000) 3)) 0 (((G.1 (F a 2) 2).toInt)).toNat) (vw (G.2.1 (F (F a 3) 0))) (vw (G75.2.1 (F (F a 3) 0))) (cfin (clsA G (G.2.2.1 (F (F a 2) 0))) (clsT G (G.2.2.1 (F (F a 2) 0))) (clsC G (G.2.2.1 (F (F a 2) 0))) ([(p0.toInt, p1.toInt, 0, 0)], rfil (vw (G.2.1 (F (F a 3) 0))) p0.toInt p1.toInt (-2000) 3)) (qL G F (F a 8)) (qL G75 F (F a 8)) (gaL G (G.2.2.1 (F (F a 2) 1)) (vw (G.2.1 (F (F a 4) 0))) (cfin (clsA G (G.2.2.1 (F (F a 2) 0))) (clsT G (G.2.2.1 (F (F a 2) 0))) (clsC G (G.2.2.1 (F (F a 2) 0))) ([(p0.toInt, p1.toInt, 0, 0)], rfil (vw (G.2.1 (F (F a 3) 0))) p0.toInt p1.toInt (-2000) 3)) 1 (((G.1 (F a 2) 2).toInt)).toNat)) := by
  have hd : ∀ p, p ∈ [(F a 11, 3), (F a 9, 6), (F a 14, 1), (F a 14, 2), (F a 14, 3), (F a 10, 6), (F a 8, 6), (F a 12, 4)] → K p.1 ≠ 9 := (List.forall_mem_cons.mpr ⟨(show K (F a 11) ≠ 9 by omega), List.forall_mem_cons.mpr ⟨(show K (F a 9) ≠ 9 by omega), List.forall_mem_cons.mpr ⟨(show K (F a 14) ≠ 9 by omega), List.forall_mem_cons.mpr ⟨(show K (F a 14) ≠ 9 by omega), List.forall_mem_cons.mpr ⟨(show K (F a 14) ≠ 9 by omega), List.forall_mem_cons.mpr ⟨(show K (F a 10) ≠ 9 by omega), List.forall_mem_cons.mpr ⟨(show K (F a 8) ≠ 9 by omega), List.forall_mem_cons.mpr ⟨(show K (F a 12) ≠ 9 by omega), fun _ h => by cases h⟩⟩⟩⟩⟩⟩⟩⟩)
  have hd2 : ∀ p, p ∈ [(F a 11, 3), (F a 9, 6), (F a 14, 1), (F a 14, 2), (F a 14, 3), (F a 10, 6), (F a 8, 6)] → K p.1 ≠ 9 := (List.forall_mem_cons.mpr ⟨(show K (F a 11) ≠ 9 by omega), List.forall_mem_cons.mpr ⟨(show K (F a 9) ≠ 9 by omega), List.forall_mem_cons.mpr ⟨(show K (F a 14) ≠ 9 by omega), List.forall_mem_cons.mpr ⟨(show K (F a 14) ≠ 9 by omega), List.forall_mem_cons.mpr ⟨(show K (F a 14) ≠ 9 by omega), List.forall_mem_cons.mpr ⟨(show K (F a 10) ≠ 9 by omega), List.forall_mem_cons.mpr ⟨(show K (F a 8) ≠ 9 by omega), fun _ h => by cases h⟩⟩⟩⟩⟩⟩⟩)
  have hd3 : ∀ p, p ∈ [(F a 12, 4)] → K p.1 ≠ 9 := (List.forall_mem_cons.mpr ⟨(show K (F a 12) ≠ 9 by omega), fun _ h => by cases h⟩)
  have h1 : ∀ q : Nat, K q = 9 → G71.1 q = G.1 q := fun q hk => (hF75.rule hd2 hk).symm.trans (hfr.rule hd hk)
  have h0 : ∀ (i q : Nat), i < 12 → G.2.2.1 (F (F a 2) 0) i = some q → G54.1 q = G.1 q := fun i q hi hq => (hF71.rule hd3 (bkn i q hi hq).1).symm.trans (h1 q (bkn i q hi hq).1)
  have hc : ∀ (i q : Nat), i < ((G.1 (F a 2) 2).toInt).toNat → G.2.2.1 (F (F a 2) 1) i = some q → G71.1 q = G.1 q := fun i q hi hq => h1 q (bko i q (by omega) hq).1
  have eq8 : qL G71 F (F a 8) = qL G F (F a 8) := qL_cg d_G71_F_a_8_6 c_G71_F_F_a_8_0 c_G71_F_F_a_8_1 c_G71_F_F_a_8_2 c_G71_F_F_a_8_3 c_G71_F_F_a_8_4 c_G71_F_F_a_8_5
  rw [r_G54_F_F_a_2_0, (cls_cg h0).1, (cls_cg h0).2.1, (cls_cg h0).2.2, oq54] at oq71
  rw [oq71, r_G71_F_F_a_2_1, gaL_cg hc, gaL_cg hc, eq8] at oq75
  exact Or.inr (Or.inr ⟨⟨by omega, by omega⟩, by omega, oq75⟩)
theorem v_X10_cut_78_14 {F : Nat → Nat → Nat} (a : Nat) (G75 : XG)
    (oq75a : RO (vw (G75.2.1 (F (F a 3) 0))) (aI (G75.2.1 (F (F a 3) 1)))) :
    RO (vw (G75.2.1 (F (F a 3) 0))) (aI (G75.2.1 (F (F a 3) 1))) := by
  exact oq75a
theorem v_X10_cut_45_15 {K : Nat → Nat} {F : Nat → Nat → Nat} (a : Nat) (G : XG) (G42 : XG) (G4 : XG) (x8 : Int32) (p0 : Int32) (x15 : Int32) (p1 : Int32) (x33 : Int32)
    (ha : K a = 12)
    (sb : 0 ≤ ((G.1 (F a 2) 2).toInt) ∧ ((G.1 (F a 2) 2).toInt) ≤ 12)
    (sw : 0 ≤ ((G.1 (F a 8) 6).toInt) ∧ ((G.1 (F a 8) 6).toInt) ≤ 1080)
    (t4 : ((G4.1 (F a 14) 1).toInt) = 0)
    (t8 : (x8.toInt = 1 ∧ 0 ≤ p0.toInt ∧ p0.toInt < 3) ∨ (x8.toInt = 0 ∧ (p0.toInt < 0 ∨ 3 ≤ p0.toInt)))
    (c11 : ¬ (x8.toInt = 0))
    (t15 : (x15.toInt = 1 ∧ 0 ≤ p1.toInt ∧ p1.toInt < 30) ∨ (x15.toInt = 0 ∧ (p1.toInt < 0 ∨ 30 ≤ p1.toInt)))
    (c18 : x15.toInt ≠ 0)
    (t33 : (x33.toInt = 1 ∧ (cel (vw (G.2.1 (F (F a 3) 0))) (p0.toInt) (p1.toInt) 0) ≠ -2000) ∨ (x33.toInt = 0 ∧ (cel (vw (G.2.1 (F (F a 3) 0))) (p0.toInt) (p1.toInt) 0) = -2000))
    (c36 : ¬ (x33.toInt ≠ 0))
    (c_G42_F_F_a_3_0 : G42.2.1 (F (F a 3) 0) = G.2.1 (F (F a 3) 0))
    (c_G42_F_F_a_8_0 : G42.2.1 (F (F a 8) 0) = G.2.1 (F (F a 8) 0))
    (c_G42_F_F_a_8_1 : G42.2.1 (F (F a 8) 1) = G.2.1 (F (F a 8) 1))
    (c_G42_F_F_a_8_2 : G42.2.1 (F (F a 8) 2) = G.2.1 (F (F a 8) 2))
    (c_G42_F_F_a_8_3 : G42.2.1 (F (F a 8) 3) = G.2.1 (F (F a 8) 3))
    (c_G42_F_F_a_8_4 : G42.2.1 (F (F a 8) 4) = G.2.1 (F (F a 8) 4))
    (c_G42_F_F_a_8_5 : G42.2.1 (F (F a 8) 5) = G.2.1 (F (F a 8) 5))
    (d_G42_F_a_8_6 : G42.1 (F a 8) 6 = G.1 (F a 8) 6) :
    ((-2 : Int) = -1 ∧ ¬ ((0 ≤ p0.toInt ∧ p0.toInt < 3) ∧ (0 ≤ p1.toInt ∧ p1.toInt < 30)) ∧ ((vw (G42.2.1 (F (F a 3) 0))) = (vw (G.2.1 (F (F a 3) 0))) ∧ qL G42 F (F a 8) = qL G F (F a 8))) ∨ (((0 ≤ p0.toInt ∧ p0.toInt < 3) ∧ (0 ≤ p1.toInt ∧ p1.toInt < 30)) ∧ (-2 : Int) = -2 ∧ cel (vw (G.2.1 (F (F a 3) 0))) p0.toInt p1.toInt 0 = -2000 ∧ ((vw (G42.2.1 (F (F a 3) 0))) = (vw (G.2.1 (F (F a 3) 0))) ∧ qL G42 F (F a 8) = qL G F (F a 8))) ∨ (((0 ≤ p0.toInt ∧ p0.toInt < 3) ∧ (0 ≤ p1.toInt ∧ p1.toInt < 30)) ∧ cel (vw (G.2.1 (F (F a 3) 0))) p0.toInt p1.toInt 0 ≠ -2000 ∧ ActR ((G.1 a 18).toInt) (-2 : Int) (gaL G (G.2.2.1 (F (F a 2) 1)) (vw (G.2.1 (F (F a 3) 0))) (cfin (clsA G (G.2.2.1 (F (F a 2) 0))) (clsT G (G.2.2.1 (F (F a 2) 0))) (clsC G (G.2.2.1 (F (F a 2) 0))) ([(p0.toInt, p1.toInt, 0, 0)], rfil (vw (G.2.1 (F (F a 3) 0))) p0.toInt p1.toInt (-2000) 3)) 0 (((G.1 (F a 2) 2).toInt)).toNat) (vw (G.2.1 (F (F a 3) 0))) (vw (G42.2.1 (F (F a 3) 0))) (cfin (clsA G (G.2.2.1 (F (F a 2) 0))) (clsT G (G.2.2.1 (F (F a 2) 0))) (clsC G (G.2.2.1 (F (F a 2) 0))) ([(p0.toInt, p1.toInt, 0, 0)], rfil (vw (G.2.1 (F (F a 3) 0))) p0.toInt p1.toInt (-2000) 3)) (qL G F (F a 8)) (qL G42 F (F a 8)) (gaL G (G.2.2.1 (F (F a 2) 1)) (vw (G.2.1 (F (F a 4) 0))) (cfin (clsA G (G.2.2.1 (F (F a 2) 0))) (clsT G (G.2.2.1 (F (F a 2) 0))) (clsC G (G.2.2.1 (F (F a 2) 0))) ([(p0.toInt, p1.toInt, 0, 0)], rfil (vw (G.2.1 (F (F a 3) 0))) p0.toInt p1.toInt (-2000) 3)) 1 (((G.1 (F a 2) 2).toInt)).toNat)) := by
  exact Or.inr (Or.inl ⟨⟨by omega, by omega⟩, rfl, by omega, by rw [c_G42_F_F_a_3_0], qL_cg d_G42_F_a_8_6 c_G42_F_F_a_8_0 c_G42_F_F_a_8_1 c_G42_F_F_a_8_2 c_G42_F_F_a_8_3 c_G42_F_F_a_8_4 c_G42_F_F_a_8_5⟩)
theorem v_X10_cut_45_16 {F : Nat → Nat → Nat} (a : Nat) (G : XG) (G42 : XG)
    (ron : RO (vw (G.2.1 (F (F a 3) 0))) (aI (G.2.1 (F (F a 3) 1))))
    (c_G42_F_F_a_3_0 : G42.2.1 (F (F a 3) 0) = G.2.1 (F (F a 3) 0))
    (c_G42_F_F_a_3_1 : G42.2.1 (F (F a 3) 1) = G.2.1 (F (F a 3) 1)) :
    RO (vw (G42.2.1 (F (F a 3) 0))) (aI (G42.2.1 (F (F a 3) 1))) := by
  rw [c_G42_F_F_a_3_0, c_G42_F_F_a_3_1]; exact ron
theorem v_X10_cut_26_17 {K : Nat → Nat} {F : Nat → Nat → Nat} (a : Nat) (G : XG) (G23 : XG) (G4 : XG) (x8 : Int32) (p0 : Int32) (x15 : Int32) (p1 : Int32)
    (ha : K a = 12)
    (sb : 0 ≤ ((G.1 (F a 2) 2).toInt) ∧ ((G.1 (F a 2) 2).toInt) ≤ 12)
    (sw : 0 ≤ ((G.1 (F a 8) 6).toInt) ∧ ((G.1 (F a 8) 6).toInt) ≤ 1080)
    (t4 : ((G4.1 (F a 14) 1).toInt) = 0)
    (t8 : (x8.toInt = 1 ∧ 0 ≤ p0.toInt ∧ p0.toInt < 3) ∨ (x8.toInt = 0 ∧ (p0.toInt < 0 ∨ 3 ≤ p0.toInt)))
    (c11 : ¬ (x8.toInt = 0))
    (t15 : (x15.toInt = 1 ∧ 0 ≤ p1.toInt ∧ p1.toInt < 30) ∨ (x15.toInt = 0 ∧ (p1.toInt < 0 ∨ 30 ≤ p1.toInt)))
    (c18 : ¬ (x15.toInt ≠ 0))
    (c_G23_F_F_a_3_0 : G23.2.1 (F (F a 3) 0) = G.2.1 (F (F a 3) 0))
    (c_G23_F_F_a_8_0 : G23.2.1 (F (F a 8) 0) = G.2.1 (F (F a 8) 0))
    (c_G23_F_F_a_8_1 : G23.2.1 (F (F a 8) 1) = G.2.1 (F (F a 8) 1))
    (c_G23_F_F_a_8_2 : G23.2.1 (F (F a 8) 2) = G.2.1 (F (F a 8) 2))
    (c_G23_F_F_a_8_3 : G23.2.1 (F (F a 8) 3) = G.2.1 (F (F a 8) 3))
    (c_G23_F_F_a_8_4 : G23.2.1 (F (F a 8) 4) = G.2.1 (F (F a 8) 4))
    (c_G23_F_F_a_8_5 : G23.2.1 (F (F a 8) 5) = G.2.1 (F (F a 8) 5))
    (d_G23_F_a_8_6 : G23.1 (F a 8) 6 = G.1 (F a 8) 6) :
    ((-1 : Int) = -1 ∧ ¬ ((0 ≤ p0.toInt ∧ p0.toInt < 3) ∧ (0 ≤ p1.toInt ∧ p1.toInt < 30)) ∧ ((vw (G23.2.1 (F (F a 3) 0))) = (vw (G.2.1 (F (F a 3) 0))) ∧ qL G23 F (F a 8) = qL G F (F a 8))) ∨ (((0 ≤ p0.toInt ∧ p0.toInt < 3) ∧ (0 ≤ p1.toInt ∧ p1.toInt < 30)) ∧ (-1 : Int) = -2 ∧ cel (vw (G.2.1 (F (F a 3) 0))) p0.toInt p1.toInt 0 = -2000 ∧ ((vw (G23.2.1 (F (F a 3) 0))) = (vw (G.2.1 (F (F a 3) 0))) ∧ qL G23 F (F a 8) = qL G F (F a 8))) ∨ (((0 ≤ p0.toInt ∧ p0.toInt < 3) ∧ (0 ≤ p1.toInt ∧ p1.toInt < 30)) ∧ cel (vw (G.2.1 (F (F a 3) 0))) p0.toInt p1.toInt 0 ≠ -2000 ∧ ActR ((G.1 a 18).toInt) (-1 : Int) (gaL G (G.2.2.1 (F (F a 2) 1)) (vw (G.2.1 (F (F a 3) 0))) (cfin (clsA G (G.2.2.1 (F (F a 2) 0))) (clsT G (G.2.2.1 (F (F a 2) 0))) (clsC G (G.2.2.1 (F (F a 2) 0))) ([(p0.toInt, p1.toInt, 0, 0)], rfil (vw (G.2.1 (F (F a 3) 0))) p0.toInt p1.toInt (-2000) 3)) 0 (((G.1 (F a 2) 2).toInt)).toNat) (vw (G.2.1 (F (F a 3) 0))) (vw (G23.2.1 (F (F a 3) 0))) (cfin (clsA G (G.2.2.1 (F (F a 2) 0))) (clsT G (G.2.2.1 (F (F a 2) 0))) (clsC G (G.2.2.1 (F (F a 2) 0))) ([(p0.toInt, p1.toInt, 0, 0)], rfil (vw (G.2.1 (F (F a 3) 0))) p0.toInt p1.toInt (-2000) 3)) (qL G F (F a 8)) (qL G23 F (F a 8)) (gaL G (G.2.2.1 (F (F a 2) 1)) (vw (G.2.1 (F (F a 4) 0))) (cfin (clsA G (G.2.2.1 (F (F a 2) 0))) (clsT G (G.2.2.1 (F (F a 2) 0))) (clsC G (G.2.2.1 (F (F a 2) 0))) ([(p0.toInt, p1.toInt, 0, 0)], rfil (vw (G.2.1 (F (F a 3) 0))) p0.toInt p1.toInt (-2000) 3)) 1 (((G.1 (F a 2) 2).toInt)).toNat)) := by
  exact Or.inl ⟨rfl, fun h => by omega, by rw [c_G23_F_F_a_3_0], qL_cg d_G23_F_a_8_6 c_G23_F_F_a_8_0 c_G23_F_F_a_8_1 c_G23_F_F_a_8_2 c_G23_F_F_a_8_3 c_G23_F_F_a_8_4 c_G23_F_F_a_8_5⟩
theorem v_X10_cut_26_18 {F : Nat → Nat → Nat} (a : Nat) (G : XG) (G23 : XG)
    (ron : RO (vw (G.2.1 (F (F a 3) 0))) (aI (G.2.1 (F (F a 3) 1))))
    (c_G23_F_F_a_3_0 : G23.2.1 (F (F a 3) 0) = G.2.1 (F (F a 3) 0))
    (c_G23_F_F_a_3_1 : G23.2.1 (F (F a 3) 1) = G.2.1 (F (F a 3) 1)) :
    RO (vw (G23.2.1 (F (F a 3) 0))) (aI (G23.2.1 (F (F a 3) 1))) := by
  rw [c_G23_F_F_a_3_0, c_G23_F_F_a_3_1]; exact ron
theorem v_X10_rekey_33_1 {K : Nat → Nat} {F : Nat → Nat → Nat} (a : Nat) (G : XG) (G30 : XG) (G4 : XG) (x8 : Int32) (p0 : Int32) (p1 : Int32) (p2 : Int32)
    (ha : K a = 12)
    (sb : 0 ≤ ((G.1 (F a 2) 2).toInt) ∧ ((G.1 (F a 2) 2).toInt) ≤ 12)
    (sw : 0 ≤ ((G.1 (F a 8) 6).toInt) ∧ ((G.1 (F a 8) 6).toInt) ≤ 1080)
    (t4 : ((G4.1 (F a 14) 1).toInt) = 0)
    (t8 : (x8.toInt = 1 ∧ 0 ≤ p0.toInt ∧ p0.toInt < 3) ∨ (x8.toInt = 0 ∧ (p0.toInt < 0 ∨ 3 ≤ p0.toInt)))
    (c11 : x8.toInt = 0)
    (c_G30_F_F_a_3_0 : G30.2.1 (F (F a 3) 0) = G.2.1 (F (F a 3) 0))
    (c_G30_F_F_a_8_0 : G30.2.1 (F (F a 8) 0) = G.2.1 (F (F a 8) 0))
    (c_G30_F_F_a_8_1 : G30.2.1 (F (F a 8) 1) = G.2.1 (F (F a 8) 1))
    (c_G30_F_F_a_8_2 : G30.2.1 (F (F a 8) 2) = G.2.1 (F (F a 8) 2))
    (c_G30_F_F_a_8_3 : G30.2.1 (F (F a 8) 3) = G.2.1 (F (F a 8) 3))
    (c_G30_F_F_a_8_4 : G30.2.1 (F (F a 8) 4) = G.2.1 (F (F a 8) 4))
    (c_G30_F_F_a_8_5 : G30.2.1 (F (F a 8) 5) = G.2.1 (F (F a 8) 5))
    (d_G30_F_a_8_6 : G30.1 (F a 8) 6 = G.1 (F a 8) 6) :
    ((-1 : Int) = -1 ∧ ¬ ((0 ≤ p0.toInt ∧ p0.toInt < 3) ∧ (0 ≤ p1.toInt ∧ p1.toInt < 30) ∧ (0 ≤ p2.toInt ∧ p2.toInt < 30)) ∧ ((vw (G30.2.1 (F (F a 3) 0))) = (vw (G.2.1 (F (F a 3) 0))) ∧ qL G30 F (F a 8) = qL G F (F a 8))) ∨ (((0 ≤ p0.toInt ∧ p0.toInt < 3) ∧ (0 ≤ p1.toInt ∧ p1.toInt < 30) ∧ (0 ≤ p2.toInt ∧ p2.toInt < 30)) ∧ (-1 : Int) = -2 ∧ cel (vw (G.2.1 (F (F a 3) 0))) p0.toInt p1.toInt 0 = -2000 ∧ ((vw (G30.2.1 (F (F a 3) 0))) = (vw (G.2.1 (F (F a 3) 0))) ∧ qL G30 F (F a 8) = qL G F (F a 8))) ∨ (((0 ≤ p0.toInt ∧ p0.toInt < 3) ∧ (0 ≤ p1.toInt ∧ p1.toInt < 30) ∧ (0 ≤ p2.toInt ∧ p2.toInt < 30)) ∧ cel (vw (G.2.1 (F (F a 3) 0))) p0.toInt p1.toInt 0 ≠ -2000 ∧ (-1 : Int) = -4 ∧ cel (vw (G.2.1 (F (F a 3) 0))) p0.toInt p2.toInt 0 ≠ -2000 ∧ ((vw (G30.2.1 (F (F a 3) 0))) = (vw (G.2.1 (F (F a 3) 0))) ∧ qL G30 F (F a 8) = qL G F (F a 8))) ∨ (((0 ≤ p0.toInt ∧ p0.toInt < 3) ∧ (0 ≤ p1.toInt ∧ p1.toInt < 30) ∧ (0 ≤ p2.toInt ∧ p2.toInt < 30)) ∧ cel (vw (G.2.1 (F (F a 3) 0))) p0.toInt p1.toInt 0 ≠ -2000 ∧ cel (vw (G.2.1 (F (F a 3) 0))) p0.toInt p2.toInt 0 = -2000 ∧ ActR ((G.1 a 18).toInt) (-1 : Int) (gaL G (G.2.2.1 (F (F a 2) 1)) (vw (G.2.1 (F (F a 3) 0))) (mvR (clsA G (G.2.2.1 (F (F a 2) 0))) (clsT G (G.2.2.1 (F (F a 2) 0))) (clsC G (G.2.2.1 (F (F a 2) 0))) p0.toInt p1.toInt p2.toInt (rmv (vw (G.2.1 (F (F a 3) 0))) p0.toInt p1.toInt p2.toInt) 12) 0 (((G.1 (F a 2) 2).toInt)).toNat) (vw (G.2.1 (F (F a 3) 0))) (vw (G30.2.1 (F (F a 3) 0))) (mvR (clsA G (G.2.2.1 (F (F a 2) 0))) (clsT G (G.2.2.1 (F (F a 2) 0))) (clsC G (G.2.2.1 (F (F a 2) 0))) p0.toInt p1.toInt p2.toInt (rmv (vw (G.2.1 (F (F a 3) 0))) p0.toInt p1.toInt p2.toInt) 12) (qL G F (F a 8)) (qL G30 F (F a 8)) (gaL G (G.2.2.1 (F (F a 2) 1)) (vw (G.2.1 (F (F a 4) 0))) (mvR (clsA G (G.2.2.1 (F (F a 2) 0))) (clsT G (G.2.2.1 (F (F a 2) 0))) (clsC G (G.2.2.1 (F (F a 2) 0))) p0.toInt p1.toInt p2.toInt (rmv (vw (G.2.1 (F (F a 3) 0))) p0.toInt p1.toInt p2.toInt) 12) 1 (((G.1 (F a 2) 2).toInt)).toNat)) := by
  exact Or.inl ⟨rfl, fun h => by omega, by rw [c_G30_F_F_a_3_0], qL_cg d_G30_F_a_8_6 c_G30_F_F_a_8_0 c_G30_F_F_a_8_1 c_G30_F_F_a_8_2 c_G30_F_F_a_8_3 c_G30_F_F_a_8_4 c_G30_F_F_a_8_5⟩
theorem v_X10_rekey_33_2 {F : Nat → Nat → Nat} (a : Nat) (G : XG) (G30 : XG)
    (ron : RO (vw (G.2.1 (F (F a 3) 0))) (aI (G.2.1 (F (F a 3) 1))))
    (c_G30_F_F_a_3_0 : G30.2.1 (F (F a 3) 0) = G.2.1 (F (F a 3) 0))
    (c_G30_F_F_a_3_1 : G30.2.1 (F (F a 3) 1) = G.2.1 (F (F a 3) 1)) :
    RO (vw (G30.2.1 (F (F a 3) 0))) (aI (G30.2.1 (F (F a 3) 1))) := by
  rw [c_G30_F_F_a_3_0, c_G30_F_F_a_3_1]; exact ron
theorem v_X10_rekey_33_3 {K : Nat → Nat} {F : Nat → Nat → Nat} (a : Nat) (G : XG) (G30 : XG) (G4 : XG) (x8 : Int32) (p0 : Int32) (x15 : Int32) (p1 : Int32) (p2 : Int32)
    (ha : K a = 12)
    (sb : 0 ≤ ((G.1 (F a 2) 2).toInt) ∧ ((G.1 (F a 2) 2).toInt) ≤ 12)
    (sw : 0 ≤ ((G.1 (F a 8) 6).toInt) ∧ ((G.1 (F a 8) 6).toInt) ≤ 1080)
    (t4 : ((G4.1 (F a 14) 1).toInt) = 0)
    (t8 : (x8.toInt = 1 ∧ 0 ≤ p0.toInt ∧ p0.toInt < 3) ∨ (x8.toInt = 0 ∧ (p0.toInt < 0 ∨ 3 ≤ p0.toInt)))
    (c11 : ¬ (x8.toInt = 0))
    (t15 : (x15.toInt = 1 ∧ 0 ≤ p1.toInt ∧ p1.toInt < 30) ∨ (x15.toInt = 0 ∧ (p1.toInt < 0 ∨ 30 ≤ p1.toInt)))
    (c18 : x15.toInt = 0)
    (c_G30_F_F_a_3_0 : G30.2.1 (F (F a 3) 0) = G.2.1 (F (F a 3) 0))
    (c_G30_F_F_a_8_0 : G30.2.1 (F (F a 8) 0) = G.2.1 (F (F a 8) 0))
    (c_G30_F_F_a_8_1 : G30.2.1 (F (F a 8) 1) = G.2.1 (F (F a 8) 1))
    (c_G30_F_F_a_8_2 : G30.2.1 (F (F a 8) 2) = G.2.1 (F (F a 8) 2))
    (c_G30_F_F_a_8_3 : G30.2.1 (F (F a 8) 3) = G.2.1 (F (F a 8) 3))
    (c_G30_F_F_a_8_4 : G30.2.1 (F (F a 8) 4) = G.2.1 (F (F a 8) 4))
    (c_G30_F_F_a_8_5 : G30.2.1 (F (F a 8) 5) = G.2.1 (F (F a 8) 5))
    (d_G30_F_a_8_6 : G30.1 (F a 8) 6 = G.1 (F a 8) 6) :
    ((-1 : Int) = -1 ∧ ¬ ((0 ≤ p0.toInt ∧ p0.toInt < 3) ∧ (0 ≤ p1.toInt ∧ p1.toInt < 30) ∧ (0 ≤ p2.toInt ∧ p2.toInt < 30)) ∧ ((vw (G30.2.1 (F (F a 3) 0))) = (vw (G.2.1 (F (F a 3) 0))) ∧ qL G30 F (F a 8) = qL G F (F a 8))) ∨ (((0 ≤ p0.toInt ∧ p0.toInt < 3) ∧ (0 ≤ p1.toInt ∧ p1.toInt < 30) ∧ (0 ≤ p2.toInt ∧ p2.toInt < 30)) ∧ (-1 : Int) = -2 ∧ cel (vw (G.2.1 (F (F a 3) 0))) p0.toInt p1.toInt 0 = -2000 ∧ ((vw (G30.2.1 (F (F a 3) 0))) = (vw (G.2.1 (F (F a 3) 0))) ∧ qL G30 F (F a 8) = qL G F (F a 8))) ∨ (((0 ≤ p0.toInt ∧ p0.toInt < 3) ∧ (0 ≤ p1.toInt ∧ p1.toInt < 30) ∧ (0 ≤ p2.toInt ∧ p2.toInt < 30)) ∧ cel (vw (G.2.1 (F (F a 3) 0))) p0.toInt p1.toInt 0 ≠ -2000 ∧ (-1 : Int) = -4 ∧ cel (vw (G.2.1 (F (F a 3) 0))) p0.toInt p2.toInt 0 ≠ -2000 ∧ ((vw (G30.2.1 (F (F a 3) 0))) = (vw (G.2.1 (F (F a 3) 0))) ∧ qL G30 F (F a 8) = qL G F (F a 8))) ∨ (((0 ≤ p0.toInt ∧ p0.toInt < 3) ∧ (0 ≤ p1.toInt ∧ p1.toInt < 30) ∧ (0 ≤ p2.toInt ∧ p2.toInt < 30)) ∧ cel (vw (G.2.1 (F (F a 3) 0))) p0.toInt p1.toInt 0 ≠ -2000 ∧ cel (vw (G.2.1 (F (F a 3) 0))) p0.toInt p2.toInt 0 = -2000 ∧ ActR ((G.1 a 18).toInt) (-1 : Int) (gaL G (G.2.2.1 (F (F a 2) 1)) (vw (G.2.1 (F (F a 3) 0))) (mvR (clsA G (G.2.2.1 (F (F a 2) 0))) (clsT G (G.2.2.1 (F (F a 2) 0))) (clsC G (G.2.2.1 (F (F a 2) 0))) p0.toInt p1.toInt p2.toInt (rmv (vw (G.2.1 (F (F a 3) 0))) p0.toInt p1.toInt p2.toInt) 12) 0 (((G.1 (F a 2) 2).toInt)).toNat) (vw (G.2.1 (F (F a 3) 0))) (vw (G30.2.1 (F (F a 3) 0))) (mvR (clsA G (G.2.2.1 (F (F a 2) 0))) (clsT G (G.2.2.1 (F (F a 2) 0))) (clsC G (G.2.2.1 (F (F a 2) 0))) p0.toInt p1.toInt p2.toInt (rmv (vw (G.2.1 (F (F a 3) 0))) p0.toInt p1.toInt p2.toInt) 12) (qL G F (F a 8)) (qL G30 F (F a 8)) (gaL G (G.2.2.1 (F (F a 2) 1)) (vw (G.2.1 (F (F a 4) 0))) (mvR (clsA G (G.2.2.1 (F (F a 2) 0))) (clsT G (G.2.2.1 (F (F a 2) 0))) (clsC G (G.2.2.1 (F (F a 2) 0))) p0.toInt p1.toInt p2.toInt (rmv (vw (G.2.1 (F (F a 3) 0))) p0.toInt p1.toInt p2.toInt) 12) 1 (((G.1 (F a 2) 2).toInt)).toNat)) := by
  exact Or.inl ⟨rfl, fun h => by omega, by rw [c_G30_F_F_a_3_0], qL_cg d_G30_F_a_8_6 c_G30_F_F_a_8_0 c_G30_F_F_a_8_1 c_G30_F_F_a_8_2 c_G30_F_F_a_8_3 c_G30_F_F_a_8_4 c_G30_F_F_a_8_5⟩
theorem v_X10_rekey_33_4 {F : Nat → Nat → Nat} (a : Nat) (G : XG) (G30 : XG)
    (ron : RO (vw (G.2.1 (F (F a 3) 0))) (aI (G.2.1 (F (F a 3) 1))))
    (c_G30_F_F_a_3_0 : G30.2.1 (F (F a 3) 0) = G.2.1 (F (F a 3) 0))
    (c_G30_F_F_a_3_1 : G30.2.1 (F (F a 3) 1) = G.2.1 (F (F a 3) 1)) :
    RO (vw (G30.2.1 (F (F a 3) 0))) (aI (G30.2.1 (F (F a 3) 1))) := by
  rw [c_G30_F_F_a_3_0, c_G30_F_F_a_3_1]; exact ron
theorem v_X10_rekey_40_5 {F : Nat → Nat → Nat} (a : Nat) (G : XG) (G4 : XG)
    (ron : RO (vw (G.2.1 (F (F a 3) 0))) (aI (G.2.1 (F (F a 3) 1))))
    (rob : RO (vw (G.2.1 (F (F a 4) 0))) (aI (G.2.1 (F (F a 4) 1))))
    (c_G4_F_F_a_3_0 : G4.2.1 (F (F a 3) 0) = G.2.1 (F (F a 3) 0))
    (c_G4_F_F_a_3_1 : G4.2.1 (F (F a 3) 1) = G.2.1 (F (F a 3) 1)) :
    RO (vw (G4.2.1 (F (F a 3) 0))) (aI (G4.2.1 (F (F a 3) 1))) := by simp only [c_G4_F_F_a_3_0, c_G4_F_F_a_3_1]; assumption
theorem v_X10_rekey_59_6 {F : Nat → Nat → Nat} (a : Nat) (G : XG) (G4 : XG)
    (ron : RO (vw (G.2.1 (F (F a 3) 0))) (aI (G.2.1 (F (F a 3) 1))))
    (rob : RO (vw (G.2.1 (F (F a 4) 0))) (aI (G.2.1 (F (F a 4) 1))))
    (c_G4_F_F_a_3_0 : G4.2.1 (F (F a 3) 0) = G.2.1 (F (F a 3) 0))
    (c_G4_F_F_a_3_1 : G4.2.1 (F (F a 3) 1) = G.2.1 (F (F a 3) 1)) :
    RO (vw (G4.2.1 (F (F a 3) 0))) (aI (G4.2.1 (F (F a 3) 1))) := by simp only [c_G4_F_F_a_3_0, c_G4_F_F_a_3_1]; assumption
theorem v_X10_rekey_80_7 {F : Nat → Nat → Nat} (a : Nat) (G : XG) (G4 : XG)
    (ron : RO (vw (G.2.1 (F (F a 3) 0))) (aI (G.2.1 (F (F a 3) 1))))
    (rob : RO (vw (G.2.1 (F (F a 4) 0))) (aI (G.2.1 (F (F a 4) 1))))
    (c_G4_F_F_a_3_0 : G4.2.1 (F (F a 3) 0) = G.2.1 (F (F a 3) 0))
    (c_G4_F_F_a_3_1 : G4.2.1 (F (F a 3) 1) = G.2.1 (F (F a 3) 1)) :
    RO (vw (G4.2.1 (F (F a 3) 0))) (aI (G4.2.1 (F (F a 3) 1))) := by simp only [c_G4_F_F_a_3_0, c_G4_F_F_a_3_1]; assumption
theorem v_X10_rekey_98_8 {F : Nat → Nat → Nat} (a : Nat) (G80 : XG)
    (oq80a : RO (vw (G80.2.1 (F (F a 5) 0))) (aI (G80.2.1 (F (F a 5) 1)))) :
    RO (vw (G80.2.1 (F (F a 5) 0))) (aI (G80.2.1 (F (F a 5) 1))) := by
  exact oq80a
theorem v_X10_rekey_98_9 {K : Nat → Nat} {F : Nat → Nat → Nat} (a : Nat) (G : XG) (G80 : XG) (G4 : XG) (x8 : Int32) (p0 : Int32) (x15 : Int32) (p1 : Int32) (x22 : Int32) (p2 : Int32) (x40 : Int32) (x59 : Int32)
    (ha : K a = 12)
    (hk9999 : K (F a 11) = 3)
    (hj9999 : F (F a 11) 99 = 0)
    (hk9999a : K (F a 9) = 6)
    (hj9999a : F (F a 9) 99 = 1)
    (hk9999b : K (F a 14) = 11)
    (hj9999b : F (F a 14) 99 = 0)
    (hk9999c : K (F a 10) = 6)
    (hj9999c : F (F a 10) 99 = 2)
    (hk9999d : K (F a 8) = 6)
    (hj9999d : F (F a 8) 99 = 0)
    (hk9999e : K (F (F a 11) 0) = 21)
    (hj9999e : F (F (F a 11) 0) 99 = 100)
    (hk9999f : K (F (F a 11) 1) = 21)
    (hj9999f : F (F (F a 11) 1) 99 = 101)
    (hk9999g : K (F (F a 11) 2) = 24)
    (hj9999g : F (F (F a 11) 2) 99 = 4)
    (hk9999h : K (F (F a 9) 0) = 22)
    (hj9999i : F (F (F a 9) 0) 99 = 10 * 1 + 0)
    (hk9999i : K (F (F a 9) 1) = 22)
    (hj9999k : F (F (F a 9) 1) 99 = 10 * 1 + 1)
    (hk9999j : K (F (F a 9) 2) = 22)
    (hj9999m : F (F (F a 9) 2) 99 = 10 * 1 + 2)
    (hk9999k : K (F (F a 9) 3) = 22)
    (hj9999o : F (F (F a 9) 3) 99 = 10 * 1 + 3)
    (hk9999l : K (F (F a 9) 4) = 23)
    (hj9999q : F (F (F a 9) 4) 99 = 10 * 1 + 4)
    (hk9999m : K (F (F a 9) 5) = 23)
    (hj9999s : F (F (F a 9) 5) 99 = 10 * 1 + 5)
    (hk9999n : K (F a 16) = 27)
    (hj9999t : F (F a 16) 99 = 0)
    (hk9999o : K (F a 15) = 26)
    (hj9999u : F (F a 15) 99 = 0)
    (hk9999p : K (F (F a 10) 0) = 22)
    (hj9999w : F (F (F a 10) 0) 99 = 10 * 2 + 0)
    (hk9999q : K (F (F a 10) 1) = 22)
    (hj9999z25 : F (F (F a 10) 1) 99 = 10 * 2 + 1)
    (hk9999r : K (F (F a 10) 2) = 22)
    (hj9999z27 : F (F (F a 10) 2) 99 = 10 * 2 + 2)
    (hk9999s : K (F (F a 10) 3) = 22)
    (hj9999z29 : F (F (F a 10) 3) 99 = 10 * 2 + 3)
    (hk9999t : K (F (F a 10) 4) = 23)
    (hj9999z31 : F (F (F a 10) 4) 99 = 10 * 2 + 4)
    (hk9999u : K (F (F a 10) 5) = 23)
    (hj9999z33 : F (F (F a 10) 5) 99 = 10 * 2 + 5)
    (hk9999v : K (F a 3) = 8)
    (hj9999z34 : F (F a 3) 99 = 0)
    (hk9999w : K (F (F a 3) 0) = 20)
    (hj9999z36 : F (F (F a 3) 0) 99 = 0)
    (hk9999y : K (F (F a 3) 1) = 21)
    (hj9999z38 : F (F (F a 3) 1) 99 = 0)
    (hk9999z25 : K (F (F a 8) 0) = 22)
    (hj9999z40 : F (F (F a 8) 0) 99 = 10 * 0 + 0)
    (hk9999z26 : K (F (F a 8) 1) = 22)
    (hj9999z42 : F (F (F a 8) 1) 99 = 10 * 0 + 1)
    (hk9999z27 : K (F (F a 8) 2) = 22)
    (hj9999z44 : F (F (F a 8) 2) 99 = 10 * 0 + 2)
    (hk9999z28 : K (F (F a 8) 3) = 22)
    (hj9999z46 : F (F (F a 8) 3) 99 = 10 * 0 + 3)
    (hk9999z29 : K (F (F a 8) 4) = 23)
    (hj9999z48 : F (F (F a 8) 4) 99 = 10 * 0 + 4)
    (hk9999z30 : K (F (F a 8) 5) = 23)
    (hj9999z50 : F (F (F a 8) 5) 99 = 10 * 0 + 5)
    (hk9999z31 : K (F a 5) = 8)
    (hj9999z51 : F (F a 5) 99 = 2)
    (hk9999z32 : K (F (F a 5) 0) = 20)
    (hj9999z53 : F (F (F a 5) 0) 99 = 2)
    (hk9999z33 : K (F (F a 5) 1) = 21)
    (hj9999z55 : F (F (F a 5) 1) 99 = 2)
    (hk9999z34 : K (F a 2) = 2)
    (hj9999z56 : F (F a 2) 99 = 0)
    (hk9999z35 : K (F (F a 2) 1) = 15)
    (hj9999z57 : F (F (F a 2) 1) 99 = 1)
    (hk9999z36 : K (F (F a 2) 0) = 15)
    (hj9999z58 : F (F (F a 2) 0) 99 = 0)
    (hk9999z37 : K (F a 4) = 8)
    (hj9999z59 : F (F a 4) 99 = 1)
    (hk9999z38 : K (F (F a 4) 0) = 20)
    (hj9999z61 : F (F (F a 4) 0) 99 = 1)
    (hk9999z39 : K (F (F a 4) 1) = 21)
    (hj9999z63 : F (F (F a 4) 1) 99 = 1)
    (hk84 : K (F a 12) = 4)
    (hj84 : F (F a 12) 99 = 0)
    (hfr : XFr [(F a 11, 3), (F a 9, 6), (F a 14, 1), (F a 14, 2), (F a 14, 3), (F a 10, 6), (F a 8, 6)] [F (F a 11) 0, F (F a 11) 1, F (F a 11) 2, F (F a 9) 0, F (F a 9) 1, F (F a 9) 2, F (F a 9) 3, F (F a 9) 4, F (F a 9) 5, F a 16, F a 15, F (F a 10) 0, F (F a 10) 1, F (F a 10) 2, F (F a 10) 3, F (F a 10) 4, F (F a 10) 5, F (F a 3) 0, F (F a 3) 1, F (F a 8) 0, F (F a 8) 1, F (F a 8) 2, F (F a 8) 3, F (F a 8) 4, F (F a 8) 5, F (F a 5) 0, F (F a 5) 1] [] G G80)
    (hF4 : XFr [(F a 14, 1)] [] [] G G4)
    (hF80 : XFr [] [F (F a 5) 0, F (F a 5) 1] [] G4 G80)
    (ron : RO (vw (G.2.1 (F (F a 3) 0))) (aI (G.2.1 (F (F a 3) 1))))
    (rob : RO (vw (G.2.1 (F (F a 4) 0))) (aI (G.2.1 (F (F a 4) 1))))
    (bko : BKr K G (G.2.2.1 (F (F a 2) 1)))
    (bkn : BKr K G (G.2.2.1 (F (F a 2) 0)))
    (hac : ACo G (G.2.2.1 (F (F a 2) 0)))
    (oq80 : (vw (G80.2.1 (F (F a 5) 0))) = (vw (G.2.1 (F (F a 3) 0))))
    (oq80a : RO (vw (G80.2.1 (F (F a 5) 0))) (aI (G80.2.1 (F (F a 5) 1))))
    (sb : 0 ≤ ((G.1 (F a 2) 2).toInt) ∧ ((G.1 (F a 2) 2).toInt) ≤ 12)
    (sw : 0 ≤ ((G.1 (F a 8) 6).toInt) ∧ ((G.1 (F a 8) 6).toInt) ≤ 1080)
    (t4 : ((G4.1 (F a 14) 1).toInt) = 0)
    (t8 : (x8.toInt = 1 ∧ 0 ≤ p0.toInt ∧ p0.toInt < 3) ∨ (x8.toInt = 0 ∧ (p0.toInt < 0 ∨ 3 ≤ p0.toInt)))
    (c11 : ¬ (x8.toInt = 0))
    (t15 : (x15.toInt = 1 ∧ 0 ≤ p1.toInt ∧ p1.toInt < 30) ∨ (x15.toInt = 0 ∧ (p1.toInt < 0 ∨ 30 ≤ p1.toInt)))
    (c18 : ¬ (x15.toInt = 0))
    (t22 : (x22.toInt = 1 ∧ 0 ≤ p2.toInt ∧ p2.toInt < 30) ∨ (x22.toInt = 0 ∧ (p2.toInt < 0 ∨ 30 ≤ p2.toInt)))
    (c25 : x22.toInt ≠ 0)
    (t40 : (x40.toInt = 1 ∧ (cel (vw (G.2.1 (F (F a 3) 0))) (p0.toInt) (p1.toInt) 0) ≠ -2000) ∨ (x40.toInt = 0 ∧ (cel (vw (G.2.1 (F (F a 3) 0))) (p0.toInt) (p1.toInt) 0) = -2000))
    (c43 : x40.toInt ≠ 0)
    (t59 : (x59.toInt = 1 ∧ (cel (vw (G.2.1 (F (F a 3) 0))) (p0.toInt) (p2.toInt) 0) ≠ -2000) ∨ (x59.toInt = 0 ∧ (cel (vw (G.2.1 (F (F a 3) 0))) (p0.toInt) (p2.toInt) 0) = -2000))
    (c62 : x59.toInt = 0)
    (z83 : (cel (vw (G80.2.1 (F (F a 5) 0))) (p0.toInt) (p1.toInt) 0) = (cel (vw (G.2.1 (F (F a 3) 0))) (p0.toInt) (p1.toInt) 0))
    (z83a : p1.toInt = p2.toInt → (cel (vw (G.2.1 (F (F a 3) 0))) (p0.toInt) (p1.toInt) 0) = (cel (vw (G.2.1 (F (F a 3) 0))) (p0.toInt) (p2.toInt) 0))
    (c_G80_F_F_a_10_0 : G80.2.1 (F (F a 10) 0) = G.2.1 (F (F a 10) 0))
    (c_G80_F_F_a_10_1 : G80.2.1 (F (F a 10) 1) = G.2.1 (F (F a 10) 1))
    (c_G80_F_F_a_10_2 : G80.2.1 (F (F a 10) 2) = G.2.1 (F (F a 10) 2))
    (c_G80_F_F_a_10_3 : G80.2.1 (F (F a 10) 3) = G.2.1 (F (F a 10) 3))
    (c_G80_F_F_a_10_4 : G80.2.1 (F (F a 10) 4) = G.2.1 (F (F a 10) 4))
    (c_G80_F_F_a_10_5 : G80.2.1 (F (F a 10) 5) = G.2.1 (F (F a 10) 5))
    (c_G80_F_F_a_11_0 : G80.2.1 (F (F a 11) 0) = G.2.1 (F (F a 11) 0))
    (c_G80_F_F_a_11_1 : G80.2.1 (F (F a 11) 1) = G.2.1 (F (F a 11) 1))
    (c_G80_F_F_a_11_2 : G80.2.1 (F (F a 11) 2) = G.2.1 (F (F a 11) 2))
    (c_G80_F_F_a_3_0 : G80.2.1 (F (F a 3) 0) = G.2.1 (F (F a 3) 0))
    (c_G80_F_F_a_3_1 : G80.2.1 (F (F a 3) 1) = G.2.1 (F (F a 3) 1))
    (c_G80_F_F_a_8_0 : G80.2.1 (F (F a 8) 0) = G.2.1 (F (F a 8) 0))
    (c_G80_F_F_a_8_1 : G80.2.1 (F (F a 8) 1) = G.2.1 (F (F a 8) 1))
    (c_G80_F_F_a_8_2 : G80.2.1 (F (F a 8) 2) = G.2.1 (F (F a 8) 2))
    (c_G80_F_F_a_8_3 : G80.2.1 (F (F a 8) 3) = G.2.1 (F (F a 8) 3))
    (c_G80_F_F_a_8_4 : G80.2.1 (F (F a 8) 4) = G.2.1 (F (F a 8) 4))
    (c_G80_F_F_a_8_5 : G80.2.1 (F (F a 8) 5) = G.2.1 (F (F a 8) 5))
    (c_G80_F_F_a_9_0 : G80.2.1 (F (F a 9) 0) = G.2.1 (F (F a 9) 0))
    (c_G80_F_F_a_9_1 : G80.2.1 (F (F a 9) 1) = G.2.1 (F (F a 9) 1))
    (c_G80_F_F_a_9_2 : G80.2.1 (F (F a 9) 2) = G.2.1 (F (F a 9) 2))
    (c_G80_F_F_a_9_3 : G80.2.1 (F (F a 9) 3) = G.2.1 (F (F a 9) 3))
    (c_G80_F_F_a_9_4 : G80.2.1 (F (F a 9) 4) = G.2.1 (F (F a 9) 4))
    (c_G80_F_F_a_9_5 : G80.2.1 (F (F a 9) 5) = G.2.1 (F (F a 9) 5))
    (c_G80_F_a_15 : G80.2.1 (F a 15) = G.2.1 (F a 15))
    (c_G80_F_a_16 : G80.2.1 (F a 16) = G.2.1 (F a 16))
    (r_G80_F_F_a_2_0 : G80.2.2.1 (F (F a 2) 0) = G.2.2.1 (F (F a 2) 0))
    (d_G80_F_a_10_6 : G80.1 (F a 10) 6 = G.1 (F a 10) 6)
    (d_G80_F_a_11_3 : G80.1 (F a 11) 3 = G.1 (F a 11) 3)
    (d_G80_F_a_14_1 : G80.1 (F a 14) 1 = G4.1 (F a 14) 1)
    (d_G80_F_a_14_2 : G80.1 (F a 14) 2 = G.1 (F a 14) 2)
    (d_G80_F_a_14_3 : G80.1 (F a 14) 3 = G.1 (F a 14) 3)
    (d_G80_F_a_8_6 : G80.1 (F a 8) 6 = G.1 (F a 8) 6)
    (d_G80_F_a_9_6 : G80.1 (F a 9) 6 = G.1 (F a 9) 6) :
    BKr K G80 (G80.2.2.1 (F (F a 2) 0)) := by
  have hd : ∀ p, p ∈ [(F a 11, 3), (F a 9, 6), (F a 14, 1), (F a 14, 2), (F a 14, 3), (F a 10, 6), (F a 8, 6)] → K p.1 ≠ 9 := (List.forall_mem_cons.mpr ⟨(show K (F a 11) ≠ 9 by omega), List.forall_mem_cons.mpr ⟨(show K (F a 9) ≠ 9 by omega), List.forall_mem_cons.mpr ⟨(show K (F a 14) ≠ 9 by omega), List.forall_mem_cons.mpr ⟨(show K (F a 14) ≠ 9 by omega), List.forall_mem_cons.mpr ⟨(show K (F a 14) ≠ 9 by omega), List.forall_mem_cons.mpr ⟨(show K (F a 10) ≠ 9 by omega), List.forall_mem_cons.mpr ⟨(show K (F a 8) ≠ 9 by omega), fun _ h => by cases h⟩⟩⟩⟩⟩⟩⟩)
  rw [show G80.2.2.1 (F (F a 2) 0) = G.2.2.1 (F (F a 2) 0) by assumption]
  exact bkn.fr hfr hd
theorem v_X10_rekey_98_10 {K : Nat → Nat} {F : Nat → Nat → Nat} (a : Nat) (G : XG) (G80 : XG) (G4 : XG) (x8 : Int32) (p0 : Int32) (x15 : Int32) (p1 : Int32) (x22 : Int32) (p2 : Int32) (x40 : Int32) (x59 : Int32)
    (ha : K a = 12)
    (hk9999 : K (F a 11) = 3)
    (hj9999 : F (F a 11) 99 = 0)
    (hk9999a : K (F a 9) = 6)
    (hj9999a : F (F a 9) 99 = 1)
    (hk9999b : K (F a 14) = 11)
    (hj9999b : F (F a 14) 99 = 0)
    (hk9999c : K (F a 10) = 6)
    (hj9999c : F (F a 10) 99 = 2)
    (hk9999d : K (F a 8) = 6)
    (hj9999d : F (F a 8) 99 = 0)
    (hk9999e : K (F (F a 11) 0) = 21)
    (hj9999e : F (F (F a 11) 0) 99 = 100)
    (hk9999f : K (F (F a 11) 1) = 21)
    (hj9999f : F (F (F a 11) 1) 99 = 101)
    (hk9999g : K (F (F a 11) 2) = 24)
    (hj9999g : F (F (F a 11) 2) 99 = 4)
    (hk9999h : K (F (F a 9) 0) = 22)
    (hj9999i : F (F (F a 9) 0) 99 = 10 * 1 + 0)
    (hk9999i : K (F (F a 9) 1) = 22)
    (hj9999k : F (F (F a 9) 1) 99 = 10 * 1 + 1)
    (hk9999j : K (F (F a 9) 2) = 22)
    (hj9999m : F (F (F a 9) 2) 99 = 10 * 1 + 2)
    (hk9999k : K (F (F a 9) 3) = 22)
    (hj9999o : F (F (F a 9) 3) 99 = 10 * 1 + 3)
    (hk9999l : K (F (F a 9) 4) = 23)
    (hj9999q : F (F (F a 9) 4) 99 = 10 * 1 + 4)
    (hk9999m : K (F (F a 9) 5) = 23)
    (hj9999s : F (F (F a 9) 5) 99 = 10 * 1 + 5)
    (hk9999n : K (F a 16) = 27)
    (hj9999t : F (F a 16) 99 = 0)
    (hk9999o : K (F a 15) = 26)
    (hj9999u : F (F a 15) 99 = 0)
    (hk9999p : K (F (F a 10) 0) = 22)
    (hj9999w : F (F (F a 10) 0) 99 = 10 * 2 + 0)
    (hk9999q : K (F (F a 10) 1) = 22)
    (hj9999z25 : F (F (F a 10) 1) 99 = 10 * 2 + 1)
    (hk9999r : K (F (F a 10) 2) = 22)
    (hj9999z27 : F (F (F a 10) 2) 99 = 10 * 2 + 2)
    (hk9999s : K (F (F a 10) 3) = 22)
    (hj9999z29 : F (F (F a 10) 3) 99 = 10 * 2 + 3)
    (hk9999t : K (F (F a 10) 4) = 23)
    (hj9999z31 : F (F (F a 10) 4) 99 = 10 * 2 + 4)
    (hk9999u : K (F (F a 10) 5) = 23)
    (hj9999z33 : F (F (F a 10) 5) 99 = 10 * 2 + 5)
    (hk9999v : K (F a 3) = 8)
    (hj9999z34 : F (F a 3) 99 = 0)
    (hk9999w : K (F (F a 3) 0) = 20)
    (hj9999z36 : F (F (F a 3) 0) 99 = 0)
    (hk9999y : K (F (F a 3) 1) = 21)
    (hj9999z38 : F (F (F a 3) 1) 99 = 0)
    (hk9999z25 : K (F (F a 8) 0) = 22)
    (hj9999z40 : F (F (F a 8) 0) 99 = 10 * 0 + 0)
    (hk9999z26 : K (F (F a 8) 1) = 22)
    (hj9999z42 : F (F (F a 8) 1) 99 = 10 * 0 + 1)
    (hk9999z27 : K (F (F a 8) 2) = 22)
    (hj9999z44 : F (F (F a 8) 2) 99 = 10 * 0 + 2)
    (hk9999z28 : K (F (F a 8) 3) = 22)
    (hj9999z46 : F (F (F a 8) 3) 99 = 10 * 0 + 3)
    (hk9999z29 : K (F (F a 8) 4) = 23)
    (hj9999z48 : F (F (F a 8) 4) 99 = 10 * 0 + 4)
    (hk9999z30 : K (F (F a 8) 5) = 23)
    (hj9999z50 : F (F (F a 8) 5) 99 = 10 * 0 + 5)
    (hk9999z31 : K (F a 5) = 8)
    (hj9999z51 : F (F a 5) 99 = 2)
    (hk9999z32 : K (F (F a 5) 0) = 20)
    (hj9999z53 : F (F (F a 5) 0) 99 = 2)
    (hk9999z33 : K (F (F a 5) 1) = 21)
    (hj9999z55 : F (F (F a 5) 1) 99 = 2)
    (hk9999z34 : K (F a 2) = 2)
    (hj9999z56 : F (F a 2) 99 = 0)
    (hk9999z35 : K (F (F a 2) 1) = 15)
    (hj9999z57 : F (F (F a 2) 1) 99 = 1)
    (hk9999z36 : K (F (F a 2) 0) = 15)
    (hj9999z58 : F (F (F a 2) 0) 99 = 0)
    (hk9999z37 : K (F a 4) = 8)
    (hj9999z59 : F (F a 4) 99 = 1)
    (hk9999z38 : K (F (F a 4) 0) = 20)
    (hj9999z61 : F (F (F a 4) 0) 99 = 1)
    (hk9999z39 : K (F (F a 4) 1) = 21)
    (hj9999z63 : F (F (F a 4) 1) 99 = 1)
    (hk84 : K (F a 12) = 4)
    (hj84 : F (F a 12) 99 = 0)
    (hfr : XFr [(F a 11, 3), (F a 9, 6), (F a 14, 1), (F a 14, 2), (F a 14, 3), (F a 10, 6), (F a 8, 6)] [F (F a 11) 0, F (F a 11) 1, F (F a 11) 2, F (F a 9) 0, F (F a 9) 1, F (F a 9) 2, F (F a 9) 3, F (F a 9) 4, F (F a 9) 5, F a 16, F a 15, F (F a 10) 0, F (F a 10) 1, F (F a 10) 2, F (F a 10) 3, F (F a 10) 4, F (F a 10) 5, F (F a 3) 0, F (F a 3) 1, F (F a 8) 0, F (F a 8) 1, F (F a 8) 2, F (F a 8) 3, F (F a 8) 4, F (F a 8) 5, F (F a 5) 0, F (F a 5) 1] [] G G80)
    (hF4 : XFr [(F a 14, 1)] [] [] G G4)
    (hF80 : XFr [] [F (F a 5) 0, F (F a 5) 1] [] G4 G80)
    (ron : RO (vw (G.2.1 (F (F a 3) 0))) (aI (G.2.1 (F (F a 3) 1))))
    (rob : RO (vw (G.2.1 (F (F a 4) 0))) (aI (G.2.1 (F (F a 4) 1))))
    (bko : BKr K G (G.2.2.1 (F (F a 2) 1)))
    (bkn : BKr K G (G.2.2.1 (F (F a 2) 0)))
    (hac : ACo G (G.2.2.1 (F (F a 2) 0)))
    (oq80 : (vw (G80.2.1 (F (F a 5) 0))) = (vw (G.2.1 (F (F a 3) 0))))
    (oq80a : RO (vw (G80.2.1 (F (F a 5) 0))) (aI (G80.2.1 (F (F a 5) 1))))
    (sb : 0 ≤ ((G.1 (F a 2) 2).toInt) ∧ ((G.1 (F a 2) 2).toInt) ≤ 12)
    (sw : 0 ≤ ((G.1 (F a 8) 6).toInt) ∧ ((G.1 (F a 8) 6).toInt) ≤ 1080)
    (t4 : ((G4.1 (F a 14) 1).toInt) = 0)
    (t8 : (x8.toInt = 1 ∧ 0 ≤ p0.toInt ∧ p0.toInt < 3) ∨ (x8.toInt = 0 ∧ (p0.toInt < 0 ∨ 3 ≤ p0.toInt)))
    (c11 : ¬ (x8.toInt = 0))
    (t15 : (x15.toInt = 1 ∧ 0 ≤ p1.toInt ∧ p1.toInt < 30) ∨ (x15.toInt = 0 ∧ (p1.toInt < 0 ∨ 30 ≤ p1.toInt)))
    (c18 : ¬ (x15.toInt = 0))
    (t22 : (x22.toInt = 1 ∧ 0 ≤ p2.toInt ∧ p2.toInt < 30) ∨ (x22.toInt = 0 ∧ (p2.toInt < 0 ∨ 30 ≤ p2.toInt)))
    (c25 : x22.toInt ≠ 0)
    (t40 : (x40.toInt = 1 ∧ (cel (vw (G.2.1 (F (F a 3) 0))) (p0.toInt) (p1.toInt) 0) ≠ -2000) ∨ (x40.toInt = 0 ∧ (cel (vw (G.2.1 (F (F a 3) 0))) (p0.toInt) (p1.toInt) 0) = -2000))
    (c43 : x40.toInt ≠ 0)
    (t59 : (x59.toInt = 1 ∧ (cel (vw (G.2.1 (F (F a 3) 0))) (p0.toInt) (p2.toInt) 0) ≠ -2000) ∨ (x59.toInt = 0 ∧ (cel (vw (G.2.1 (F (F a 3) 0))) (p0.toInt) (p2.toInt) 0) = -2000))
    (c62 : x59.toInt = 0)
    (z83 : (cel (vw (G80.2.1 (F (F a 5) 0))) (p0.toInt) (p1.toInt) 0) = (cel (vw (G.2.1 (F (F a 3) 0))) (p0.toInt) (p1.toInt) 0))
    (z83a : p1.toInt = p2.toInt → (cel (vw (G.2.1 (F (F a 3) 0))) (p0.toInt) (p1.toInt) 0) = (cel (vw (G.2.1 (F (F a 3) 0))) (p0.toInt) (p2.toInt) 0))
    (c_G80_F_F_a_10_0 : G80.2.1 (F (F a 10) 0) = G.2.1 (F (F a 10) 0))
    (c_G80_F_F_a_10_1 : G80.2.1 (F (F a 10) 1) = G.2.1 (F (F a 10) 1))
    (c_G80_F_F_a_10_2 : G80.2.1 (F (F a 10) 2) = G.2.1 (F (F a 10) 2))
    (c_G80_F_F_a_10_3 : G80.2.1 (F (F a 10) 3) = G.2.1 (F (F a 10) 3))
    (c_G80_F_F_a_10_4 : G80.2.1 (F (F a 10) 4) = G.2.1 (F (F a 10) 4))
    (c_G80_F_F_a_10_5 : G80.2.1 (F (F a 10) 5) = G.2.1 (F (F a 10) 5))
    (c_G80_F_F_a_11_0 : G80.2.1 (F (F a 11) 0) = G.2.1 (F (F a 11) 0))
    (c_G80_F_F_a_11_1 : G80.2.1 (F (F a 11) 1) = G.2.1 (F (F a 11) 1))
    (c_G80_F_F_a_11_2 : G80.2.1 (F (F a 11) 2) = G.2.1 (F (F a 11) 2))
    (c_G80_F_F_a_3_0 : G80.2.1 (F (F a 3) 0) = G.2.1 (F (F a 3) 0))
    (c_G80_F_F_a_3_1 : G80.2.1 (F (F a 3) 1) = G.2.1 (F (F a 3) 1))
    (c_G80_F_F_a_8_0 : G80.2.1 (F (F a 8) 0) = G.2.1 (F (F a 8) 0))
    (c_G80_F_F_a_8_1 : G80.2.1 (F (F a 8) 1) = G.2.1 (F (F a 8) 1))
    (c_G80_F_F_a_8_2 : G80.2.1 (F (F a 8) 2) = G.2.1 (F (F a 8) 2))
    (c_G80_F_F_a_8_3 : G80.2.1 (F (F a 8) 3) = G.2.1 (F (F a 8) 3))
    (c_G80_F_F_a_8_4 : G80.2.1 (F (F a 8) 4) = G.2.1 (F (F a 8) 4))
    (c_G80_F_F_a_8_5 : G80.2.1 (F (F a 8) 5) = G.2.1 (F (F a 8) 5))
    (c_G80_F_F_a_9_0 : G80.2.1 (F (F a 9) 0) = G.2.1 (F (F a 9) 0))
    (c_G80_F_F_a_9_1 : G80.2.1 (F (F a 9) 1) = G.2.1 (F (F a 9) 1))
    (c_G80_F_F_a_9_2 : G80.2.1 (F (F a 9) 2) = G.2.1 (F (F a 9) 2))
    (c_G80_F_F_a_9_3 : G80.2.1 (F (F a 9) 3) = G.2.1 (F (F a 9) 3))
    (c_G80_F_F_a_9_4 : G80.2.1 (F (F a 9) 4) = G.2.1 (F (F a 9) 4))
    (c_G80_F_F_a_9_5 : G80.2.1 (F (F a 9) 5) = G.2.1 (F (F a 9) 5))
    (c_G80_F_a_15 : G80.2.1 (F a 15) = G.2.1 (F a 15))
    (c_G80_F_a_16 : G80.2.1 (F a 16) = G.2.1 (F a 16))
    (r_G80_F_F_a_2_0 : G80.2.2.1 (F (F a 2) 0) = G.2.2.1 (F (F a 2) 0))
    (d_G80_F_a_10_6 : G80.1 (F a 10) 6 = G.1 (F a 10) 6)
    (d_G80_F_a_11_3 : G80.1 (F a 11) 3 = G.1 (F a 11) 3)
    (d_G80_F_a_14_1 : G80.1 (F a 14) 1 = G4.1 (F a 14) 1)
    (d_G80_F_a_14_2 : G80.1 (F a 14) 2 = G.1 (F a 14) 2)
    (d_G80_F_a_14_3 : G80.1 (F a 14) 3 = G.1 (F a 14) 3)
    (d_G80_F_a_8_6 : G80.1 (F a 8) 6 = G.1 (F a 8) 6)
    (d_G80_F_a_9_6 : G80.1 (F a 9) 6 = G.1 (F a 9) 6) :
    ACo G80 (G80.2.2.1 (F (F a 2) 0)) := by
  have hd : ∀ p, p ∈ [(F a 11, 3), (F a 9, 6), (F a 14, 1), (F a 14, 2), (F a 14, 3), (F a 10, 6), (F a 8, 6)] → K p.1 ≠ 9 := (List.forall_mem_cons.mpr ⟨(show K (F a 11) ≠ 9 by omega), List.forall_mem_cons.mpr ⟨(show K (F a 9) ≠ 9 by omega), List.forall_mem_cons.mpr ⟨(show K (F a 14) ≠ 9 by omega), List.forall_mem_cons.mpr ⟨(show K (F a 14) ≠ 9 by omega), List.forall_mem_cons.mpr ⟨(show K (F a 14) ≠ 9 by omega), List.forall_mem_cons.mpr ⟨(show K (F a 10) ≠ 9 by omega), List.forall_mem_cons.mpr ⟨(show K (F a 8) ≠ 9 by omega), fun _ h => by cases h⟩⟩⟩⟩⟩⟩⟩)
  rw [show G80.2.2.1 (F (F a 2) 0) = G.2.2.1 (F (F a 2) 0) by assumption]
  exact hac.cg (fun i q hi hq => hfr.rule hd (bkn i q hi hq).1)
theorem v_X10_rekey_102_11 {F : Nat → Nat → Nat} (a : Nat) (G : XG) (G98 : XG) (G80 : XG)
    (ron : RO (vw (G.2.1 (F (F a 3) 0))) (aI (G.2.1 (F (F a 3) 1))))
    (rob : RO (vw (G.2.1 (F (F a 4) 0))) (aI (G.2.1 (F (F a 4) 1))))
    (oq80a : RO (vw (G80.2.1 (F (F a 5) 0))) (aI (G80.2.1 (F (F a 5) 1))))
    (oq98a : RO (vw (G98.2.1 (F (F a 5) 0))) (aI (G98.2.1 (F (F a 5) 1))))
    (c_G98_F_F_a_3_0 : G98.2.1 (F (F a 3) 0) = G.2.1 (F (F a 3) 0))
    (c_G98_F_F_a_3_1 : G98.2.1 (F (F a 3) 1) = G.2.1 (F (F a 3) 1)) :
    RO (vw (G98.2.1 (F (F a 3) 0))) (aI (G98.2.1 (F (F a 3) 1))) := by simp only [c_G98_F_F_a_3_0, c_G98_F_F_a_3_1]; assumption
theorem v_X10_rekey_102_12 {F : Nat → Nat → Nat} (a : Nat) (G98 : XG)
    (oq98a : RO (vw (G98.2.1 (F (F a 5) 0))) (aI (G98.2.1 (F (F a 5) 1)))) :
    RO (vw (G98.2.1 (F (F a 5) 0))) (aI (G98.2.1 (F (F a 5) 1))) := by
  exact oq98a
theorem v_X10_rekey_102_13 {F : Nat → Nat → Nat} (a : Nat) (G : XG) (G98 : XG) (G80 : XG)
    (ron : RO (vw (G.2.1 (F (F a 3) 0))) (aI (G.2.1 (F (F a 3) 1))))
    (rob : RO (vw (G.2.1 (F (F a 4) 0))) (aI (G.2.1 (F (F a 4) 1))))
    (oq80a : RO (vw (G80.2.1 (F (F a 5) 0))) (aI (G80.2.1 (F (F a 5) 1))))
    (oq98a : RO (vw (G98.2.1 (F (F a 5) 0))) (aI (G98.2.1 (F (F a 5) 1))))
    (c_G98_F_F_a_4_0 : G98.2.1 (F (F a 4) 0) = G.2.1 (F (F a 4) 0))
    (c_G98_F_F_a_4_1 : G98.2.1 (F (F a 4) 1) = G.2.1 (F (F a 4) 1)) :
    RO (vw (G98.2.1 (F (F a 4) 0))) (aI (G98.2.1 (F (F a 4) 1))) := by simp only [c_G98_F_F_a_4_0, c_G98_F_F_a_4_1]; assumption
theorem v_X10_rekey_102_14 {K : Nat → Nat} {F : Nat → Nat → Nat} (a : Nat) (G : XG) (G98 : XG) (G4 : XG) (G80 : XG) (p0 : Int32) (p1 : Int32) (p2 : Int32) (x8 : Int32) (x15 : Int32) (x22 : Int32) (x40 : Int32) (x59 : Int32)
    (ha : K a = 12)
    (hk9999 : K (F a 11) = 3)
    (hj9999 : F (F a 11) 99 = 0)
    (hk9999a : K (F a 9) = 6)
    (hj9999a : F (F a 9) 99 = 1)
    (hk9999b : K (F a 14) = 11)
    (hj9999b : F (F a 14) 99 = 0)
    (hk9999c : K (F a 10) = 6)
    (hj9999c : F (F a 10) 99 = 2)
    (hk9999d : K (F a 8) = 6)
    (hj9999d : F (F a 8) 99 = 0)
    (hk9999e : K (F (F a 11) 0) = 21)
    (hj9999e : F (F (F a 11) 0) 99 = 100)
    (hk9999f : K (F (F a 11) 1) = 21)
    (hj9999f : F (F (F a 11) 1) 99 = 101)
    (hk9999g : K (F (F a 11) 2) = 24)
    (hj9999g : F (F (F a 11) 2) 99 = 4)
    (hk9999h : K (F (F a 9) 0) = 22)
    (hj9999i : F (F (F a 9) 0) 99 = 10 * 1 + 0)
    (hk9999i : K (F (F a 9) 1) = 22)
    (hj9999k : F (F (F a 9) 1) 99 = 10 * 1 + 1)
    (hk9999j : K (F (F a 9) 2) = 22)
    (hj9999m : F (F (F a 9) 2) 99 = 10 * 1 + 2)
    (hk9999k : K (F (F a 9) 3) = 22)
    (hj9999o : F (F (F a 9) 3) 99 = 10 * 1 + 3)
    (hk9999l : K (F (F a 9) 4) = 23)
    (hj9999q : F (F (F a 9) 4) 99 = 10 * 1 + 4)
    (hk9999m : K (F (F a 9) 5) = 23)
    (hj9999s : F (F (F a 9) 5) 99 = 10 * 1 + 5)
    (hk9999n : K (F a 16) = 27)
    (hj9999t : F (F a 16) 99 = 0)
    (hk9999o : K (F a 15) = 26)
    (hj9999u : F (F a 15) 99 = 0)
    (hk9999p : K (F (F a 10) 0) = 22)
    (hj9999w : F (F (F a 10) 0) 99 = 10 * 2 + 0)
    (hk9999q : K (F (F a 10) 1) = 22)
    (hj9999z25 : F (F (F a 10) 1) 99 = 10 * 2 + 1)
    (hk9999r : K (F (F a 10) 2) = 22)
    (hj9999z27 : F (F (F a 10) 2) 99 = 10 * 2 + 2)
    (hk9999s : K (F (F a 10) 3) = 22)
    (hj9999z29 : F (F (F a 10) 3) 99 = 10 * 2 + 3)
    (hk9999t : K (F (F a 10) 4) = 23)
    (hj9999z31 : F (F (F a 10) 4) 99 = 10 * 2 + 4)
    (hk9999u : K (F (F a 10) 5) = 23)
    (hj9999z33 : F (F (F a 10) 5) 99 = 10 * 2 + 5)
    (hk9999v : K (F a 3) = 8)
    (hj9999z34 : F (F a 3) 99 = 0)
    (hk9999w : K (F (F a 3) 0) = 20)
    (hj9999z36 : F (F (F a 3) 0) 99 = 0)
    (hk9999y : K (F (F a 3) 1) = 21)
    (hj9999z38 : F (F (F a 3) 1) 99 = 0)
    (hk9999z25 : K (F (F a 8) 0) = 22)
    (hj9999z40 : F (F (F a 8) 0) 99 = 10 * 0 + 0)
    (hk9999z26 : K (F (F a 8) 1) = 22)
    (hj9999z42 : F (F (F a 8) 1) 99 = 10 * 0 + 1)
    (hk9999z27 : K (F (F a 8) 2) = 22)
    (hj9999z44 : F (F (F a 8) 2) 99 = 10 * 0 + 2)
    (hk9999z28 : K (F (F a 8) 3) = 22)
    (hj9999z46 : F (F (F a 8) 3) 99 = 10 * 0 + 3)
    (hk9999z29 : K (F (F a 8) 4) = 23)
    (hj9999z48 : F (F (F a 8) 4) 99 = 10 * 0 + 4)
    (hk9999z30 : K (F (F a 8) 5) = 23)
    (hj9999z50 : F (F (F a 8) 5) 99 = 10 * 0 + 5)
    (hk9999z31 : K (F a 5) = 8)
    (hj9999z51 : F (F a 5) 99 = 2)
    (hk9999z32 : K (F (F a 5) 0) = 20)
    (hj9999z53 : F (F (F a 5) 0) 99 = 2)
    (hk9999z33 : K (F (F a 5) 1) = 21)
    (hj9999z55 : F (F (F a 5) 1) 99 = 2)
    (hk9999z34 : K (F a 2) = 2)
    (hj9999z56 : F (F a 2) 99 = 0)
    (hk9999z35 : K (F (F a 2) 1) = 15)
    (hj9999z57 : F (F (F a 2) 1) 99 = 1)
    (hk9999z36 : K (F (F a 2) 0) = 15)
    (hj9999z58 : F (F (F a 2) 0) 99 = 0)
    (hk9999z37 : K (F a 4) = 8)
    (hj9999z59 : F (F a 4) 99 = 1)
    (hk9999z38 : K (F (F a 4) 0) = 20)
    (hj9999z61 : F (F (F a 4) 0) 99 = 1)
    (hk9999z39 : K (F (F a 4) 1) = 21)
    (hj9999z63 : F (F (F a 4) 1) 99 = 1)
    (hk84 : K (F a 12) = 4)
    (hj84 : F (F a 12) 99 = 0)
    (hfr : XFr [(F a 11, 3), (F a 9, 6), (F a 14, 1), (F a 14, 2), (F a 14, 3), (F a 10, 6), (F a 8, 6)] [F (F a 11) 0, F (F a 11) 1, F (F a 11) 2, F (F a 9) 0, F (F a 9) 1, F (F a 9) 2, F (F a 9) 3, F (F a 9) 4, F (F a 9) 5, F a 16, F a 15, F (F a 10) 0, F (F a 10) 1, F (F a 10) 2, F (F a 10) 3, F (F a 10) 4, F (F a 10) 5, F (F a 3) 0, F (F a 3) 1, F (F a 8) 0, F (F a 8) 1, F (F a 8) 2, F (F a 8) 3, F (F a 8) 4, F (F a 8) 5, F (F a 5) 0, F (F a 5) 1] [] G G98)
    (hF4 : XFr [(F a 14, 1)] [] [] G G4)
    (hF80 : XFr [] [F (F a 5) 0, F (F a 5) 1] [] G4 G80)
    (hF98 : XFr [] [F (F a 5) 0, F (F a 5) 1] [] G80 G98)
    (ron : RO (vw (G.2.1 (F (F a 3) 0))) (aI (G.2.1 (F (F a 3) 1))))
    (rob : RO (vw (G.2.1 (F (F a 4) 0))) (aI (G.2.1 (F (F a 4) 1))))
    (bko : BKr K G (G.2.2.1 (F (F a 2) 1)))
    (bkn : BKr K G (G.2.2.1 (F (F a 2) 0)))
    (hac : ACo G (G.2.2.1 (F (F a 2) 0)))
    (oq80 : (vw (G80.2.1 (F (F a 5) 0))) = (vw (G.2.1 (F (F a 3) 0))))
    (oq80a : RO (vw (G80.2.1 (F (F a 5) 0))) (aI (G80.2.1 (F (F a 5) 1))))
    (oq98 : (vw (G98.2.1 (F (F a 5) 0))) = mvR (clsA G80 (G80.2.2.1 (F (F a 2) 0))) (clsT G80 (G80.2.2.1 (F (F a 2) 0))) (clsC G80 (G80.2.2.1 (F (F a 2) 0))) p0.toInt p1.toInt p2.toInt (rmv (vw (G80.2.1 (F (F a 5) 0))) p0.toInt p1.toInt p2.toInt) 12)
    (oq98a : RO (vw (G98.2.1 (F (F a 5) 0))) (aI (G98.2.1 (F (F a 5) 1))))
    (sb : 0 ≤ ((G.1 (F a 2) 2).toInt) ∧ ((G.1 (F a 2) 2).toInt) ≤ 12)
    (sw : 0 ≤ ((G.1 (F a 8) 6).toInt) ∧ ((G.1 (F a 8) 6).toInt) ≤ 1080)
    (t4 : ((G4.1 (F a 14) 1).toInt) = 0)
    (t8 : (x8.toInt = 1 ∧ 0 ≤ p0.toInt ∧ p0.toInt < 3) ∨ (x8.toInt = 0 ∧ (p0.toInt < 0 ∨ 3 ≤ p0.toInt)))
    (c11 : ¬ (x8.toInt = 0))
    (t15 : (x15.toInt = 1 ∧ 0 ≤ p1.toInt ∧ p1.toInt < 30) ∨ (x15.toInt = 0 ∧ (p1.toInt < 0 ∨ 30 ≤ p1.toInt)))
    (c18 : ¬ (x15.toInt = 0))
    (t22 : (x22.toInt = 1 ∧ 0 ≤ p2.toInt ∧ p2.toInt < 30) ∨ (x22.toInt = 0 ∧ (p2.toInt < 0 ∨ 30 ≤ p2.toInt)))
    (c25 : x22.toInt ≠ 0)
    (t40 : (x40.toInt = 1 ∧ (cel (vw (G.2.1 (F (F a 3) 0))) (p0.toInt) (p1.toInt) 0) ≠ -2000) ∨ (x40.toInt = 0 ∧ (cel (vw (G.2.1 (F (F a 3) 0))) (p0.toInt) (p1.toInt) 0) = -2000))
    (c43 : x40.toInt ≠ 0)
    (t59 : (x59.toInt = 1 ∧ (cel (vw (G.2.1 (F (F a 3) 0))) (p0.toInt) (p2.toInt) 0) ≠ -2000) ∨ (x59.toInt = 0 ∧ (cel (vw (G.2.1 (F (F a 3) 0))) (p0.toInt) (p2.toInt) 0) = -2000))
    (c62 : x59.toInt = 0)
    (z83 : (cel (vw (G80.2.1 (F (F a 5) 0))) (p0.toInt) (p1.toInt) 0) = (cel (vw (G.2.1 (F (F a 3) 0))) (p0.toInt) (p1.toInt) 0))
    (z83a : p1.toInt = p2.toInt → (cel (vw (G.2.1 (F (F a 3) 0))) (p0.toInt) (p1.toInt) 0) = (cel (vw (G.2.1 (F (F a 3) 0))) (p0.toInt) (p2.toInt) 0))
    (c_G98_F_F_a_10_0 : G98.2.1 (F (F a 10) 0) = G.2.1 (F (F a 10) 0))
    (c_G98_F_F_a_10_1 : G98.2.1 (F (F a 10) 1) = G.2.1 (F (F a 10) 1))
    (c_G98_F_F_a_10_2 : G98.2.1 (F (F a 10) 2) = G.2.1 (F (F a 10) 2))
    (c_G98_F_F_a_10_3 : G98.2.1 (F (F a 10) 3) = G.2.1 (F (F a 10) 3))
    (c_G98_F_F_a_10_4 : G98.2.1 (F (F a 10) 4) = G.2.1 (F (F a 10) 4))
    (c_G98_F_F_a_10_5 : G98.2.1 (F (F a 10) 5) = G.2.1 (F (F a 10) 5))
    (c_G98_F_F_a_11_0 : G98.2.1 (F (F a 11) 0) = G.2.1 (F (F a 11) 0))
    (c_G98_F_F_a_11_1 : G98.2.1 (F (F a 11) 1) = G.2.1 (F (F a 11) 1))
    (c_G98_F_F_a_11_2 : G98.2.1 (F (F a 11) 2) = G.2.1 (F (F a 11) 2))
    (c_G98_F_F_a_3_0 : G98.2.1 (F (F a 3) 0) = G.2.1 (F (F a 3) 0))
    (c_G98_F_F_a_3_1 : G98.2.1 (F (F a 3) 1) = G.2.1 (F (F a 3) 1))
    (c_G98_F_F_a_8_0 : G98.2.1 (F (F a 8) 0) = G.2.1 (F (F a 8) 0))
    (c_G98_F_F_a_8_1 : G98.2.1 (F (F a 8) 1) = G.2.1 (F (F a 8) 1))
    (c_G98_F_F_a_8_2 : G98.2.1 (F (F a 8) 2) = G.2.1 (F (F a 8) 2))
    (c_G98_F_F_a_8_3 : G98.2.1 (F (F a 8) 3) = G.2.1 (F (F a 8) 3))
    (c_G98_F_F_a_8_4 : G98.2.1 (F (F a 8) 4) = G.2.1 (F (F a 8) 4))
    (c_G98_F_F_a_8_5 : G98.2.1 (F (F a 8) 5) = G.2.1 (F (F a 8) 5))
    (c_G98_F_F_a_9_0 : G98.2.1 (F (F a 9) 0) = G.2.1 (F (F a 9) 0))
    (c_G98_F_F_a_9_1 : G98.2.1 (F (F a 9) 1) = G.2.1 (F (F a 9) 1))
    (c_G98_F_F_a_9_2 : G98.2.1 (F (F a 9) 2) = G.2.1 (F (F a 9) 2))
    (c_G98_F_F_a_9_3 : G98.2.1 (F (F a 9) 3) = G.2.1 (F (F a 9) 3))
    (c_G98_F_F_a_9_4 : G98.2.1 (F (F a 9) 4) = G.2.1 (F (F a 9) 4))
    (c_G98_F_F_a_9_5 : G98.2.1 (F (F a 9) 5) = G.2.1 (F (F a 9) 5))
    (c_G98_F_a_15 : G98.2.1 (F a 15) = G.2.1 (F a 15))
    (c_G98_F_a_16 : G98.2.1 (F a 16) = G.2.1 (F a 16))
    (r_G80_F_F_a_2_0 : G80.2.2.1 (F (F a 2) 0) = G.2.2.1 (F (F a 2) 0))
    (r_G98_F_F_a_2_0 : G98.2.2.1 (F (F a 2) 0) = G.2.2.1 (F (F a 2) 0))
    (r_G98_F_F_a_2_1 : G98.2.2.1 (F (F a 2) 1) = G.2.2.1 (F (F a 2) 1))
    (d_G98_F_a_10_6 : G98.1 (F a 10) 6 = G.1 (F a 10) 6)
    (d_G98_F_a_11_3 : G98.1 (F a 11) 3 = G.1 (F a 11) 3)
    (d_G98_F_a_14_1 : G98.1 (F a 14) 1 = G4.1 (F a 14) 1)
    (d_G98_F_a_14_2 : G98.1 (F a 14) 2 = G.1 (F a 14) 2)
    (d_G98_F_a_14_3 : G98.1 (F a 14) 3 = G.1 (F a 14) 3)
    (d_G98_F_a_8_6 : G98.1 (F a 8) 6 = G.1 (F a 8) 6)
    (d_G98_F_a_9_6 : G98.1 (F a 9) 6 = G.1 (F a 9) 6) :
    BKr K G98 (G98.2.2.1 (F (F a 2) 1)) := by
  have hd : ∀ p, p ∈ [(F a 11, 3), (F a 9, 6), (F a 14, 1), (F a 14, 2), (F a 14, 3), (F a 10, 6), (F a 8, 6)] → K p.1 ≠ 9 := (List.forall_mem_cons.mpr ⟨(show K (F a 11) ≠ 9 by omega), List.forall_mem_cons.mpr ⟨(show K (F a 9) ≠ 9 by omega), List.forall_mem_cons.mpr ⟨(show K (F a 14) ≠ 9 by omega), List.forall_mem_cons.mpr ⟨(show K (F a 14) ≠ 9 by omega), List.forall_mem_cons.mpr ⟨(show K (F a 14) ≠ 9 by omega), List.forall_mem_cons.mpr ⟨(show K (F a 10) ≠ 9 by omega), List.forall_mem_cons.mpr ⟨(show K (F a 8) ≠ 9 by omega), fun _ h => by cases h⟩⟩⟩⟩⟩⟩⟩)
  rw [show G98.2.2.1 (F (F a 2) 1) = G.2.2.1 (F (F a 2) 1) by assumption]
  exact bko.fr hfr hd
theorem v_X10_rekey_102_15 {K : Nat → Nat} {F : Nat → Nat → Nat} (a : Nat) (G : XG) (G98 : XG) (G4 : XG) (G80 : XG) (p0 : Int32) (p1 : Int32) (p2 : Int32) (x8 : Int32) (x15 : Int32) (x22 : Int32) (x40 : Int32) (x59 : Int32)
    (ha : K a = 12)
    (hk9999 : K (F a 11) = 3)
    (hj9999 : F (F a 11) 99 = 0)
    (hk9999a : K (F a 9) = 6)
    (hj9999a : F (F a 9) 99 = 1)
    (hk9999b : K (F a 14) = 11)
    (hj9999b : F (F a 14) 99 = 0)
    (hk9999c : K (F a 10) = 6)
    (hj9999c : F (F a 10) 99 = 2)
    (hk9999d : K (F a 8) = 6)
    (hj9999d : F (F a 8) 99 = 0)
    (hk9999e : K (F (F a 11) 0) = 21)
    (hj9999e : F (F (F a 11) 0) 99 = 100)
    (hk9999f : K (F (F a 11) 1) = 21)
    (hj9999f : F (F (F a 11) 1) 99 = 101)
    (hk9999g : K (F (F a 11) 2) = 24)
    (hj9999g : F (F (F a 11) 2) 99 = 4)
    (hk9999h : K (F (F a 9) 0) = 22)
    (hj9999i : F (F (F a 9) 0) 99 = 10 * 1 + 0)
    (hk9999i : K (F (F a 9) 1) = 22)
    (hj9999k : F (F (F a 9) 1) 99 = 10 * 1 + 1)
    (hk9999j : K (F (F a 9) 2) = 22)
    (hj9999m : F (F (F a 9) 2) 99 = 10 * 1 + 2)
    (hk9999k : K (F (F a 9) 3) = 22)
    (hj9999o : F (F (F a 9) 3) 99 = 10 * 1 + 3)
    (hk9999l : K (F (F a 9) 4) = 23)
    (hj9999q : F (F (F a 9) 4) 99 = 10 * 1 + 4)
    (hk9999m : K (F (F a 9) 5) = 23)
    (hj9999s : F (F (F a 9) 5) 99 = 10 * 1 + 5)
    (hk9999n : K (F a 16) = 27)
    (hj9999t : F (F a 16) 99 = 0)
    (hk9999o : K (F a 15) = 26)
    (hj9999u : F (F a 15) 99 = 0)
    (hk9999p : K (F (F a 10) 0) = 22)
    (hj9999w : F (F (F a 10) 0) 99 = 10 * 2 + 0)
    (hk9999q : K (F (F a 10) 1) = 22)
    (hj9999z25 : F (F (F a 10) 1) 99 = 10 * 2 + 1)
    (hk9999r : K (F (F a 10) 2) = 22)
    (hj9999z27 : F (F (F a 10) 2) 99 = 10 * 2 + 2)
    (hk9999s : K (F (F a 10) 3) = 22)
    (hj9999z29 : F (F (F a 10) 3) 99 = 10 * 2 + 3)
    (hk9999t : K (F (F a 10) 4) = 23)
    (hj9999z31 : F (F (F a 10) 4) 99 = 10 * 2 + 4)
    (hk9999u : K (F (F a 10) 5) = 23)
    (hj9999z33 : F (F (F a 10) 5) 99 = 10 * 2 + 5)
    (hk9999v : K (F a 3) = 8)
    (hj9999z34 : F (F a 3) 99 = 0)
    (hk9999w : K (F (F a 3) 0) = 20)
    (hj9999z36 : F (F (F a 3) 0) 99 = 0)
    (hk9999y : K (F (F a 3) 1) = 21)
    (hj9999z38 : F (F (F a 3) 1) 99 = 0)
    (hk9999z25 : K (F (F a 8) 0) = 22)
    (hj9999z40 : F (F (F a 8) 0) 99 = 10 * 0 + 0)
    (hk9999z26 : K (F (F a 8) 1) = 22)
    (hj9999z42 : F (F (F a 8) 1) 99 = 10 * 0 + 1)
    (hk9999z27 : K (F (F a 8) 2) = 22)
    (hj9999z44 : F (F (F a 8) 2) 99 = 10 * 0 + 2)
    (hk9999z28 : K (F (F a 8) 3) = 22)
    (hj9999z46 : F (F (F a 8) 3) 99 = 10 * 0 + 3)
    (hk9999z29 : K (F (F a 8) 4) = 23)
    (hj9999z48 : F (F (F a 8) 4) 99 = 10 * 0 + 4)
    (hk9999z30 : K (F (F a 8) 5) = 23)
    (hj9999z50 : F (F (F a 8) 5) 99 = 10 * 0 + 5)
    (hk9999z31 : K (F a 5) = 8)
    (hj9999z51 : F (F a 5) 99 = 2)
    (hk9999z32 : K (F (F a 5) 0) = 20)
    (hj9999z53 : F (F (F a 5) 0) 99 = 2)
    (hk9999z33 : K (F (F a 5) 1) = 21)
    (hj9999z55 : F (F (F a 5) 1) 99 = 2)
    (hk9999z34 : K (F a 2) = 2)
    (hj9999z56 : F (F a 2) 99 = 0)
    (hk9999z35 : K (F (F a 2) 1) = 15)
    (hj9999z57 : F (F (F a 2) 1) 99 = 1)
    (hk9999z36 : K (F (F a 2) 0) = 15)
    (hj9999z58 : F (F (F a 2) 0) 99 = 0)
    (hk9999z37 : K (F a 4) = 8)
    (hj9999z59 : F (F a 4) 99 = 1)
    (hk9999z38 : K (F (F a 4) 0) = 20)
    (hj9999z61 : F (F (F a 4) 0) 99 = 1)
    (hk9999z39 : K (F (F a 4) 1) = 21)
    (hj9999z63 : F (F (F a 4) 1) 99 = 1)
    (hk84 : K (F a 12) = 4)
    (hj84 : F (F a 12) 99 = 0)
    (hfr : XFr [(F a 11, 3), (F a 9, 6), (F a 14, 1), (F a 14, 2), (F a 14, 3), (F a 10, 6), (F a 8, 6)] [F (F a 11) 0, F (F a 11) 1, F (F a 11) 2, F (F a 9) 0, F (F a 9) 1, F (F a 9) 2, F (F a 9) 3, F (F a 9) 4, F (F a 9) 5, F a 16, F a 15, F (F a 10) 0, F (F a 10) 1, F (F a 10) 2, F (F a 10) 3, F (F a 10) 4, F (F a 10) 5, F (F a 3) 0, F (F a 3) 1, F (F a 8) 0, F (F a 8) 1, F (F a 8) 2, F (F a 8) 3, F (F a 8) 4, F (F a 8) 5, F (F a 5) 0, F (F a 5) 1] [] G G98)
    (hF4 : XFr [(F a 14, 1)] [] [] G G4)
    (hF80 : XFr [] [F (F a 5) 0, F (F a 5) 1] [] G4 G80)
    (hF98 : XFr [] [F (F a 5) 0, F (F a 5) 1] [] G80 G98)
    (ron : RO (vw (G.2.1 (F (F a 3) 0))) (aI (G.2.1 (F (F a 3) 1))))
    (rob : RO (vw (G.2.1 (F (F a 4) 0))) (aI (G.2.1 (F (F a 4) 1))))
    (bko : BKr K G (G.2.2.1 (F (F a 2) 1)))
    (bkn : BKr K G (G.2.2.1 (F (F a 2) 0)))
    (hac : ACo G (G.2.2.1 (F (F a 2) 0)))
    (oq80 : (vw (G80.2.1 (F (F a 5) 0))) = (vw (G.2.1 (F (F a 3) 0))))
    (oq80a : RO (vw (G80.2.1 (F (F a 5) 0))) (aI (G80.2.1 (F (F a 5) 1))))
    (oq98 : (vw (G98.2.1 (F (F a 5) 0))) = mvR (clsA G80 (G80.2.2.1 (F (F a 2) 0))) (clsT G80 (G80.2.2.1 (F (F a 2) 0))) (clsC G80 (G80.2.2.1 (F (F a 2) 0))) p0.toInt p1.toInt p2.toInt (rmv (vw (G80.2.1 (F (F a 5) 0))) p0.toInt p1.toInt p2.toInt) 12)
    (oq98a : RO (vw (G98.2.1 (F (F a 5) 0))) (aI (G98.2.1 (F (F a 5) 1))))
    (sb : 0 ≤ ((G.1 (F a 2) 2).toInt) ∧ ((G.1 (F a 2) 2).toInt) ≤ 12)
    (sw : 0 ≤ ((G.1 (F a 8) 6).toInt) ∧ ((G.1 (F a 8) 6).toInt) ≤ 1080)
    (t4 : ((G4.1 (F a 14) 1).toInt) = 0)
    (t8 : (x8.toInt = 1 ∧ 0 ≤ p0.toInt ∧ p0.toInt < 3) ∨ (x8.toInt = 0 ∧ (p0.toInt < 0 ∨ 3 ≤ p0.toInt)))
    (c11 : ¬ (x8.toInt = 0))
    (t15 : (x15.toInt = 1 ∧ 0 ≤ p1.toInt ∧ p1.toInt < 30) ∨ (x15.toInt = 0 ∧ (p1.toInt < 0 ∨ 30 ≤ p1.toInt)))
    (c18 : ¬ (x15.toInt = 0))
    (t22 : (x22.toInt = 1 ∧ 0 ≤ p2.toInt ∧ p2.toInt < 30) ∨ (x22.toInt = 0 ∧ (p2.toInt < 0 ∨ 30 ≤ p2.toInt)))
    (c25 : x22.toInt ≠ 0)
    (t40 : (x40.toInt = 1 ∧ (cel (vw (G.2.1 (F (F a 3) 0))) (p0.toInt) (p1.toInt) 0) ≠ -2000) ∨ (x40.toInt = 0 ∧ (cel (vw (G.2.1 (F (F a 3) 0))) (p0.toInt) (p1.toInt) 0) = -2000))
    (c43 : x40.toInt ≠ 0)
    (t59 : (x59.toInt = 1 ∧ (cel (vw (G.2.1 (F (F a 3) 0))) (p0.toInt) (p2.toInt) 0) ≠ -2000) ∨ (x59.toInt = 0 ∧ (cel (vw (G.2.1 (F (F a 3) 0))) (p0.toInt) (p2.toInt) 0) = -2000))
    (c62 : x59.toInt = 0)
    (z83 : (cel (vw (G80.2.1 (F (F a 5) 0))) (p0.toInt) (p1.toInt) 0) = (cel (vw (G.2.1 (F (F a 3) 0))) (p0.toInt) (p1.toInt) 0))
    (z83a : p1.toInt = p2.toInt → (cel (vw (G.2.1 (F (F a 3) 0))) (p0.toInt) (p1.toInt) 0) = (cel (vw (G.2.1 (F (F a 3) 0))) (p0.toInt) (p2.toInt) 0))
    (c_G98_F_F_a_10_0 : G98.2.1 (F (F a 10) 0) = G.2.1 (F (F a 10) 0))
    (c_G98_F_F_a_10_1 : G98.2.1 (F (F a 10) 1) = G.2.1 (F (F a 10) 1))
    (c_G98_F_F_a_10_2 : G98.2.1 (F (F a 10) 2) = G.2.1 (F (F a 10) 2))
    (c_G98_F_F_a_10_3 : G98.2.1 (F (F a 10) 3) = G.2.1 (F (F a 10) 3))
    (c_G98_F_F_a_10_4 : G98.2.1 (F (F a 10) 4) = G.2.1 (F (F a 10) 4))
    (c_G98_F_F_a_10_5 : G98.2.1 (F (F a 10) 5) = G.2.1 (F (F a 10) 5))
    (c_G98_F_F_a_11_0 : G98.2.1 (F (F a 11) 0) = G.2.1 (F (F a 11) 0))
    (c_G98_F_F_a_11_1 : G98.2.1 (F (F a 11) 1) = G.2.1 (F (F a 11) 1))
    (c_G98_F_F_a_11_2 : G98.2.1 (F (F a 11) 2) = G.2.1 (F (F a 11) 2))
    (c_G98_F_F_a_3_0 : G98.2.1 (F (F a 3) 0) = G.2.1 (F (F a 3) 0))
    (c_G98_F_F_a_3_1 : G98.2.1 (F (F a 3) 1) = G.2.1 (F (F a 3) 1))
    (c_G98_F_F_a_8_0 : G98.2.1 (F (F a 8) 0) = G.2.1 (F (F a 8) 0))
    (c_G98_F_F_a_8_1 : G98.2.1 (F (F a 8) 1) = G.2.1 (F (F a 8) 1))
    (c_G98_F_F_a_8_2 : G98.2.1 (F (F a 8) 2) = G.2.1 (F (F a 8) 2))
    (c_G98_F_F_a_8_3 : G98.2.1 (F (F a 8) 3) = G.2.1 (F (F a 8) 3))
    (c_G98_F_F_a_8_4 : G98.2.1 (F (F a 8) 4) = G.2.1 (F (F a 8) 4))
    (c_G98_F_F_a_8_5 : G98.2.1 (F (F a 8) 5) = G.2.1 (F (F a 8) 5))
    (c_G98_F_F_a_9_0 : G98.2.1 (F (F a 9) 0) = G.2.1 (F (F a 9) 0))
    (c_G98_F_F_a_9_1 : G98.2.1 (F (F a 9) 1) = G.2.1 (F (F a 9) 1))
    (c_G98_F_F_a_9_2 : G98.2.1 (F (F a 9) 2) = G.2.1 (F (F a 9) 2))
    (c_G98_F_F_a_9_3 : G98.2.1 (F (F a 9) 3) = G.2.1 (F (F a 9) 3))
    (c_G98_F_F_a_9_4 : G98.2.1 (F (F a 9) 4) = G.2.1 (F (F a 9) 4))
    (c_G98_F_F_a_9_5 : G98.2.1 (F (F a 9) 5) = G.2.1 (F (F a 9) 5))
    (c_G98_F_a_15 : G98.2.1 (F a 15) = G.2.1 (F a 15))
    (c_G98_F_a_16 : G98.2.1 (F a 16) = G.2.1 (F a 16))
    (r_G80_F_F_a_2_0 : G80.2.2.1 (F (F a 2) 0) = G.2.2.1 (F (F a 2) 0))
    (r_G98_F_F_a_2_0 : G98.2.2.1 (F (F a 2) 0) = G.2.2.1 (F (F a 2) 0))
    (r_G98_F_F_a_2_1 : G98.2.2.1 (F (F a 2) 1) = G.2.2.1 (F (F a 2) 1))
    (d_G98_F_a_10_6 : G98.1 (F a 10) 6 = G.1 (F a 10) 6)
    (d_G98_F_a_11_3 : G98.1 (F a 11) 3 = G.1 (F a 11) 3)
    (d_G98_F_a_14_1 : G98.1 (F a 14) 1 = G4.1 (F a 14) 1)
    (d_G98_F_a_14_2 : G98.1 (F a 14) 2 = G.1 (F a 14) 2)
    (d_G98_F_a_14_3 : G98.1 (F a 14) 3 = G.1 (F a 14) 3)
    (d_G98_F_a_8_6 : G98.1 (F a 8) 6 = G.1 (F a 8) 6)
    (d_G98_F_a_9_6 : G98.1 (F a 9) 6 = G.1 (F a 9) 6) :
    BKr K G98 (G98.2.2.1 (F (F a 2) 0)) := by
  have hd : ∀ p, p ∈ [(F a 11, 3), (F a 9, 6), (F a 14, 1), (F a 14, 2), (F a 14, 3), (F a 10, 6), (F a 8, 6)] → K p.1 ≠ 9 := (List.forall_mem_cons.mpr ⟨(show K (F a 11) ≠ 9 by omega), List.forall_mem_cons.mpr ⟨(show K (F a 9) ≠ 9 by omega), List.forall_mem_cons.mpr ⟨(show K (F a 14) ≠ 9 by omega), List.forall_mem_cons.mpr ⟨(show K (F a 14) ≠ 9 by omega), List.forall_mem_cons.mpr ⟨(show K (F a 14) ≠ 9 by omega), List.forall_mem_cons.mpr ⟨(show K (F a 10) ≠ 9 by omega), List.forall_mem_cons.mpr ⟨(show K (F a 8) ≠ 9 by omega), fun _ h => by cases h⟩⟩⟩⟩⟩⟩⟩)
  rw [show G98.2.2.1 (F (F a 2) 0) = G.2.2.1 (F (F a 2) 0) by assumption]
  exact bkn.fr hfr hd
theorem v_X10_rekey_105_16 {K : Nat → Nat} {F : Nat → Nat → Nat} (a : Nat) (G : XG) (G102 : XG) (G4 : XG) (G80 : XG) (G98 : XG) (p0 : Int32) (p1 : Int32) (p2 : Int32) (x102 : Int32) (x8 : Int32) (x15 : Int32) (x22 : Int32) (x40 : Int32) (x59 : Int32)
    (ha : K a = 12)
    (hk9999 : K (F a 11) = 3)
    (hj9999 : F (F a 11) 99 = 0)
    (hk9999a : K (F a 9) = 6)
    (hj9999a : F (F a 9) 99 = 1)
    (hk9999b : K (F a 14) = 11)
    (hj9999b : F (F a 14) 99 = 0)
    (hk9999c : K (F a 10) = 6)
    (hj9999c : F (F a 10) 99 = 2)
    (hk9999d : K (F a 8) = 6)
    (hj9999d : F (F a 8) 99 = 0)
    (hk9999e : K (F (F a 11) 0) = 21)
    (hj9999e : F (F (F a 11) 0) 99 = 100)
    (hk9999f : K (F (F a 11) 1) = 21)
    (hj9999f : F (F (F a 11) 1) 99 = 101)
    (hk9999g : K (F (F a 11) 2) = 24)
    (hj9999g : F (F (F a 11) 2) 99 = 4)
    (hk9999h : K (F (F a 9) 0) = 22)
    (hj9999i : F (F (F a 9) 0) 99 = 10 * 1 + 0)
    (hk9999i : K (F (F a 9) 1) = 22)
    (hj9999k : F (F (F a 9) 1) 99 = 10 * 1 + 1)
    (hk9999j : K (F (F a 9) 2) = 22)
    (hj9999m : F (F (F a 9) 2) 99 = 10 * 1 + 2)
    (hk9999k : K (F (F a 9) 3) = 22)
    (hj9999o : F (F (F a 9) 3) 99 = 10 * 1 + 3)
    (hk9999l : K (F (F a 9) 4) = 23)
    (hj9999q : F (F (F a 9) 4) 99 = 10 * 1 + 4)
    (hk9999m : K (F (F a 9) 5) = 23)
    (hj9999s : F (F (F a 9) 5) 99 = 10 * 1 + 5)
    (hk9999n : K (F a 16) = 27)
    (hj9999t : F (F a 16) 99 = 0)
    (hk9999o : K (F a 15) = 26)
    (hj9999u : F (F a 15) 99 = 0)
    (hk9999p : K (F (F a 10) 0) = 22)
    (hj9999w : F (F (F a 10) 0) 99 = 10 * 2 + 0)
    (hk9999q : K (F (F a 10) 1) = 22)
    (hj9999z25 : F (F (F a 10) 1) 99 = 10 * 2 + 1)
    (hk9999r : K (F (F a 10) 2) = 22)
    (hj9999z27 : F (F (F a 10) 2) 99 = 10 * 2 + 2)
    (hk9999s : K (F (F a 10) 3) = 22)
    (hj9999z29 : F (F (F a 10) 3) 99 = 10 * 2 + 3)
    (hk9999t : K (F (F a 10) 4) = 23)
    (hj9999z31 : F (F (F a 10) 4) 99 = 10 * 2 + 4)
    (hk9999u : K (F (F a 10) 5) = 23)
    (hj9999z33 : F (F (F a 10) 5) 99 = 10 * 2 + 5)
    (hk9999v : K (F a 3) = 8)
    (hj9999z34 : F (F a 3) 99 = 0)
    (hk9999w : K (F (F a 3) 0) = 20)
    (hj9999z36 : F (F (F a 3) 0) 99 = 0)
    (hk9999y : K (F (F a 3) 1) = 21)
    (hj9999z38 : F (F (F a 3) 1) 99 = 0)
    (hk9999z25 : K (F (F a 8) 0) = 22)
    (hj9999z40 : F (F (F a 8) 0) 99 = 10 * 0 + 0)
    (hk9999z26 : K (F (F a 8) 1) = 22)
    (hj9999z42 : F (F (F a 8) 1) 99 = 10 * 0 + 1)
    (hk9999z27 : K (F (F a 8) 2) = 22)
    (hj9999z44 : F (F (F a 8) 2) 99 = 10 * 0 + 2)
    (hk9999z28 : K (F (F a 8) 3) = 22)
    (hj9999z46 : F (F (F a 8) 3) 99 = 10 * 0 + 3)
    (hk9999z29 : K (F (F a 8) 4) = 23)
    (hj9999z48 : F (F (F a 8) 4) 99 = 10 * 0 + 4)
    (hk9999z30 : K (F (F a 8) 5) = 23)
    (hj9999z50 : F (F (F a 8) 5) 99 = 10 * 0 + 5)
    (hk9999z31 : K (F a 5) = 8)
    (hj9999z51 : F (F a 5) 99 = 2)
    (hk9999z32 : K (F (F a 5) 0) = 20)
    (hj9999z53 : F (F (F a 5) 0) 99 = 2)
    (hk9999z33 : K (F (F a 5) 1) = 21)
    (hj9999z55 : F (F (F a 5) 1) 99 = 2)
    (hk9999z34 : K (F a 2) = 2)
    (hj9999z56 : F (F a 2) 99 = 0)
    (hk9999z35 : K (F (F a 2) 1) = 15)
    (hj9999z57 : F (F (F a 2) 1) 99 = 1)
    (hk9999z36 : K (F (F a 2) 0) = 15)
    (hj9999z58 : F (F (F a 2) 0) 99 = 0)
    (hk9999z37 : K (F a 4) = 8)
    (hj9999z59 : F (F a 4) 99 = 1)
    (hk9999z38 : K (F (F a 4) 0) = 20)
    (hj9999z61 : F (F (F a 4) 0) 99 = 1)
    (hk9999z39 : K (F (F a 4) 1) = 21)
    (hj9999z63 : F (F (F a 4) 1) 99 = 1)
    (hk84 : K (F a 12) = 4)
    (hj84 : F (F a 12) 99 = 0)
    (hfr : XFr [(F a 11, 3), (F a 9, 6), (F a 14, 1), (F a 14, 2), (F a 14, 3), (F a 10, 6), (F a 8, 6)] [F (F a 11) 0, F (F a 11) 1, F (F a 11) 2, F (F a 9) 0, F (F a 9) 1, F (F a 9) 2, F (F a 9) 3, F (F a 9) 4, F (F a 9) 5, F a 16, F a 15, F (F a 10) 0, F (F a 10) 1, F (F a 10) 2, F (F a 10) 3, F (F a 10) 4, F (F a 10) 5, F (F a 3) 0, F (F a 3) 1, F (F a 8) 0, F (F a 8) 1, F (F a 8) 2, F (F a 8) 3, F (F a 8) 4, F (F a 8) 5, F (F a 5) 0, F (F a 5) 1] [] G G102)
    (hF98 : XFr [] [F (F a 5) 0, F (F a 5) 1] [] G80 G98)
    (hF102 : XFr [(F a 11, 3), (F a 9, 6), (F a 14, 1), (F a 14, 2), (F a 14, 3), (F a 10, 6), (F a 8, 6)] [F (F a 11) 0, F (F a 11) 1, F (F a 11) 2, F (F a 9) 0, F (F a 9) 1, F (F a 9) 2, F (F a 9) 3, F (F a 9) 4, F (F a 9) 5, F a 16, F a 15, F (F a 10) 0, F (F a 10) 1, F (F a 10) 2, F (F a 10) 3, F (F a 10) 4, F (F a 10) 5, F (F a 3) 0, F (F a 3) 1, F (F a 8) 0, F (F a 8) 1, F (F a 8) 2, F (F a 8) 3, F (F a 8) 4, F (F a 8) 5] [] G98 G102)
    (bko : BKr K G (G.2.2.1 (F (F a 2) 1)))
    (bkn : BKr K G (G.2.2.1 (F (F a 2) 0)))
    (oq80 : (vw (G80.2.1 (F (F a 5) 0))) = (vw (G.2.1 (F (F a 3) 0))))
    (oq98 : (vw (G98.2.1 (F (F a 5) 0))) = mvR (clsA G80 (G80.2.2.1 (F (F a 2) 0))) (clsT G80 (G80.2.2.1 (F (F a 2) 0))) (clsC G80 (G80.2.2.1 (F (F a 2) 0))) p0.toInt p1.toInt p2.toInt (rmv (vw (G80.2.1 (F (F a 5) 0))) p0.toInt p1.toInt p2.toInt) 12)
    (oq102 : ActR ((G.1 a 18).toInt) x102.toInt (gaL G98 (G98.2.2.1 (F (F a 2) 1)) (vw (G.2.1 (F (F a 3) 0))) (vw (G98.2.1 (F (F a 5) 0))) 0 (((G.1 (F a 2) 2).toInt)).toNat) (vw (G.2.1 (F (F a 3) 0))) (vw (G102.2.1 (F (F a 3) 0))) (vw (G98.2.1 (F (F a 5) 0))) (qL G98 F (F a 8)) (qL G102 F (F a 8)) (gaL G98 (G98.2.2.1 (F (F a 2) 1)) (vw (G.2.1 (F (F a 4) 0))) (vw (G98.2.1 (F (F a 5) 0))) 1 (((G.1 (F a 2) 2).toInt)).toNat))
    (sb : 0 ≤ ((G.1 (F a 2) 2).toInt) ∧ ((G.1 (F a 2) 2).toInt) ≤ 12)
    (sw : 0 ≤ ((G.1 (F a 8) 6).toInt) ∧ ((G.1 (F a 8) 6).toInt) ≤ 1080)
    (t4 : ((G4.1 (F a 14) 1).toInt) = 0)
    (t8 : (x8.toInt = 1 ∧ 0 ≤ p0.toInt ∧ p0.toInt < 3) ∨ (x8.toInt = 0 ∧ (p0.toInt < 0 ∨ 3 ≤ p0.toInt)))
    (c11 : ¬ (x8.toInt = 0))
    (t15 : (x15.toInt = 1 ∧ 0 ≤ p1.toInt ∧ p1.toInt < 30) ∨ (x15.toInt = 0 ∧ (p1.toInt < 0 ∨ 30 ≤ p1.toInt)))
    (c18 : ¬ (x15.toInt = 0))
    (t22 : (x22.toInt = 1 ∧ 0 ≤ p2.toInt ∧ p2.toInt < 30) ∨ (x22.toInt = 0 ∧ (p2.toInt < 0 ∨ 30 ≤ p2.toInt)))
    (c25 : x22.toInt ≠ 0)
    (t40 : (x40.toInt = 1 ∧ (cel (vw (G.2.1 (F (F a 3) 0))) (p0.toInt) (p1.toInt) 0) ≠ -2000) ∨ (x40.toInt = 0 ∧ (cel (vw (G.2.1 (F (F a 3) 0))) (p0.toInt) (p1.toInt) 0) = -2000))
    (c43 : x40.toInt ≠ 0)
    (t59 : (x59.toInt = 1 ∧ (cel (vw (G.2.1 (F (F a 3) 0))) (p0.toInt) (p2.toInt) 0) ≠ -2000) ∨ (x59.toInt = 0 ∧ (cel (vw (G.2.1 (F (F a 3) 0))) (p0.toInt) (p2.toInt) 0) = -2000))
    (c62 : x59.toInt = 0)
    (z83 : (cel (vw (G80.2.1 (F (F a 5) 0))) (p0.toInt) (p1.toInt) 0) = (cel (vw (G.2.1 (F (F a 3) 0))) (p0.toInt) (p1.toInt) 0))
    (z83a : p1.toInt = p2.toInt → (cel (vw (G.2.1 (F (F a 3) 0))) (p0.toInt) (p1.toInt) 0) = (cel (vw (G.2.1 (F (F a 3) 0))) (p0.toInt) (p2.toInt) 0))
    (t102 : 0 ≤ ((G102.1 (F a 8) 6).toInt) ∧ ((G102.1 (F a 8) 6).toInt) ≤ 1080)
    (c_G98_F_F_a_8_0 : G98.2.1 (F (F a 8) 0) = G.2.1 (F (F a 8) 0))
    (c_G98_F_F_a_8_1 : G98.2.1 (F (F a 8) 1) = G.2.1 (F (F a 8) 1))
    (c_G98_F_F_a_8_2 : G98.2.1 (F (F a 8) 2) = G.2.1 (F (F a 8) 2))
    (c_G98_F_F_a_8_3 : G98.2.1 (F (F a 8) 3) = G.2.1 (F (F a 8) 3))
    (c_G98_F_F_a_8_4 : G98.2.1 (F (F a 8) 4) = G.2.1 (F (F a 8) 4))
    (c_G98_F_F_a_8_5 : G98.2.1 (F (F a 8) 5) = G.2.1 (F (F a 8) 5))
    (r_G80_F_F_a_2_0 : G80.2.2.1 (F (F a 2) 0) = G.2.2.1 (F (F a 2) 0))
    (r_G98_F_F_a_2_1 : G98.2.2.1 (F (F a 2) 1) = G.2.2.1 (F (F a 2) 1))
    (d_G98_F_a_8_6 : G98.1 (F a 8) 6 = G.1 (F a 8) 6) :
    (x102.toInt = -1 ∧ ¬ ((0 ≤ p0.toInt ∧ p0.toInt < 3) ∧ (0 ≤ p1.toInt ∧ p1.toInt < 30) ∧ (0 ≤ p2.toInt ∧ p2.toInt < 30)) ∧ ((vw (G102.2.1 (F (F a 3) 0))) = (vw (G.2.1 (F (F a 3) 0))) ∧ qL G102 F (F a 8) = qL G F (F a 8))) ∨ (((0 ≤ p0.toInt ∧ p0.toInt < 3) ∧ (0 ≤ p1.toInt ∧ p1.toInt < 30) ∧ (0 ≤ p2.toInt ∧ p2.toInt < 30)) ∧ x102.toInt = -2 ∧ cel (vw (G.2.1 (F (F a 3) 0))) p0.toInt p1.toInt 0 = -2000 ∧ ((vw (G102.2.1 (F (F a 3) 0))) = (vw (G.2.1 (F (F a 3) 0))) ∧ qL G102 F (F a 8) = qL G F (F a 8))) ∨ (((0 ≤ p0.toInt ∧ p0.toInt < 3) ∧ (0 ≤ p1.toInt ∧ p1.toInt < 30) ∧ (0 ≤ p2.toInt ∧ p2.toInt < 30)) ∧ cel (vw (G.2.1 (F (F a 3) 0))) p0.toInt p1.toInt 0 ≠ -2000 ∧ x102.toInt = -4 ∧ cel (vw (G.2.1 (F (F a 3) 0))) p0.toInt p2.toInt 0 ≠ -2000 ∧ ((vw (G102.2.1 (F (F a 3) 0))) = (vw (G.2.1 (F (F a 3) 0))) ∧ qL G102 F (F a 8) = qL G F (F a 8))) ∨ (((0 ≤ p0.toInt ∧ p0.toInt < 3) ∧ (0 ≤ p1.toInt ∧ p1.toInt < 30) ∧ (0 ≤ p2.toInt ∧ p2.toInt < 30)) ∧ cel (vw (G.2.1 (F (F a 3) 0))) p0.toInt p1.toInt 0 ≠ -2000 ∧ cel (vw (G.2.1 (F (F a 3) 0))) p0.toInt p2.toInt 0 = -2000 ∧ ActR ((G.1 a 18).toInt) x102.toInt (gaL G (G.2.2.1 (F (F a 2) 1)) (vw (G.2.1 (F (F a 3) 0))) (mvR (clsA G (G.2.2.1 (F (F a 2) 0))) (clsT G (G.2.2.1 (F (F a 2) 0))) (clsC G (G.2.2.1 (F (F a 2) 0))) p0.toInt p1.toInt p2.toInt (rmv (vw (G.2.1 (F (F a 3) 0))) p0.toInt p1.toInt p2.toInt) 12) 0 (((G.1 (F a 2) 2).toInt)).toNat) (vw (G.2.1 (F (F a 3) 0))) (vw (G102.2.1 (F (F a 3) 0))) (mvR (clsA G (G.2.2.1 (F (F a 2) 0))) (clsT G (G.2.2.1 (F (F a 2) 0))) (clsC G (G.2.2.1 (F (F a 2) 0))) p0.toInt p1.toInt p2.toInt (rmv (vw (G.2.1 (F (F a 3) 0))) p0.toInt p1.toInt p2.toInt) 12) (qL G F (F a 8)) (qL G102 F (F a 8)) (gaL G (G.2.2.1 (F (F a 2) 1)) (vw (G.2.1 (F (F a 4) 0))) (mvR (clsA G (G.2.2.1 (F (F a 2) 0))) (clsT G (G.2.2.1 (F (F a 2) 0))) (clsC G (G.2.2.1 (F (F a 2) 0))) p0.toInt p1.toInt p2.toInt (rmv (vw (G.2.1 (F (F a 3) 0))) p0.toInt p1.toInt p2.toInt) 12) 1 (((G.1 (F a 2) 2).toInt)).toNat)) := by
  have hd : ∀ p, p ∈ [(F a 11, 3), (F a 9, 6), (F a 14, 1), (F a 14, 2), (F a 14, 3), (F a 10, 6), (F a 8, 6)] → K p.1 ≠ 9 := (List.forall_mem_cons.mpr ⟨(show K (F a 11) ≠ 9 by omega), List.forall_mem_cons.mpr ⟨(show K (F a 9) ≠ 9 by omega), List.forall_mem_cons.mpr ⟨(show K (F a 14) ≠ 9 by omega), List.forall_mem_cons.mpr ⟨(show K (F a 14) ≠ 9 by omega), List.forall_mem_cons.mpr ⟨(show K (F a 14) ≠ 9 by omega), List.forall_mem_cons.mpr ⟨(show K (F a 10) ≠ 9 by omega), List.forall_mem_cons.mpr ⟨(show K (F a 8) ≠ 9 by omega), fun _ h => by cases h⟩⟩⟩⟩⟩⟩⟩)
  have hd2 : ∀ p, p ∈ [(F a 11, 3), (F a 9, 6), (F a 14, 1), (F a 14, 2), (F a 14, 3), (F a 10, 6), (F a 8, 6)] → K p.1 ≠ 9 := (List.forall_mem_cons.mpr ⟨(show K (F a 11) ≠ 9 by omega), List.forall_mem_cons.mpr ⟨(show K (F a 9) ≠ 9 by omega), List.forall_mem_cons.mpr ⟨(show K (F a 14) ≠ 9 by omega), List.forall_mem_cons.mpr ⟨(show K (F a 14) ≠ 9 by omega), List.forall_mem_cons.mpr ⟨(show K (F a 14) ≠ 9 by omega), List.forall_mem_cons.mpr ⟨(show K (F a 10) ≠ 9 by omega), List.forall_mem_cons.mpr ⟨(show K (F a 8) ≠ 9 by omega), fun _ h => by cases h⟩⟩⟩⟩⟩⟩⟩)
  have hd3 : ∀ p, p ∈ ([] : List (Nat × Nat)) → K p.1 ≠ 9 := (fun _ h => by cases h)
  have h1 : ∀ q : Nat, K q = 9 → G98.1 q = G.1 q := fun q hk => (hF102.rule hd2 hk).symm.trans (hfr.rule hd hk)
  have h0 : ∀ (i q : Nat), i < 12 → G.2.2.1 (F (F a 2) 0) i = some q → G80.1 q = G.1 q := fun i q hi hq => (hF98.rule hd3 (bkn i q hi hq).1).symm.trans (h1 q (bkn i q hi hq).1)
  have hc : ∀ (i q : Nat), i < ((G.1 (F a 2) 2).toInt).toNat → G.2.2.1 (F (F a 2) 1) i = some q → G98.1 q = G.1 q := fun i q hi hq => h1 q (bko i q (by omega) hq).1
  have eq8 : qL G98 F (F a 8) = qL G F (F a 8) := qL_cg d_G98_F_a_8_6 c_G98_F_F_a_8_0 c_G98_F_F_a_8_1 c_G98_F_F_a_8_2 c_G98_F_F_a_8_3 c_G98_F_F_a_8_4 c_G98_F_F_a_8_5
  rw [r_G80_F_F_a_2_0, (cls_cg h0).1, (cls_cg h0).2.1, (cls_cg h0).2.2, oq80] at oq98
  rw [oq98, r_G98_F_F_a_2_1, gaL_cg hc, gaL_cg hc, eq8] at oq102
  exact Or.inr (Or.inr (Or.inr ⟨⟨by omega, by omega, by omega⟩, by omega, by omega, oq102⟩))
theorem v_X10_rekey_105_17 {F : Nat → Nat → Nat} (a : Nat) (G102 : XG)
    (oq102a : RO (vw (G102.2.1 (F (F a 3) 0))) (aI (G102.2.1 (F (F a 3) 1)))) :
    RO (vw (G102.2.1 (F (F a 3) 0))) (aI (G102.2.1 (F (F a 3) 1))) := by
  exact oq102a
theorem v_X10_rekey_71_18 {K : Nat → Nat} {F : Nat → Nat → Nat} (a : Nat) (G : XG) (G68 : XG) (G4 : XG) (x8 : Int32) (p0 : Int32) (x15 : Int32) (p1 : Int32) (x22 : Int32) (p2 : Int32) (x40 : Int32) (x59 : Int32)
    (ha : K a = 12)
    (sb : 0 ≤ ((G.1 (F a 2) 2).toInt) ∧ ((G.1 (F a 2) 2).toInt) ≤ 12)
    (sw : 0 ≤ ((G.1 (F a 8) 6).toInt) ∧ ((G.1 (F a 8) 6).toInt) ≤ 1080)
    (t4 : ((G4.1 (F a 14) 1).toInt) = 0)
    (t8 : (x8.toInt = 1 ∧ 0 ≤ p0.toInt ∧ p0.toInt < 3) ∨ (x8.toInt = 0 ∧ (p0.toInt < 0 ∨ 3 ≤ p0.toInt)))
    (c11 : ¬ (x8.toInt = 0))
    (t15 : (x15.toInt = 1 ∧ 0 ≤ p1.toInt ∧ p1.toInt < 30) ∨ (x15.toInt = 0 ∧ (p1.toInt < 0 ∨ 30 ≤ p1.toInt)))
    (c18 : ¬ (x15.toInt = 0))
    (t22 : (x22.toInt = 1 ∧ 0 ≤ p2.toInt ∧ p2.toInt < 30) ∨ (x22.toInt = 0 ∧ (p2.toInt < 0 ∨ 30 ≤ p2.toInt)))
    (c25 : x22.toInt ≠ 0)
    (t40 : (x40.toInt = 1 ∧ (cel (vw (G.2.1 (F (F a 3) 0))) (p0.toInt) (p1.toInt) 0) ≠ -2000) ∨ (x40.toInt = 0 ∧ (cel (vw (G.2.1 (F (F a 3) 0))) (p0.toInt) (p1.toInt) 0) = -2000))
    (c43 : x40.toInt ≠ 0)
    (t59 : (x59.toInt = 1 ∧ (cel (vw (G.2.1 (F (F a 3) 0))) (p0.toInt) (p2.toInt) 0) ≠ -2000) ∨ (x59.toInt = 0 ∧ (cel (vw (G.2.1 (F (F a 3) 0))) (p0.toInt) (p2.toInt) 0) = -2000))
    (c62 : ¬ (x59.toInt = 0))
    (c_G68_F_F_a_3_0 : G68.2.1 (F (F a 3) 0) = G.2.1 (F (F a 3) 0))
    (c_G68_F_F_a_8_0 : G68.2.1 (F (F a 8) 0) = G.2.1 (F (F a 8) 0))
    (c_G68_F_F_a_8_1 : G68.2.1 (F (F a 8) 1) = G.2.1 (F (F a 8) 1))
    (c_G68_F_F_a_8_2 : G68.2.1 (F (F a 8) 2) = G.2.1 (F (F a 8) 2))
    (c_G68_F_F_a_8_3 : G68.2.1 (F (F a 8) 3) = G.2.1 (F (F a 8) 3))
    (c_G68_F_F_a_8_4 : G68.2.1 (F (F a 8) 4) = G.2.1 (F (F a 8) 4))
    (c_G68_F_F_a_8_5 : G68.2.1 (F (F a 8) 5) = G.2.1 (F (F a 8) 5))
    (d_G68_F_a_8_6 : G68.1 (F a 8) 6 = G.1 (F a 8) 6) :
    ((-4 : Int) = -1 ∧ ¬ ((0 ≤ p0.toInt ∧ p0.toInt < 3) ∧ (0 ≤ p1.toInt ∧ p1.toInt < 30) ∧ (0 ≤ p2.toInt ∧ p2.toInt < 30)) ∧ ((vw (G68.2.1 (F (F a 3) 0))) = (vw (G.2.1 (F (F a 3) 0))) ∧ qL G68 F (F a 8) = qL G F (F a 8))) ∨ (((0 ≤ p0.toInt ∧ p0.toInt < 3) ∧ (0 ≤ p1.toInt ∧ p1.toInt < 30) ∧ (0 ≤ p2.toInt ∧ p2.toInt < 30)) ∧ (-4 : Int) = -2 ∧ cel (vw (G.2.1 (F (F a 3) 0))) p0.toInt p1.toInt 0 = -2000 ∧ ((vw (G68.2.1 (F (F a 3) 0))) = (vw (G.2.1 (F (F a 3) 0))) ∧ qL G68 F (F a 8) = qL G F (F a 8))) ∨ (((0 ≤ p0.toInt ∧ p0.toInt < 3) ∧ (0 ≤ p1.toInt ∧ p1.toInt < 30) ∧ (0 ≤ p2.toInt ∧ p2.toInt < 30)) ∧ cel (vw (G.2.1 (F (F a 3) 0))) p0.toInt p1.toInt 0 ≠ -2000 ∧ (-4 : Int) = -4 ∧ cel (vw (G.2.1 (F (F a 3) 0))) p0.toInt p2.toInt 0 ≠ -2000 ∧ ((vw (G68.2.1 (F (F a 3) 0))) = (vw (G.2.1 (F (F a 3) 0))) ∧ qL G68 F (F a 8) = qL G F (F a 8))) ∨ (((0 ≤ p0.toInt ∧ p0.toInt < 3) ∧ (0 ≤ p1.toInt ∧ p1.toInt < 30) ∧ (0 ≤ p2.toInt ∧ p2.toInt < 30)) ∧ cel (vw (G.2.1 (F (F a 3) 0))) p0.toInt p1.toInt 0 ≠ -2000 ∧ cel (vw (G.2.1 (F (F a 3) 0))) p0.toInt p2.toInt 0 = -2000 ∧ ActR ((G.1 a 18).toInt) (-4 : Int) (gaL G (G.2.2.1 (F (F a 2) 1)) (vw (G.2.1 (F (F a 3) 0))) (mvR (clsA G (G.2.2.1 (F (F a 2) 0))) (clsT G (G.2.2.1 (F (F a 2) 0))) (clsC G (G.2.2.1 (F (F a 2) 0))) p0.toInt p1.toInt p2.toInt (rmv (vw (G.2.1 (F (F a 3) 0))) p0.toInt p1.toInt p2.toInt) 12) 0 (((G.1 (F a 2) 2).toInt)).toNat) (vw (G.2.1 (F (F a 3) 0))) (vw (G68.2.1 (F (F a 3) 0))) (mvR (clsA G (G.2.2.1 (F (F a 2) 0))) (clsT G (G.2.2.1 (F (F a 2) 0))) (clsC G (G.2.2.1 (F (F a 2) 0))) p0.toInt p1.toInt p2.toInt (rmv (vw (G.2.1 (F (F a 3) 0))) p0.toInt p1.toInt p2.toInt) 12) (qL G F (F a 8)) (qL G68 F (F a 8)) (gaL G (G.2.2.1 (F (F a 2) 1)) (vw (G.2.1 (F (F a 4) 0))) (mvR (clsA G (G.2.2.1 (F (F a 2) 0))) (clsT G (G.2.2.1 (F (F a 2) 0))) (clsC G (G.2.2.1 (F (F a 2) 0))) p0.toInt p1.toInt p2.toInt (rmv (vw (G.2.1 (F (F a 3) 0))) p0.toInt p1.toInt p2.toInt) 12) 1 (((G.1 (F a 2) 2).toInt)).toNat)) := by
  exact Or.inr (Or.inr (Or.inl ⟨⟨by omega, by omega, by omega⟩, by omega, rfl, by omega, by rw [c_G68_F_F_a_3_0], qL_cg d_G68_F_a_8_6 c_G68_F_F_a_8_0 c_G68_F_F_a_8_1 c_G68_F_F_a_8_2 c_G68_F_F_a_8_3 c_G68_F_F_a_8_4 c_G68_F_F_a_8_5⟩))
theorem v_X10_rekey_71_19 {F : Nat → Nat → Nat} (a : Nat) (G : XG) (G68 : XG)
    (ron : RO (vw (G.2.1 (F (F a 3) 0))) (aI (G.2.1 (F (F a 3) 1))))
    (c_G68_F_F_a_3_0 : G68.2.1 (F (F a 3) 0) = G.2.1 (F (F a 3) 0))
    (c_G68_F_F_a_3_1 : G68.2.1 (F (F a 3) 1) = G.2.1 (F (F a 3) 1)) :
    RO (vw (G68.2.1 (F (F a 3) 0))) (aI (G68.2.1 (F (F a 3) 1))) := by
  rw [c_G68_F_F_a_3_0, c_G68_F_F_a_3_1]; exact ron
theorem v_X10_rekey_52_20 {K : Nat → Nat} {F : Nat → Nat → Nat} (a : Nat) (G : XG) (G49 : XG) (G4 : XG) (x8 : Int32) (p0 : Int32) (x15 : Int32) (p1 : Int32) (x22 : Int32) (p2 : Int32) (x40 : Int32)
    (ha : K a = 12)
    (sb : 0 ≤ ((G.1 (F a 2) 2).toInt) ∧ ((G.1 (F a 2) 2).toInt) ≤ 12)
    (sw : 0 ≤ ((G.1 (F a 8) 6).toInt) ∧ ((G.1 (F a 8) 6).toInt) ≤ 1080)
    (t4 : ((G4.1 (F a 14) 1).toInt) = 0)
    (t8 : (x8.toInt = 1 ∧ 0 ≤ p0.toInt ∧ p0.toInt < 3) ∨ (x8.toInt = 0 ∧ (p0.toInt < 0 ∨ 3 ≤ p0.toInt)))
    (c11 : ¬ (x8.toInt = 0))
    (t15 : (x15.toInt = 1 ∧ 0 ≤ p1.toInt ∧ p1.toInt < 30) ∨ (x15.toInt = 0 ∧ (p1.toInt < 0 ∨ 30 ≤ p1.toInt)))
    (c18 : ¬ (x15.toInt = 0))
    (t22 : (x22.toInt = 1 ∧ 0 ≤ p2.toInt ∧ p2.toInt < 30) ∨ (x22.toInt = 0 ∧ (p2.toInt < 0 ∨ 30 ≤ p2.toInt)))
    (c25 : x22.toInt ≠ 0)
    (t40 : (x40.toInt = 1 ∧ (cel (vw (G.2.1 (F (F a 3) 0))) (p0.toInt) (p1.toInt) 0) ≠ -2000) ∨ (x40.toInt = 0 ∧ (cel (vw (G.2.1 (F (F a 3) 0))) (p0.toInt) (p1.toInt) 0) = -2000))
    (c43 : ¬ (x40.toInt ≠ 0))
    (c_G49_F_F_a_3_0 : G49.2.1 (F (F a 3) 0) = G.2.1 (F (F a 3) 0))
    (c_G49_F_F_a_8_0 : G49.2.1 (F (F a 8) 0) = G.2.1 (F (F a 8) 0))
    (c_G49_F_F_a_8_1 : G49.2.1 (F (F a 8) 1) = G.2.1 (F (F a 8) 1))
    (c_G49_F_F_a_8_2 : G49.2.1 (F (F a 8) 2) = G.2.1 (F (F a 8) 2))
    (c_G49_F_F_a_8_3 : G49.2.1 (F (F a 8) 3) = G.2.1 (F (F a 8) 3))
    (c_G49_F_F_a_8_4 : G49.2.1 (F (F a 8) 4) = G.2.1 (F (F a 8) 4))
    (c_G49_F_F_a_8_5 : G49.2.1 (F (F a 8) 5) = G.2.1 (F (F a 8) 5))
    (d_G49_F_a_8_6 : G49.1 (F a 8) 6 = G.1 (F a 8) 6) :
    ((-2 : Int) = -1 ∧ ¬ ((0 ≤ p0.toInt ∧ p0.toInt < 3) ∧ (0 ≤ p1.toInt ∧ p1.toInt < 30) ∧ (0 ≤ p2.toInt ∧ p2.toInt < 30)) ∧ ((vw (G49.2.1 (F (F a 3) 0))) = (vw (G.2.1 (F (F a 3) 0))) ∧ qL G49 F (F a 8) = qL G F (F a 8))) ∨ (((0 ≤ p0.toInt ∧ p0.toInt < 3) ∧ (0 ≤ p1.toInt ∧ p1.toInt < 30) ∧ (0 ≤ p2.toInt ∧ p2.toInt < 30)) ∧ (-2 : Int) = -2 ∧ cel (vw (G.2.1 (F (F a 3) 0))) p0.toInt p1.toInt 0 = -2000 ∧ ((vw (G49.2.1 (F (F a 3) 0))) = (vw (G.2.1 (F (F a 3) 0))) ∧ qL G49 F (F a 8) = qL G F (F a 8))) ∨ (((0 ≤ p0.toInt ∧ p0.toInt < 3) ∧ (0 ≤ p1.toInt ∧ p1.toInt < 30) ∧ (0 ≤ p2.toInt ∧ p2.toInt < 30)) ∧ cel (vw (G.2.1 (F (F a 3) 0))) p0.toInt p1.toInt 0 ≠ -2000 ∧ (-2 : Int) = -4 ∧ cel (vw (G.2.1 (F (F a 3) 0))) p0.toInt p2.toInt 0 ≠ -2000 ∧ ((vw (G49.2.1 (F (F a 3) 0))) = (vw (G.2.1 (F (F a 3) 0))) ∧ qL G49 F (F a 8) = qL G F (F a 8))) ∨ (((0 ≤ p0.toInt ∧ p0.toInt < 3) ∧ (0 ≤ p1.toInt ∧ p1.toInt < 30) ∧ (0 ≤ p2.toInt ∧ p2.toInt < 30)) ∧ cel (vw (G.2.1 (F (F a 3) 0))) p0.toInt p1.toInt 0 ≠ -2000 ∧ cel (vw (G.2.1 (F (F a 3) 0))) p0.toInt p2.toInt 0 = -2000 ∧ ActR ((G.1 a 18).toInt) (-2 : Int) (gaL G (G.2.2.1 (F (F a 2) 1)) (vw (G.2.1 (F (F a 3) 0))) (mvR (clsA G (G.2.2.1 (F (F a 2) 0))) (clsT G (G.2.2.1 (F (F a 2) 0))) (clsC G (G.2.2.1 (F (F a 2) 0))) p0.toInt p1.toInt p2.toInt (rmv (vw (G.2.1 (F (F a 3) 0))) p0.toInt p1.toInt p2.toInt) 12) 0 (((G.1 (F a 2) 2).toInt)).toNat) (vw (G.2.1 (F (F a 3) 0))) (vw (G49.2.1 (F (F a 3) 0))) (mvR (clsA G (G.2.2.1 (F (F a 2) 0))) (clsT G (G.2.2.1 (F (F a 2) 0))) (clsC G (G.2.2.1 (F (F a 2) 0))) p0.toInt p1.toInt p2.toInt (rmv (vw (G.2.1 (F (F a 3) 0))) p0.toInt p1.toInt p2.toInt) 12) (qL G F (F a 8)) (qL G49 F (F a 8)) (gaL G (G.2.2.1 (F (F a 2) 1)) (vw (G.2.1 (F (F a 4) 0))) (mvR (clsA G (G.2.2.1 (F (F a 2) 0))) (clsT G (G.2.2.1 (F (F a 2) 0))) (clsC G (G.2.2.1 (F (F a 2) 0))) p0.toInt p1.toInt p2.toInt (rmv (vw (G.2.1 (F (F a 3) 0))) p0.toInt p1.toInt p2.toInt) 12) 1 (((G.1 (F a 2) 2).toInt)).toNat)) := by
  exact Or.inr (Or.inl ⟨⟨by omega, by omega, by omega⟩, rfl, by omega, by rw [c_G49_F_F_a_3_0], qL_cg d_G49_F_a_8_6 c_G49_F_F_a_8_0 c_G49_F_F_a_8_1 c_G49_F_F_a_8_2 c_G49_F_F_a_8_3 c_G49_F_F_a_8_4 c_G49_F_F_a_8_5⟩)
theorem v_X10_rekey_52_21 {F : Nat → Nat → Nat} (a : Nat) (G : XG) (G49 : XG)
    (ron : RO (vw (G.2.1 (F (F a 3) 0))) (aI (G.2.1 (F (F a 3) 1))))
    (c_G49_F_F_a_3_0 : G49.2.1 (F (F a 3) 0) = G.2.1 (F (F a 3) 0))
    (c_G49_F_F_a_3_1 : G49.2.1 (F (F a 3) 1) = G.2.1 (F (F a 3) 1)) :
    RO (vw (G49.2.1 (F (F a 3) 0))) (aI (G49.2.1 (F (F a 3) 1))) := by
  rw [c_G49_F_F_a_3_0, c_G49_F_F_a_3_1]; exact ron
theorem v_X10_rekey_33_22 {K : Nat → Nat} {F : Nat → Nat → Nat} (a : Nat) (G : XG) (G30 : XG) (G4 : XG) (x8 : Int32) (p0 : Int32) (x15 : Int32) (p1 : Int32) (x22 : Int32) (p2 : Int32)
    (ha : K a = 12)
    (sb : 0 ≤ ((G.1 (F a 2) 2).toInt) ∧ ((G.1 (F a 2) 2).toInt) ≤ 12)
    (sw : 0 ≤ ((G.1 (F a 8) 6).toInt) ∧ ((G.1 (F a 8) 6).toInt) ≤ 1080)
    (t4 : ((G4.1 (F a 14) 1).toInt) = 0)
    (t8 : (x8.toInt = 1 ∧ 0 ≤ p0.toInt ∧ p0.toInt < 3) ∨ (x8.toInt = 0 ∧ (p0.toInt < 0 ∨ 3 ≤ p0.toInt)))
    (c11 : ¬ (x8.toInt = 0))
    (t15 : (x15.toInt = 1 ∧ 0 ≤ p1.toInt ∧ p1.toInt < 30) ∨ (x15.toInt = 0 ∧ (p1.toInt < 0 ∨ 30 ≤ p1.toInt)))
    (c18 : ¬ (x15.toInt = 0))
    (t22 : (x22.toInt = 1 ∧ 0 ≤ p2.toInt ∧ p2.toInt < 30) ∨ (x22.toInt = 0 ∧ (p2.toInt < 0 ∨ 30 ≤ p2.toInt)))
    (c25 : ¬ (x22.toInt ≠ 0))
    (c_G30_F_F_a_3_0 : G30.2.1 (F (F a 3) 0) = G.2.1 (F (F a 3) 0))
    (c_G30_F_F_a_8_0 : G30.2.1 (F (F a 8) 0) = G.2.1 (F (F a 8) 0))
    (c_G30_F_F_a_8_1 : G30.2.1 (F (F a 8) 1) = G.2.1 (F (F a 8) 1))
    (c_G30_F_F_a_8_2 : G30.2.1 (F (F a 8) 2) = G.2.1 (F (F a 8) 2))
    (c_G30_F_F_a_8_3 : G30.2.1 (F (F a 8) 3) = G.2.1 (F (F a 8) 3))
    (c_G30_F_F_a_8_4 : G30.2.1 (F (F a 8) 4) = G.2.1 (F (F a 8) 4))
    (c_G30_F_F_a_8_5 : G30.2.1 (F (F a 8) 5) = G.2.1 (F (F a 8) 5))
    (d_G30_F_a_8_6 : G30.1 (F a 8) 6 = G.1 (F a 8) 6) :
    ((-1 : Int) = -1 ∧ ¬ ((0 ≤ p0.toInt ∧ p0.toInt < 3) ∧ (0 ≤ p1.toInt ∧ p1.toInt < 30) ∧ (0 ≤ p2.toInt ∧ p2.toInt < 30)) ∧ ((vw (G30.2.1 (F (F a 3) 0))) = (vw (G.2.1 (F (F a 3) 0))) ∧ qL G30 F (F a 8) = qL G F (F a 8))) ∨ (((0 ≤ p0.toInt ∧ p0.toInt < 3) ∧ (0 ≤ p1.toInt ∧ p1.toInt < 30) ∧ (0 ≤ p2.toInt ∧ p2.toInt < 30)) ∧ (-1 : Int) = -2 ∧ cel (vw (G.2.1 (F (F a 3) 0))) p0.toInt p1.toInt 0 = -2000 ∧ ((vw (G30.2.1 (F (F a 3) 0))) = (vw (G.2.1 (F (F a 3) 0))) ∧ qL G30 F (F a 8) = qL G F (F a 8))) ∨ (((0 ≤ p0.toInt ∧ p0.toInt < 3) ∧ (0 ≤ p1.toInt ∧ p1.toInt < 30) ∧ (0 ≤ p2.toInt ∧ p2.toInt < 30)) ∧ cel (vw (G.2.1 (F (F a 3) 0))) p0.toInt p1.toInt 0 ≠ -2000 ∧ (-1 : Int) = -4 ∧ cel (vw (G.2.1 (F (F a 3) 0))) p0.toInt p2.toInt 0 ≠ -2000 ∧ ((vw (G30.2.1 (F (F a 3) 0))) = (vw (G.2.1 (F (F a 3) 0))) ∧ qL G30 F (F a 8) = qL G F (F a 8))) ∨ (((0 ≤ p0.toInt ∧ p0.toInt < 3) ∧ (0 ≤ p1.toInt ∧ p1.toInt < 30) ∧ (0 ≤ p2.toInt ∧ p2.toInt < 30)) ∧ cel (vw (G.2.1 (F (F a 3) 0))) p0.toInt p1.toInt 0 ≠ -2000 ∧ cel (vw (G.2.1 (F (F a 3) 0))) p0.toInt p2.toInt 0 = -2000 ∧ ActR ((G.1 a 18).toInt) (-1 : Int) (gaL G (G.2.2.1 (F (F a 2) 1)) (vw (G.2.1 (F (F a 3) 0))) (mvR (clsA G (G.2.2.1 (F (F a 2) 0))) (clsT G (G.2.2.1 (F (F a 2) 0))) (clsC G (G.2.2.1 (F (F a 2) 0))) p0.toInt p1.toInt p2.toInt (rmv (vw (G.2.1 (F (F a 3) 0))) p0.toInt p1.toInt p2.toInt) 12) 0 (((G.1 (F a 2) 2).toInt)).toNat) (vw (G.2.1 (F (F a 3) 0))) (vw (G30.2.1 (F (F a 3) 0))) (mvR (clsA G (G.2.2.1 (F (F a 2) 0))) (clsT G (G.2.2.1 (F (F a 2) 0))) (clsC G (G.2.2.1 (F (F a 2) 0))) p0.toInt p1.toInt p2.toInt (rmv (vw (G.2.1 (F (F a 3) 0))) p0.toInt p1.toInt p2.toInt) 12) (qL G F (F a 8)) (qL G30 F (F a 8)) (gaL G (G.2.2.1 (F (F a 2) 1)) (vw (G.2.1 (F (F a 4) 0))) (mvR (clsA G (G.2.2.1 (F (F a 2) 0))) (clsT G (G.2.2.1 (F (F a 2) 0))) (clsC G (G.2.2.1 (F (F a 2) 0))) p0.toInt p1.toInt p2.toInt (rmv (vw (G.2.1 (F (F a 3) 0))) p0.toInt p1.toInt p2.toInt) 12) 1 (((G.1 (F a 2) 2).toInt)).toNat)) := by
  exact Or.inl ⟨rfl, fun h => by omega, by rw [c_G30_F_F_a_3_0], qL_cg d_G30_F_a_8_6 c_G30_F_F_a_8_0 c_G30_F_F_a_8_1 c_G30_F_F_a_8_2 c_G30_F_F_a_8_3 c_G30_F_F_a_8_4 c_G30_F_F_a_8_5⟩
theorem v_X10_rekey_33_23 {F : Nat → Nat → Nat} (a : Nat) (G : XG) (G30 : XG)
    (ron : RO (vw (G.2.1 (F (F a 3) 0))) (aI (G.2.1 (F (F a 3) 1))))
    (c_G30_F_F_a_3_0 : G30.2.1 (F (F a 3) 0) = G.2.1 (F (F a 3) 0))
    (c_G30_F_F_a_3_1 : G30.2.1 (F (F a 3) 1) = G.2.1 (F (F a 3) 1)) :
    RO (vw (G30.2.1 (F (F a 3) 0))) (aI (G30.2.1 (F (F a 3) 1))) := by
  rw [c_G30_F_F_a_3_0, c_G30_F_F_a_3_1]; exact ron
