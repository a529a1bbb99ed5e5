theorem v_X11_fails_30_1 {F : Nat → Nat → Nat} (a : Nat) (G : XG)
    (hR : RV (G.2.1 (F a 10))) :
    RV (G.2.1 (F a 10)) := by exact hR
theorem v_X11_fails_30_2 (G : XG) (p2 : Nat) (p3 : Int32)
    (hM : RM (G.2.1 p2) (p3.toInt)) :
    RM (G.2.1 p2) (p3.toInt) := by exact hM
theorem v_X11_fails_20_3 {F : Nat → Nat → Nat} (a : Nat) (G : XG)
    (hR : RV (G.2.1 (F a 10))) :
    RV (G.2.1 (F a 10)) := by exact hR
theorem v_X11_fails_20_4 (G : XG) (p2 : Nat) (p3 : Int32)
    (hM : RM (G.2.1 p2) (p3.toInt)) :
    RM (G.2.1 p2) (p3.toInt) := by exact hM
theorem z_X11_isRing_2 (a0 : Int) (h0 : 0 ≤ a0 ∧ a0 ≤ 30) : ¬ (2147483648 - a0 < ((0 : Nat) : Int)) := by omega
theorem z_X11_isRing_3 (a0 : Int) (a1 : Int) (a2 : Int) (h0 : a1 = a2) (h1 : (30 : Int) ≤ a0) (h2 : 30 ≤ a0 → a1 = 0) : (0 : Int) = a2 := by omega
theorem z_X11_isRing_5 (a0 : Int) (a1 : Int) (a2 : Int) (h0 : 0 ≤ a1 ∧ a1 ≤ 2) (h1 : 0 ≤ a2 ∧ a2 ≤ 2) (h2 : 0 ≤ a0 ∧ a0 ≤ 29) : 0 ≤ a1 ∧ a1 < 3 ∧ 0 ≤ a0 ∧ a0 < 30 ∧ 0 ≤ a2 ∧ a2 < 3 := by omega
theorem z_X11_isRing_6 (a0 : Int) (h0 : ¬ ((30 : Int) ≤ a0)) : 0 < 30 - a0 := by omega
theorem z_X11_isRing_7 (a0 : Int) (h0 : 0 ≤ a0 ∧ a0 ≤ 2) : 0 ≤ a0 ∧ a0 < 3 := by omega
theorem z_X11_isRing_8 (a0 : Int) (a1 : Int) (a2 : Int) (a3 : Int) (a4 : Int) (h0 : 0 ≤ a1 ∧ a1 ≤ 2520) (h1 : 0 ≤ a4 ∧ a4 ≤ 2) (h2 : 0 ≤ a0 ∧ a0 ≤ 29) (h3 : 0 ≤ a4 ∧ a4 ≤ 2 ∧ 0 ≤ a0 ∧ a0 ≤ 29 → a2 = 4 * (30 * a4 + a0)) (h4 : a3 = a1 + a2 ∨ a1 + a2 < -2147483648 ∨ 2147483648 ≤ a1 + a2) : 0 ≤ a3 ∧ a3 < a1 + 360 := by omega
theorem z_X11_isRing_9 (a0 : Int) (a1 : Int) (a2 : Int) (a3 : Int) (a4 : Int) (h0 : 0 ≤ a1 ∧ a1 ≤ 2520) (h1 : 0 ≤ a4 ∧ a4 ≤ 2) (h2 : 0 ≤ a0 ∧ a0 ≤ 29) (h3 : 0 ≤ a4 ∧ a4 ≤ 2 ∧ 0 ≤ a0 ∧ a0 ≤ 29 → a2 = 4 * (30 * a4 + a0)) (h4 : a3 = a1 + a2 ∨ a1 + a2 < -2147483648 ∨ 2147483648 ≤ a1 + a2) : a3 = a1 + 4 * (30 * a4 + a0) := by omega
theorem z_X11_isRing_10 (a0 : Int) (a1 : Int) (h0 : 0 ≤ a0 ∧ a0 ≤ 30) (h1 : a1 = (a0 + 1) ∨ (a0 + 1) < -2147483648 ∨ 2147483648 ≤ (a0 + 1)) : a1 = (a0 + 1) := by omega
theorem z_X11_isRing_11 (a0 : Int) (a1 : Int) (h0 : (a1 = 1 ∧ 0 ≤ a0 ∧ a0 ≤ 29) ∨ (a1 = 0 ∧ (a0 < 0 ∨ 29 < a0))) (h1 : a1 ≠ 0) : 0 ≤ a0 ∧ a0 ≤ 29 := by omega
theorem z_X11_isRing_12 (a0 : Int) (h0 : 0 ≤ a0 ∧ a0 ≤ 30) (h1 : ¬ ((30 : Int) ≤ a0)) : 0 ≤ (a0 + 1) ∧ (a0 + 1) ≤ 30 := by omega
theorem z_X11_isRing_13 (a0 : Int) (a1 : Int) (a2 : Int) (a3 : Int) (a4 : Int) (a5 : Int) (a6 : Int) (a7 : Int) (a8 : Int) (a9 : Int) (h0 : a8 = a9) (h1 : (a4 = 0 ∧ a5 = -2000) ∨ (a4 = 1 ∧ a5 = a3 ∧ (a3 = -1000 ∨ (-99 ≤ a3 ∧ a3 ≤ 99)))) (h2 : a5 ≠ a1 → a8 = a7) (h3 : (a0 = a3 ∧ a4 = 1) ∨ (a0 = -1000 ∧ ¬ (a4 = 1))) (h4 : (a2 = 1 ∧ 0 ≤ a0 ∧ a0 ≤ 29) ∨ (a2 = 0 ∧ (a0 < 0 ∨ 29 < a0))) (h5 : a2 ≠ 0) (h6 : a0 ≠ a1) (h7 : a0 = a5 → a6 = a7) : a6 = a9 := by omega
theorem z_X11_isRing_14 (a0 : Int) (h0 : 0 ≤ a0 ∧ a0 ≤ 30) : (0 : Int) ≤ (a0 + 1) := by omega
theorem z_X11_isRing_15 (a0 : Int) (a1 : Nat) (h0 : 2147483648 - a0 < ((a1 + 1 : Nat) : Int)) : 2147483648 - (a0 + 1) < ((a1 : Nat) : Int) := by omega
theorem z_X11_isRing_16 (a0 : Int) (a1 : Int) (h0 : 0 ≤ a0 ∧ a0 ≤ 29) (h1 : 0 ≤ a1 ∧ a1 ≤ 2) : 0 ≤ a1 ∧ a1 < 3 ∧ 0 ≤ a0 ∧ a0 < 30 ∧ 0 ≤ (0 : Int) ∧ (0 : Int) < 3 := by omega
theorem z_X11_isRing_18 (a0 : Int) (a1 : Int) (a2 : Int) (a3 : Int) (a4 : Int) (h0 : 0 ≤ a0 ∧ a0 ≤ 29) (h1 : 0 ≤ a1 ∧ a1 ≤ 2520) (h2 : 0 ≤ a4 ∧ a4 ≤ 2) (h3 : 0 ≤ a4 ∧ a4 ≤ 2 ∧ 0 ≤ a0 ∧ a0 ≤ 29 → a2 = 4 * (30 * a4 + a0)) (h4 : a3 = a1 + a2 ∨ a1 + a2 < -2147483648 ∨ 2147483648 ≤ a1 + a2) : 0 ≤ a3 ∧ a3 < a1 + 360 := by omega
theorem z_X11_isRing_19 (a0 : Int) (a1 : Int) (a2 : Int) (a3 : Int) (a4 : Int) (h0 : 0 ≤ a0 ∧ a0 ≤ 29) (h1 : 0 ≤ a1 ∧ a1 ≤ 2520) (h2 : 0 ≤ a4 ∧ a4 ≤ 2) (h3 : 0 ≤ a4 ∧ a4 ≤ 2 ∧ 0 ≤ a0 ∧ a0 ≤ 29 → a2 = 4 * (30 * a4 + a0)) (h4 : a3 = a1 + a2 ∨ a1 + a2 < -2147483648 ∨ 2147483648 ≤ a1 + a2) : a3 = a1 + 4 * (30 * a4 + a0) := by omega
theorem z_X11_isRing_20 (a0 : Int) (a1 : Int) (a2 : Int) (a3 : Int) (a4 : Int) (a5 : Int) (a6 : Int) (a7 : Int) (a8 : Int) (a9 : Int) (h0 : 0 ≤ a1 ∧ a1 ≤ 29) (h1 : a8 = a9) (h2 : (a3 = 0 ∧ a6 = -2000) ∨ (a3 = 1 ∧ a6 = a2 ∧ (a2 = -1000 ∨ (-99 ≤ a2 ∧ a2 ≤ 99)))) (h3 : a6 = a1 → (a7 = -2000 → a8 = 0) ∧ (a7 ≠ -2000 → a8 = 1)) (h4 : (a0 = a2 ∧ a3 = 1) ∨ (a0 = -1000 ∧ ¬ (a3 = 1))) (h5 : ¬ (a0 ≠ a1)) (h6 : (a5 = 0 ∧ a7 = -2000) ∨ (a5 = 1 ∧ a7 = a4 ∧ (a4 = -1000 ∨ (-99 ≤ a4 ∧ a4 ≤ 99)))) (h7 : a5 ≠ (1 : Int)) : (0 : Int) = a9 := by omega
theorem z_X11_isRing_21 (a0 : Int) (a1 : Int) (a2 : Int) (a3 : Int) (a4 : Int) (a5 : Int) (a6 : Int) (a7 : Int) (a8 : Int) (a9 : Int) (h0 : 0 ≤ a1 ∧ a1 ≤ 29) (h1 : a8 = a9) (h2 : (a3 = 0 ∧ a6 = -2000) ∨ (a3 = 1 ∧ a6 = a2 ∧ (a2 = -1000 ∨ (-99 ≤ a2 ∧ a2 ≤ 99)))) (h3 : a6 = a1 → (a7 = -2000 → a8 = 0) ∧ (a7 ≠ -2000 → a8 = 1)) (h4 : (a0 = a2 ∧ a3 = 1) ∨ (a0 = -1000 ∧ ¬ (a3 = 1))) (h5 : ¬ (a0 ≠ a1)) (h6 : (a5 = 0 ∧ a7 = -2000) ∨ (a5 = 1 ∧ a7 = a4 ∧ (a4 = -1000 ∨ (-99 ≤ a4 ∧ a4 ≤ 99)))) (h7 : ¬ (a5 ≠ (1 : Int))) : (1 : Int) = a9 := by omega
theorem z_X11_isRing_22 (a0 : Int) (a1 : Int) (a2 : Int) (a3 : Int) (a4 : Int) (a5 : Int) (a6 : Int) (h0 : a5 = a6) (h1 : (a3 = 0 ∧ a4 = -2000) ∨ (a3 = 1 ∧ a4 = a2 ∧ (a2 = -1000 ∨ (-99 ≤ a2 ∧ a2 ≤ 99)))) (h2 : ¬ (0 ≤ a4 ∧ a4 < 30) → a5 = 0) (h3 : (a0 = a2 ∧ a3 = 1) ∨ (a0 = -1000 ∧ ¬ (a3 = 1))) (h4 : (a1 = 1 ∧ 0 ≤ a0 ∧ a0 ≤ 29) ∨ (a1 = 0 ∧ (a0 < 0 ∨ 29 < a0))) (h5 : ¬ (a1 ≠ 0)) : (0 : Int) = a6 := by omega
theorem z_X11_isRing_23 (a0 : Int) (a1 : Int) (h0 : a1 ≠ (1 : Int)) : ((-1000 : Int) = a0 ∧ a1 = 1) ∨ ((-1000 : Int) = -1000 ∧ ¬ (a1 = 1)) := by omega
theorem z_X11_isRing_25 (a0 : Int) (a1 : Int) (a2 : Int) (a3 : Int) (a4 : Int) (a5 : Int) (a6 : Int) (a7 : Int) (h0 : 0 ≤ a1 ∧ a1 ≤ 2520) (h1 : 0 ≤ a6 ∧ a6 ≤ 2) (h2 : 0 ≤ a7 ∧ a7 ≤ 2) (h3 : 0 ≤ a0 ∧ a0 ≤ 29) (h4 : 0 ≤ a6 ∧ a6 ≤ 2 ∧ 0 ≤ a0 ∧ a0 ≤ 29 → a2 = 4 * (30 * a6 + a0)) (h5 : a3 = a1 + a2 ∨ a1 + a2 < -2147483648 ∨ 2147483648 ≤ a1 + a2) (h6 : a4 = a3 + (1 : Int) ∨ a3 + (1 : Int) < -2147483648 ∨ 2147483648 ≤ a3 + (1 : Int)) (h7 : a5 = a4 + a7 ∨ a4 + a7 < -2147483648 ∨ 2147483648 ≤ a4 + a7) : 0 ≤ a5 ∧ a5 < a1 + 360 := by omega
theorem z_X11_isRing_26 (a0 : Int) (a1 : Int) (a2 : Int) (a3 : Int) (a4 : Int) (a5 : Int) (a6 : Int) (a7 : Int) (h0 : 0 ≤ a1 ∧ a1 ≤ 2520) (h1 : 0 ≤ a6 ∧ a6 ≤ 2) (h2 : 0 ≤ a7 ∧ a7 ≤ 2) (h3 : 0 ≤ a0 ∧ a0 ≤ 29) (h4 : 0 ≤ a6 ∧ a6 ≤ 2 ∧ 0 ≤ a0 ∧ a0 ≤ 29 → a2 = 4 * (30 * a6 + a0)) (h5 : a3 = a1 + a2 ∨ a1 + a2 < -2147483648 ∨ 2147483648 ≤ a1 + a2) (h6 : a4 = a3 + (1 : Int) ∨ a3 + (1 : Int) < -2147483648 ∨ 2147483648 ≤ a3 + (1 : Int)) (h7 : a5 = a4 + a7 ∨ a4 + a7 < -2147483648 ∨ 2147483648 ≤ a4 + a7) : a5 = a1 + 4 * (30 * a6 + a0) + 1 + a7 := by omega
theorem z_X11_isRing_27 (a0 : Int) (a1 : Int) (h0 : ¬ (a1 ≠ (1 : Int))) : (a0 = a0 ∧ a1 = 1) ∨ (a0 = -1000 ∧ ¬ (a1 = 1)) := by omega
abbrev rm_X11_isRing : Room := { frames := 2, cells := 0, slots := 0, locals := 45 }
set_option maxHeartbeats 4000000 in
set_option maxRecDepth 100000 in
theorem c_X11_isRing (l : Launch) (E : XE) (K : Nat → Nat) (F : Nat → Nat → Nat) (G : XG) (h0 : Heap) (a : Nat) (p0 : Int32) (p1 : Int32) (p2 : Nat) (p3 : Int32) (ha : K a = 13) (hp2 : XO K p2 p3.toInt) (e0 : 0 ≤ p0.toInt ∧ p0.toInt ≤ 11) (e1 : 0 ≤ p1.toInt ∧ p1.toInt ≤ 29) (hR : RV (G.2.1 (F a 10))) (hM : RM (G.2.1 p2) (p3.toInt)) : Met l yX11_isRing (xw yX11_isRing cX11_isRing 9 (some .boolean)) rm_X11_isRing (va_Pc [.ref a, .int p0, .int p1, .ref p2, .int p3] (XPh E K F G h0)) (XQ E (fun v (u : Unit) => ∃ r : Int32, v = .int r ∧ (r = 0 ∨ r = 1) ∧ (r.toInt = (rgq (mw (G.2.1 p2) (p3.toInt)) (aI (G.2.1 (F a 10)) (10 * p0.toInt + 1)) (aI (G.2.1 (F a 10)) (10 * p0.toInt + 2)) (p1.toInt) 30 (cel (mw (G.2.1 p2) (p3.toInt)) (aI (G.2.1 (F a 10)) (10 * p0.toInt + 1)) (p1.toInt) (aI (G.2.1 (F a 10)) (10 * p0.toInt + 2)))))) (fun _ H => H = h0)) 0 0 (xA E) := by
  refine x_enter (by decide) (Nat.le_of_ble_eq_true rfl) ?_
  intro p e s m args below meth c Q S hr hlk hnm hQ hP ls hl
  obtain ⟨⟨hz, hK, hT⟩, hh⟩ := hP
  obtain ⟨hx, hb, -, -, -⟩ := id S
  have hS : va_S (xA E) s.heap s.heap [] := va_S.rf
  have hl : lv_has ls 9 [(0, .ref a), (1, .int p0), (2, .int p1), (3, .ref p2), (4, .int p3)] := hl
  obtain ⟨hk9999, hj9999⟩ := fkX11_10 hT ha
  have z0 : (-1 ≤ (aI (G.2.1 (F a 10)) (10 * p0.toInt + 0)) ∧ (aI (G.2.1 (F a 10)) (10 * p0.toInt + 0)) ≤ 5) ∧ (0 ≤ (aI (G.2.1 (F a 10)) (10 * p0.toInt + 1)) ∧ (aI (G.2.1 (F a 10)) (10 * p0.toInt + 1)) ≤ 2) ∧ (0 ≤ (aI (G.2.1 (F a 10)) (10 * p0.toInt + 2)) ∧ (aI (G.2.1 (F a 10)) (10 * p0.toInt + 2)) ≤ 2) ∧ (-1 ≤ (aI (G.2.1 (F a 10)) (10 * p0.toInt + 3)) ∧ (aI (G.2.1 (F a 10)) (10 * p0.toInt + 3)) ≤ 2) ∧ ((aI (G.2.1 (F a 10)) (10 * p0.toInt + 0)) = 1 ∨ (aI (G.2.1 (F a 10)) (10 * p0.toInt + 0)) = 3 ∨ (aI (G.2.1 (F a 10)) (10 * p0.toInt + 0)) = 4 → 0 ≤ (aI (G.2.1 (F a 10)) (10 * p0.toInt + 3))) := RV.row hR (e0)
  refine lv_iload_n hx hb dX11_isRing_0 rfl (lv_at hl 2 rfl) ?_
  refine lv_istore (lv' := [(5, .int p1), (0, .ref a), (1, .int p0), (2, .int p1), (3, .ref p2), (4, .int p3)]) hx hb dX11_isRing_1 hl (by decide) rfl (fun ls hl => ?_)
  refine lv_iconst (v := 0) hx hb dX11_isRing_3 (by decide) ?_
  have z4 : (rgq (mw (G.2.1 p2) (p3.toInt)) (aI (G.2.1 (F a 10)) (10 * p0.toInt + 1)) (aI (G.2.1 (F a 10)) (10 * p0.toInt + 2)) (p1.toInt) (30 - 0) (cel (mw (G.2.1 p2) (p3.toInt)) (aI (G.2.1 (F a 10)) (10 * p0.toInt + 1)) (p1.toInt) (aI (G.2.1 (F a 10)) (10 * p0.toInt + 2)))) = (rgq (mw (G.2.1 p2) (p3.toInt)) (aI (G.2.1 (F a 10)) (10 * p0.toInt + 1)) (aI (G.2.1 (F a 10)) (10 * p0.toInt + 2)) (p1.toInt) 30 (cel (mw (G.2.1 p2) (p3.toInt)) (aI (G.2.1 (F a 10)) (10 * p0.toInt + 1)) (p1.toInt) (aI (G.2.1 (F a 10)) (10 * p0.toInt + 2)))) := by rw [show (30 - 0 : Int) = 30 from by decide]
  refine lv_istore (lv' := [(6, .int 0), (5, .int p1), (0, .ref a), (1, .int p0), (2, .int p1), (3, .ref p2), (4, .int p3)]) hx hb dX11_isRing_4 hl (by decide) rfl (fun ls hl => ?_)
  have L6 : ∀ (N6 : Nat) (l5_6 : Int32) (l6_6 : Int32) (locs : List Loc) (ls : Array Slot), 0 ≤ l5_6.toInt ∧ l5_6.toInt ≤ 29 → 0 ≤ l6_6.toInt ∧ l6_6.toInt ≤ 30 → (rgq (mw (G.2.1 p2) (p3.toInt)) (aI (G.2.1 (F a 10)) (10 * p0.toInt + 1)) (aI (G.2.1 (F a 10)) (10 * p0.toInt + 2)) (p1.toInt) (30 - l6_6.toInt) (cel (mw (G.2.1 p2) (p3.toInt)) (aI (G.2.1 (F a 10)) (10 * p0.toInt + 1)) (l5_6.toInt) (aI (G.2.1 (F a 10)) (10 * p0.toInt + 2)))) = (rgq (mw (G.2.1 p2) (p3.toInt)) (aI (G.2.1 (F a 10)) (10 * p0.toInt + 1)) (aI (G.2.1 (F a 10)) (10 * p0.toInt + 2)) (p1.toInt) 30 (cel (mw (G.2.1 p2) (p3.toInt)) (aI (G.2.1 (F a 10)) (10 * p0.toInt + 1)) (p1.toInt) (aI (G.2.1 (F a 10)) (10 * p0.toInt + 2)))) → (0 : Int) ≤ l6_6.toInt → 2147483648 - l6_6.toInt < ((N6 : Nat) : Int) → TW E K F G s.heap → va_S (xA E) s.heap s.heap locs → lv_has ls 9 [(0, .ref a), (1, .int p0), (2, .int p1), (3, .ref p2), (4, .int p3), (5, .int l5_6), (6, .int l6_6)] → W p l e rm_X11_isRing s m args below meth c s.heap locs 0 0 Q (F0 m 6 ls []) := by
    intro N6
    induction N6 with
    | zero =>
      intro l5_6 l6_6 locs ls I6_0 I6_1 I6_2 I6_3 hm6
      exact absurd hm6 (z_X11_isRing_2 l6_6.toInt I6_1)
    | succ N6 ih6 =>
      intro l5_6 l6_6 locs ls I6_0 I6_1 I6_2 I6_3 hm6 hT hS hl
      refine lv_iload hx hb dX11_isRing_6 (lv_at hl 6 rfl) ?_
      refine lv_bipush (v := 30) hx hb dX11_isRing_8 (by decide) ?_
      refine xi_cge (tgt := 109) hx hb (rfl : Int32.toInt l6_6 = l6_6.toInt) ((by decide) : Int32.toInt 30 = (30 : Int)) dX11_isRing_10 (by decide) (fun c10 => ?_) (fun c10 => ?_)
      · have z109 : 30 ≤ l6_6.toInt → (rgq (mw (G.2.1 p2) (p3.toInt)) (aI (G.2.1 (F a 10)) (10 * p0.toInt + 1)) (aI (G.2.1 (F a 10)) (10 * p0.toInt + 2)) (p1.toInt) (30 - l6_6.toInt) (cel (mw (G.2.1 p2) (p3.toInt)) (aI (G.2.1 (F a 10)) (10 * p0.toInt + 1)) (l5_6.toInt) (aI (G.2.1 (F a 10)) (10 * p0.toInt + 2)))) = 0 := fun h9 => by rw [show 30 - l6_6.toInt = (0 : Int) from by omega]; exact rgq_0 _ _ _ _ _
        refine lv_iconst (v := 0) hx hb dX11_isRing_109 (by decide) ?_
        exact x_rz hx hb hr (xnz (Or.inl rfl)) hlk hQ (Nat.le_of_ble_eq_true rfl) (Nat.le_of_ble_eq_true rfl) hS dX11_isRing_110 () ⟨_, rfl, (Or.inl rfl), (z_X11_isRing_3 l6_6.toInt (rgq (mw (G.2.1 p2) (p3.toInt)) (aI (G.2.1 (F a 10)) (10 * p0.toInt + 1)) (aI (G.2.1 (F a 10)) (10 * p0.toInt + 2)) (p1.toInt) (30 - l6_6.toInt) (cel (mw (G.2.1 p2) (p3.toInt)) (aI (G.2.1 (F a 10)) (10 * p0.toInt + 1)) (l5_6.toInt) (aI (G.2.1 (F a 10)) (10 * p0.toInt + 2)))) (rgq (mw (G.2.1 p2) (p3.toInt)) (aI (G.2.1 (F a 10)) (10 * p0.toInt + 1)) (aI (G.2.1 (F a 10)) (10 * p0.toInt + 2)) (p1.toInt) 30 (cel (mw (G.2.1 p2) (p3.toInt)) (aI (G.2.1 (F a 10)) (10 * p0.toInt + 1)) (p1.toInt) (aI (G.2.1 (F a 10)) (10 * p0.toInt + 2)))) I6_2 c10 z109)⟩ hh
      · refine lv_iload hx hb dX11_isRing_13 (lv_at hl 4 rfl) ?_
        refine lv_aload_n hx hb dX11_isRing_15 rfl (lv_at hl 0 rfl) ?_
        refine lv_iload_n hx hb dX11_isRing_16 rfl (lv_at hl 1 rfl) ?_
        refine lv_iconst (v := 1) hx hb dX11_isRing_17 (by decide) ?_
        refine x_clp (x_runV (b := a) (As := [.int p0, .int 1]) (rest := [.int p3]) S (c_X11_of l E K F G s.heap a p0 1 ha (e0) (by decide)) mv_X11_of km_X11_165 rfl rfl ⟨Nat.le_of_ble_eq_true rfl, Nat.le_of_ble_eq_true rfl⟩ (rc_13 hK hT ha) hK (fun _ => XPh.blind) (fun U hU hW => XPh.at hK hz hS hT hU hW) rfl hl.1 (Nat.le_of_ble_eq_true rfl) dX11_isRing_18 ⟨Nat.le_of_ble_eq_true rfl, Nat.le_of_ble_eq_true rfl⟩) hS ?_
        rintro _ _ locs ⟨x18, rfl, t18⟩ hS
        have t18 : x18.toInt = (aI (G.2.1 (F a 10)) (10 * p0.toInt + 1)) := t18
        refine lv_iload hx hb dX11_isRing_21 (lv_at hl 5 rfl) ?_
        refine x_clp (x_runS (As := [.int x18, .int l5_6]) (rest := [.int p3]) S (c_X11_at l E K F G s.heap x18 l5_6) ms_X11_at km_X11_156 rfl rfl ⟨Nat.le_of_ble_eq_true rfl, Nat.le_of_ble_eq_true rfl⟩ hK (fun _ => XPh.blind) (fun U hU hW => XPh.at hK hz hS hT hU hW) rfl hl.1 (Nat.le_of_ble_eq_true rfl) dX11_isRing_23 ⟨Nat.le_of_ble_eq_true rfl, Nat.le_of_ble_eq_true rfl⟩) hS ?_
        rintro _ _ locs ⟨x23, rfl, t23⟩ hS
        have t23 : 0 ≤ (aI (G.2.1 (F a 10)) (10 * p0.toInt + 1)) ∧ (aI (G.2.1 (F a 10)) (10 * p0.toInt + 1)) ≤ 2 ∧ 0 ≤ l5_6.toInt ∧ l5_6.toInt ≤ 29 → x23.toInt = 4 * (30 * (aI (G.2.1 (F a 10)) (10 * p0.toInt + 1)) + l5_6.toInt) := by rw [(t18 : Int32.toInt x18 = (aI (G.2.1 (F a 10)) (10 * p0.toInt + 1)))] at t23; exact t23
        refine xi_iadd hx hb (rfl : Int32.toInt p3 = p3.toInt) (rfl : Int32.toInt x23 = x23.toInt) dX11_isRing_26 (fun x26 t26 => ?_)
        refine lv_istore (lv' := [(7, .int x26), (0, .ref a), (1, .int p0), (2, .int p1), (3, .ref p2), (4, .int p3), (5, .int l5_6), (6, .int l6_6)]) hx hb dX11_isRing_27 hl (by decide) rfl (fun ls hl => ?_)
        have z29 : ((aI (G.2.1 p2) (p3.toInt + 4 * (30 * (aI (G.2.1 (F a 10)) (10 * p0.toInt + 1)) + l5_6.toInt))) = 0 ∧ (cel (mw (G.2.1 p2) (p3.toInt)) (aI (G.2.1 (F a 10)) (10 * p0.toInt + 1)) (l5_6.toInt) (aI (G.2.1 (F a 10)) (10 * p0.toInt + 2))) = -2000) ∨ ((aI (G.2.1 p2) (p3.toInt + 4 * (30 * (aI (G.2.1 (F a 10)) (10 * p0.toInt + 1)) + l5_6.toInt))) = 1 ∧ (cel (mw (G.2.1 p2) (p3.toInt)) (aI (G.2.1 (F a 10)) (10 * p0.toInt + 1)) (l5_6.toInt) (aI (G.2.1 (F a 10)) (10 * p0.toInt + 2))) = (aI (G.2.1 p2) (p3.toInt + 4 * (30 * (aI (G.2.1 (F a 10)) (10 * p0.toInt + 1)) + l5_6.toInt) + 1 + (aI (G.2.1 (F a 10)) (10 * p0.toInt + 2)))) ∧ ((aI (G.2.1 p2) (p3.toInt + 4 * (30 * (aI (G.2.1 (F a 10)) (10 * p0.toInt + 1)) + l5_6.toInt) + 1 + (aI (G.2.1 (F a 10)) (10 * p0.toInt + 2)))) = -1000 ∨ (-99 ≤ (aI (G.2.1 p2) (p3.toInt + 4 * (30 * (aI (G.2.1 (F a 10)) (10 * p0.toInt + 1)) + l5_6.toInt) + 1 + (aI (G.2.1 (F a 10)) (10 * p0.toInt + 2)))) ∧ (aI (G.2.1 p2) (p3.toInt + 4 * (30 * (aI (G.2.1 (F a 10)) (10 * p0.toInt + 1)) + l5_6.toInt) + 1 + (aI (G.2.1 (F a 10)) (10 * p0.toInt + 2)))) ≤ 99))) := hM.okc (z_X11_isRing_5 l5_6.toInt (aI (G.2.1 (F a 10)) (10 * p0.toInt + 1)) (aI (G.2.1 (F a 10)) (10 * p0.toInt + 2)) (z0).2.1 (z0).2.2.1 I6_0)
        have z29a : (¬ (0 ≤ (cel (mw (G.2.1 p2) (p3.toInt)) (aI (G.2.1 (F a 10)) (10 * p0.toInt + 1)) (l5_6.toInt) (aI (G.2.1 (F a 10)) (10 * p0.toInt + 2))) ∧ (cel (mw (G.2.1 p2) (p3.toInt)) (aI (G.2.1 (F a 10)) (10 * p0.toInt + 1)) (l5_6.toInt) (aI (G.2.1 (F a 10)) (10 * p0.toInt + 2))) < 30) → (rgq (mw (G.2.1 p2) (p3.toInt)) (aI (G.2.1 (F a 10)) (10 * p0.toInt + 1)) (aI (G.2.1 (F a 10)) (10 * p0.toInt + 2)) (p1.toInt) (30 - l6_6.toInt) (cel (mw (G.2.1 p2) (p3.toInt)) (aI (G.2.1 (F a 10)) (10 * p0.toInt + 1)) (l5_6.toInt) (aI (G.2.1 (F a 10)) (10 * p0.toInt + 2)))) = 0) ∧ ((cel (mw (G.2.1 p2) (p3.toInt)) (aI (G.2.1 (F a 10)) (10 * p0.toInt + 1)) (l5_6.toInt) (aI (G.2.1 (F a 10)) (10 * p0.toInt + 2))) = p1.toInt → ((cel (mw (G.2.1 p2) (p3.toInt)) (aI (G.2.1 (F a 10)) (10 * p0.toInt + 1)) (p1.toInt) 0) = -2000 → (rgq (mw (G.2.1 p2) (p3.toInt)) (aI (G.2.1 (F a 10)) (10 * p0.toInt + 1)) (aI (G.2.1 (F a 10)) (10 * p0.toInt + 2)) (p1.toInt) (30 - l6_6.toInt) (cel (mw (G.2.1 p2) (p3.toInt)) (aI (G.2.1 (F a 10)) (10 * p0.toInt + 1)) (l5_6.toInt) (aI (G.2.1 (F a 10)) (10 * p0.toInt + 2)))) = 0) ∧ ((cel (mw (G.2.1 p2) (p3.toInt)) (aI (G.2.1 (F a 10)) (10 * p0.toInt + 1)) (p1.toInt) 0) ≠ -2000 → (rgq (mw (G.2.1 p2) (p3.toInt)) (aI (G.2.1 (F a 10)) (10 * p0.toInt + 1)) (aI (G.2.1 (F a 10)) (10 * p0.toInt + 2)) (p1.toInt) (30 - l6_6.toInt) (cel (mw (G.2.1 p2) (p3.toInt)) (aI (G.2.1 (F a 10)) (10 * p0.toInt + 1)) (l5_6.toInt) (aI (G.2.1 (F a 10)) (10 * p0.toInt + 2)))) = 1)) ∧ ((cel (mw (G.2.1 p2) (p3.toInt)) (aI (G.2.1 (F a 10)) (10 * p0.toInt + 1)) (l5_6.toInt) (aI (G.2.1 (F a 10)) (10 * p0.toInt + 2))) ≠ p1.toInt → (rgq (mw (G.2.1 p2) (p3.toInt)) (aI (G.2.1 (F a 10)) (10 * p0.toInt + 1)) (aI (G.2.1 (F a 10)) (10 * p0.toInt + 2)) (p1.toInt) (30 - l6_6.toInt) (cel (mw (G.2.1 p2) (p3.toInt)) (aI (G.2.1 (F a 10)) (10 * p0.toInt + 1)) (l5_6.toInt) (aI (G.2.1 (F a 10)) (10 * p0.toInt + 2)))) = (rgq (mw (G.2.1 p2) (p3.toInt)) (aI (G.2.1 (F a 10)) (10 * p0.toInt + 1)) (aI (G.2.1 (F a 10)) (10 * p0.toInt + 2)) (p1.toInt) (30 - l6_6.toInt - 1) (cel (mw (G.2.1 p2) (p3.toInt)) (aI (G.2.1 (F a 10)) (10 * p0.toInt + 1)) (cel (mw (G.2.1 p2) (p3.toInt)) (aI (G.2.1 (F a 10)) (10 * p0.toInt + 1)) (l5_6.toInt) (aI (G.2.1 (F a 10)) (10 * p0.toInt + 2))) (aI (G.2.1 (F a 10)) (10 * p0.toInt + 2))))) := ring_st (z_X11_isRing_6 l6_6.toInt c10) (hM.absent _ _ _ (z_X11_isRing_7 (aI (G.2.1 (F a 10)) (10 * p0.toInt + 2)) (z0).2.2.1))
        refine lv_aload_n hx hb dX11_isRing_29 rfl (lv_at hl 4 rfl) ?_
        refine lv_iload hx hb dX11_isRing_30 (lv_at hl 0 rfl) ?_
        refine ald_of S hK hT hp2 (z_X11_isRing_8 l5_6.toInt p3.toInt x23.toInt x26.toInt (aI (G.2.1 (F a 10)) (10 * p0.toInt + 1)) (XO.lim hp2) (z0).2.1 I6_0 t23 t26) dX11_isRing_32 (fun x32 hv32 => ?_)
        have hv32 : x32.toInt = (aI (G.2.1 p2) (p3.toInt + 4 * (30 * (aI (G.2.1 (F a 10)) (10 * p0.toInt + 1)) + l5_6.toInt))) := hv32.trans (by rw [((rfl : Int32.toInt x26 = x26.toInt).trans (z_X11_isRing_9 l5_6.toInt p3.toInt x23.toInt x26.toInt (aI (G.2.1 (F a 10)) (10 * p0.toInt + 1)) (XO.lim hp2) (z0).2.1 I6_0 t23 t26))])
        refine lv_iconst (v := 1) hx hb dX11_isRing_33 (by decide) ?_
        have J56 : ∀ (k_56 : Int32) (locs : List Loc) (ls : Array Slot), (k_56.toInt = (aI (G.2.1 p2) (p3.toInt + 4 * (30 * (aI (G.2.1 (F a 10)) (10 * p0.toInt + 1)) + l5_6.toInt) + 1 + (aI (G.2.1 (F a 10)) (10 * p0.toInt + 2)))) ∧ (aI (G.2.1 p2) (p3.toInt + 4 * (30 * (aI (G.2.1 (F a 10)) (10 * p0.toInt + 1)) + l5_6.toInt))) = 1) ∨ (k_56.toInt = -1000 ∧ ¬ ((aI (G.2.1 p2) (p3.toInt + 4 * (30 * (aI (G.2.1 (F a 10)) (10 * p0.toInt + 1)) + l5_6.toInt))) = 1)) → TW E K F G s.heap → va_S (xA E) s.heap s.heap locs → lv_has ls 9 [(0, .ref a), (1, .int p0), (2, .int p1), (3, .ref p2), (4, .int p3), (6, .int l6_6)] → W p l e rm_X11_isRing s m args below meth c s.heap locs 0 0 Q (F0 m 56 ls [.int k_56]) := by
          intro k_56 locs ls I56_0 hT hS hl
          refine lv_istore (lv' := [(8, .int k_56), (0, .ref a), (1, .int p0), (2, .int p1), (3, .ref p2), (4, .int p3), (6, .int l6_6)]) hx hb dX11_isRing_56 hl (by decide) rfl (fun ls hl => ?_)
          refine lv_iload hx hb dX11_isRing_58 (lv_at hl 0 rfl) ?_
          refine x_clp (x_runS (As := [.int k_56]) (rest := []) S (c_X11_isKey l E K F G s.heap k_56) ms_X11_isKey km_X11_153 rfl rfl ⟨Nat.le_of_ble_eq_true rfl, Nat.le_of_ble_eq_true rfl⟩ hK (fun _ => XPh.blind) (fun U hU hW => XPh.at hK hz hS hT hU hW) rfl hl.1 (Nat.le_of_ble_eq_true rfl) dX11_isRing_60 ⟨Nat.le_of_ble_eq_true rfl, Nat.le_of_ble_eq_true rfl⟩) hS ?_
          rintro _ _ locs ⟨x60, rfl, b60, t60⟩ hS
          have t60 : (x60.toInt = 1 ∧ 0 ≤ k_56.toInt ∧ k_56.toInt ≤ 29) ∨ (x60.toInt = 0 ∧ (k_56.toInt < 0 ∨ 29 < k_56.toInt)) := t60
          refine xi_zne (tgt := 68) hx hb (rfl : Int32.toInt x60 = x60.toInt) dX11_isRing_63 (by decide) (fun c63 => ?_) (fun c63 => ?_)
          · refine lv_iload hx hb dX11_isRing_68 (lv_at hl 0 rfl) ?_
            refine lv_iload_n hx hb dX11_isRing_70 rfl (lv_at hl 3 rfl) ?_
            refine xi_cne (tgt := 99) hx hb (rfl : Int32.toInt k_56 = k_56.toInt) (rfl : Int32.toInt p1 = p1.toInt) dX11_isRing_71 (by decide) (fun c71 => ?_) (fun c71 => ?_)
            · have z99 : k_56.toInt = (cel (mw (G.2.1 p2) (p3.toInt)) (aI (G.2.1 (F a 10)) (10 * p0.toInt + 1)) (l5_6.toInt) (aI (G.2.1 (F a 10)) (10 * p0.toInt + 2))) → (rgq (mw (G.2.1 p2) (p3.toInt)) (aI (G.2.1 (F a 10)) (10 * p0.toInt + 1)) (aI (G.2.1 (F a 10)) (10 * p0.toInt + 2)) (p1.toInt) (30 - (l6_6.toInt + 1)) (cel (mw (G.2.1 p2) (p3.toInt)) (aI (G.2.1 (F a 10)) (10 * p0.toInt + 1)) (k_56.toInt) (aI (G.2.1 (F a 10)) (10 * p0.toInt + 2)))) = (rgq (mw (G.2.1 p2) (p3.toInt)) (aI (G.2.1 (F a 10)) (10 * p0.toInt + 1)) (aI (G.2.1 (F a 10)) (10 * p0.toInt + 2)) (p1.toInt) (30 - l6_6.toInt - 1) (cel (mw (G.2.1 p2) (p3.toInt)) (aI (G.2.1 (F a 10)) (10 * p0.toInt + 1)) (cel (mw (G.2.1 p2) (p3.toInt)) (aI (G.2.1 (F a 10)) (10 * p0.toInt + 1)) (l5_6.toInt) (aI (G.2.1 (F a 10)) (10 * p0.toInt + 2))) (aI (G.2.1 (F a 10)) (10 * p0.toInt + 2)))) := fun h9 => by rw [h9, show 30 - (l6_6.toInt + 1) = 30 - l6_6.toInt - 1 from by omega]
              refine lv_iload hx hb dX11_isRing_99 (lv_at hl 0 rfl) ?_
              refine lv_istore (lv' := [(5, .int k_56), (8, .int k_56), (0, .ref a), (1, .int p0), (2, .int p1), (3, .ref p2), (4, .int p3), (6, .int l6_6)]) hx hb dX11_isRing_101 hl (by decide) rfl (fun ls hl => ?_)
              refine xi_iinc (n := 1) (lv' := fun z9 => [(6, .int z9), (5, .int k_56), (8, .int k_56), (0, .ref a), (1, .int p0), (2, .int p1), (3, .ref p2), (4, .int p3)]) (k := 7) hx hb (rfl : Int32.toInt l6_6 = l6_6.toInt) (by decide) dX11_isRing_103 hl rfl (by decide) (fun _ => rfl) (fun x103 ls t103 hl => ?_)
              have e103 : x103.toInt = (l6_6.toInt + 1) := (z_X11_isRing_10 l6_6.toInt x103.toInt I6_1 t103)
              have hl : lv_has ls 9 [(6, .int x103), (5, .int k_56), (8, .int k_56), (0, .ref a), (1, .int p0), (2, .int p1), (3, .ref p2), (4, .int p3)] := hl
              refine lv_goto (tgt := 6) hx hb dX11_isRing_106 (by decide) ?_
              exact ih6 k_56 x103 _ _ (z_X11_isRing_11 k_56.toInt x60.toInt t60 c63) (by rw [(e103 : Int32.toInt x103 = (l6_6.toInt + 1))] <;> exact (z_X11_isRing_12 l6_6.toInt I6_1 c10)) (by rw [(e103 : Int32.toInt x103 = (l6_6.toInt + 1))] <;> exact (z_X11_isRing_13 k_56.toInt p1.toInt x60.toInt (aI (G.2.1 p2) (p3.toInt + 4 * (30 * (aI (G.2.1 (F a 10)) (10 * p0.toInt + 1)) + l5_6.toInt) + 1 + (aI (G.2.1 (F a 10)) (10 * p0.toInt + 2)))) (aI (G.2.1 p2) (p3.toInt + 4 * (30 * (aI (G.2.1 (F a 10)) (10 * p0.toInt + 1)) + l5_6.toInt))) (cel (mw (G.2.1 p2) (p3.toInt)) (aI (G.2.1 (F a 10)) (10 * p0.toInt + 1)) (l5_6.toInt) (aI (G.2.1 (F a 10)) (10 * p0.toInt + 2))) (rgq (mw (G.2.1 p2) (p3.toInt)) (aI (G.2.1 (F a 10)) (10 * p0.toInt + 1)) (aI (G.2.1 (F a 10)) (10 * p0.toInt + 2)) (p1.toInt) (30 - (l6_6.toInt + 1)) (cel (mw (G.2.1 p2) (p3.toInt)) (aI (G.2.1 (F a 10)) (10 * p0.toInt + 1)) (k_56.toInt) (aI (G.2.1 (F a 10)) (10 * p0.toInt + 2)))) (rgq (mw (G.2.1 p2) (p3.toInt)) (aI (G.2.1 (F a 10)) (10 * p0.toInt + 1)) (aI (G.2.1 (F a 10)) (10 * p0.toInt + 2)) (p1.toInt) (30 - l6_6.toInt - 1) (cel (mw (G.2.1 p2) (p3.toInt)) (aI (G.2.1 (F a 10)) (10 * p0.toInt + 1)) (cel (mw (G.2.1 p2) (p3.toInt)) (aI (G.2.1 (F a 10)) (10 * p0.toInt + 1)) (l5_6.toInt) (aI (G.2.1 (F a 10)) (10 * p0.toInt + 2))) (aI (G.2.1 (F a 10)) (10 * p0.toInt + 2)))) (rgq (mw (G.2.1 p2) (p3.toInt)) (aI (G.2.1 (F a 10)) (10 * p0.toInt + 1)) (aI (G.2.1 (F a 10)) (10 * p0.toInt + 2)) (p1.toInt) (30 - l6_6.toInt) (cel (mw (G.2.1 p2) (p3.toInt)) (aI (G.2.1 (F a 10)) (10 * p0.toInt + 1)) (l5_6.toInt) (aI (G.2.1 (F a 10)) (10 * p0.toInt + 2)))) (rgq (mw (G.2.1 p2) (p3.toInt)) (aI (G.2.1 (F a 10)) (10 * p0.toInt + 1)) (aI (G.2.1 (F a 10)) (10 * p0.toInt + 2)) (p1.toInt) 30 (cel (mw (G.2.1 p2) (p3.toInt)) (aI (G.2.1 (F a 10)) (10 * p0.toInt + 1)) (p1.toInt) (aI (G.2.1 (F a 10)) (10 * p0.toInt + 2)))) I6_2 z29 (z29a).2.2 I56_0 t60 c63 c71 z99)) (by rw [(e103 : Int32.toInt x103 = (l6_6.toInt + 1))] <;> exact (z_X11_isRing_14 l6_6.toInt I6_1)) (by rw [(e103 : Int32.toInt x103 = (l6_6.toInt + 1))] <;> exact (z_X11_isRing_15 l6_6.toInt N6 hm6)) hT hS (lv_sub hl [3, 4, 5, 6, 7, 1, 0] rfl)
            · have z74 : ((aI (G.2.1 p2) (p3.toInt + 4 * (30 * (aI (G.2.1 (F a 10)) (10 * p0.toInt + 1)) + p1.toInt))) = 0 ∧ (cel (mw (G.2.1 p2) (p3.toInt)) (aI (G.2.1 (F a 10)) (10 * p0.toInt + 1)) (p1.toInt) 0) = -2000) ∨ ((aI (G.2.1 p2) (p3.toInt + 4 * (30 * (aI (G.2.1 (F a 10)) (10 * p0.toInt + 1)) + p1.toInt))) = 1 ∧ (cel (mw (G.2.1 p2) (p3.toInt)) (aI (G.2.1 (F a 10)) (10 * p0.toInt + 1)) (p1.toInt) 0) = (aI (G.2.1 p2) (p3.toInt + 4 * (30 * (aI (G.2.1 (F a 10)) (10 * p0.toInt + 1)) + p1.toInt) + 1 + 0)) ∧ ((aI (G.2.1 p2) (p3.toInt + 4 * (30 * (aI (G.2.1 (F a 10)) (10 * p0.toInt + 1)) + p1.toInt) + 1 + 0)) = -1000 ∨ (-99 ≤ (aI (G.2.1 p2) (p3.toInt + 4 * (30 * (aI (G.2.1 (F a 10)) (10 * p0.toInt + 1)) + p1.toInt) + 1 + 0)) ∧ (aI (G.2.1 p2) (p3.toInt + 4 * (30 * (aI (G.2.1 (F a 10)) (10 * p0.toInt + 1)) + p1.toInt) + 1 + 0)) ≤ 99))) := hM.okc (z_X11_isRing_16 p1.toInt (aI (G.2.1 (F a 10)) (10 * p0.toInt + 1)) e1 (z0).2.1)
              refine lv_aload_n hx hb dX11_isRing_74 rfl (lv_at hl 4 rfl) ?_
              refine lv_iload hx hb dX11_isRing_75 (lv_at hl 5 rfl) ?_
              refine lv_aload_n hx hb dX11_isRing_77 rfl (lv_at hl 1 rfl) ?_
              refine lv_iload_n hx hb dX11_isRing_78 rfl (lv_at hl 2 rfl) ?_
              refine lv_iconst (v := 1) hx hb dX11_isRing_79 (by decide) ?_
              refine x_clp (x_runV (b := a) (As := [.int p0, .int 1]) (rest := [.int p3, .ref p2]) S (c_X11_of l E K F G s.heap a p0 1 ha (e0) (by decide)) mv_X11_of km_X11_165 rfl rfl ⟨Nat.le_of_ble_eq_true rfl, Nat.le_of_ble_eq_true rfl⟩ (rc_13 hK hT ha) hK (fun _ => XPh.blind) (fun U hU hW => XPh.at hK hz hS hT hU hW) rfl hl.1 (Nat.le_of_ble_eq_true rfl) dX11_isRing_80 ⟨Nat.le_of_ble_eq_true rfl, Nat.le_of_ble_eq_true rfl⟩) hS ?_
              rintro _ _ locs ⟨x80, rfl, t80⟩ hS
              have t80 : x80.toInt = (aI (G.2.1 (F a 10)) (10 * p0.toInt + 1)) := t80
              refine lv_iload_n hx hb dX11_isRing_83 rfl (lv_at hl 3 rfl) ?_
              refine x_clp (x_runS (As := [.int x80, .int p1]) (rest := [.int p3, .ref p2]) S (c_X11_at l E K F G s.heap x80 p1) ms_X11_at km_X11_156 rfl rfl ⟨Nat.le_of_ble_eq_true rfl, Nat.le_of_ble_eq_true rfl⟩ hK (fun _ => XPh.blind) (fun U hU hW => XPh.at hK hz hS hT hU hW) rfl hl.1 (Nat.le_of_ble_eq_true rfl) dX11_isRing_84 ⟨Nat.le_of_ble_eq_true rfl, Nat.le_of_ble_eq_true rfl⟩) hS ?_
              rintro _ _ locs ⟨x84, rfl, t84⟩ hS
              have t84 : 0 ≤ (aI (G.2.1 (F a 10)) (10 * p0.toInt + 1)) ∧ (aI (G.2.1 (F a 10)) (10 * p0.toInt + 1)) ≤ 2 ∧ 0 ≤ p1.toInt ∧ p1.toInt ≤ 29 → x84.toInt = 4 * (30 * (aI (G.2.1 (F a 10)) (10 * p0.toInt + 1)) + p1.toInt) := by rw [(t80 : Int32.toInt x80 = (aI (G.2.1 (F a 10)) (10 * p0.toInt + 1)))] at t84; exact t84
              refine xi_iadd hx hb (rfl : Int32.toInt p3 = p3.toInt) (rfl : Int32.toInt x84 = x84.toInt) dX11_isRing_87 (fun x87 t87 => ?_)
              refine ald_of S hK hT hp2 (z_X11_isRing_18 p1.toInt p3.toInt x84.toInt x87.toInt (aI (G.2.1 (F a 10)) (10 * p0.toInt + 1)) e1 (XO.lim hp2) (z0).2.1 t84 t87) dX11_isRing_88 (fun x88 hv88 => ?_)
              have hv88 : x88.toInt = (aI (G.2.1 p2) (p3.toInt + 4 * (30 * (aI (G.2.1 (F a 10)) (10 * p0.toInt + 1)) + p1.toInt))) := hv88.trans (by rw [((rfl : Int32.toInt x87 = x87.toInt).trans (z_X11_isRing_19 p1.toInt p3.toInt x84.toInt x87.toInt (aI (G.2.1 (F a 10)) (10 * p0.toInt + 1)) e1 (XO.lim hp2) (z0).2.1 t84 t87))])
              refine lv_iconst (v := 1) hx hb dX11_isRing_89 (by decide) ?_
              refine xi_cne (tgt := 97) hx hb (hv88 : Int32.toInt x88 = (aI (G.2.1 p2) (p3.toInt + 4 * (30 * (aI (G.2.1 (F a 10)) (10 * p0.toInt + 1)) + p1.toInt)))) ((by decide) : Int32.toInt 1 = (1 : Int)) dX11_isRing_90 (by decide) (fun c90 => ?_) (fun c90 => ?_)
              · refine lv_iconst (v := 0) hx hb dX11_isRing_97 (by decide) ?_
                exact x_rz hx hb hr (xnz (Or.inl rfl)) hlk hQ (Nat.le_of_ble_eq_true rfl) (Nat.le_of_ble_eq_true rfl) hS dX11_isRing_98 () ⟨_, rfl, (Or.inl rfl), (z_X11_isRing_20 k_56.toInt p1.toInt (aI (G.2.1 p2) (p3.toInt + 4 * (30 * (aI (G.2.1 (F a 10)) (10 * p0.toInt + 1)) + l5_6.toInt) + 1 + (aI (G.2.1 (F a 10)) (10 * p0.toInt + 2)))) (aI (G.2.1 p2) (p3.toInt + 4 * (30 * (aI (G.2.1 (F a 10)) (10 * p0.toInt + 1)) + l5_6.toInt))) (aI (G.2.1 p2) (p3.toInt + 4 * (30 * (aI (G.2.1 (F a 10)) (10 * p0.toInt + 1)) + p1.toInt) + 1 + 0)) (aI (G.2.1 p2) (p3.toInt + 4 * (30 * (aI (G.2.1 (F a 10)) (10 * p0.toInt + 1)) + p1.toInt))) (cel (mw (G.2.1 p2) (p3.toInt)) (aI (G.2.1 (F a 10)) (10 * p0.toInt + 1)) (l5_6.toInt) (aI (G.2.1 (F a 10)) (10 * p0.toInt + 2))) (cel (mw (G.2.1 p2) (p3.toInt)) (aI (G.2.1 (F a 10)) (10 * p0.toInt + 1)) (p1.toInt) 0) (rgq (mw (G.2.1 p2) (p3.toInt)) (aI (G.2.1 (F a 10)) (10 * p0.toInt + 1)) (aI (G.2.1 (F a 10)) (10 * p0.toInt + 2)) (p1.toInt) (30 - l6_6.toInt) (cel (mw (G.2.1 p2) (p3.toInt)) (aI (G.2.1 (F a 10)) (10 * p0.toInt + 1)) (l5_6.toInt) (aI (G.2.1 (F a 10)) (10 * p0.toInt + 2)))) (rgq (mw (G.2.1 p2) (p3.toInt)) (aI (G.2.1 (F a 10)) (10 * p0.toInt + 1)) (aI (G.2.1 (F a 10)) (10 * p0.toInt + 2)) (p1.toInt) 30 (cel (mw (G.2.1 p2) (p3.toInt)) (aI (G.2.1 (F a 10)) (10 * p0.toInt + 1)) (p1.toInt) (aI (G.2.1 (F a 10)) (10 * p0.toInt + 2)))) e1 I6_2 z29 (z29a).2.1 I56_0 c71 z74 c90)⟩ hh
              · refine lv_iconst (v := 1) hx hb dX11_isRing_93 (by decide) ?_
                refine lv_goto (tgt := 98) hx hb dX11_isRing_94 (by decide) ?_
                exact x_rz hx hb hr (xnz (Or.inr rfl)) hlk hQ (Nat.le_of_ble_eq_true rfl) (Nat.le_of_ble_eq_true rfl) hS dX11_isRing_98 () ⟨_, rfl, (Or.inr rfl), (z_X11_isRing_21 k_56.toInt p1.toInt (aI (G.2.1 p2) (p3.toInt + 4 * (30 * (aI (G.2.1 (F a 10)) (10 * p0.toInt + 1)) + l5_6.toInt) + 1 + (aI (G.2.1 (F a 10)) (10 * p0.toInt + 2)))) (aI (G.2.1 p2) (p3.toInt + 4 * (30 * (aI (G.2.1 (F a 10)) (10 * p0.toInt + 1)) + l5_6.toInt))) (aI (G.2.1 p2) (p3.toInt + 4 * (30 * (aI (G.2.1 (F a 10)) (10 * p0.toInt + 1)) + p1.toInt) + 1 + 0)) (aI (G.2.1 p2) (p3.toInt + 4 * (30 * (aI (G.2.1 (F a 10)) (10 * p0.toInt + 1)) + p1.toInt))) (cel (mw (G.2.1 p2) (p3.toInt)) (aI (G.2.1 (F a 10)) (10 * p0.toInt + 1)) (l5_6.toInt) (aI (G.2.1 (F a 10)) (10 * p0.toInt + 2))) (cel (mw (G.2.1 p2) (p3.toInt)) (aI (G.2.1 (F a 10)) (10 * p0.toInt + 1)) (p1.toInt) 0) (rgq (mw (G.2.1 p2) (p3.toInt)) (aI (G.2.1 (F a 10)) (10 * p0.toInt + 1)) (aI (G.2.1 (F a 10)) (10 * p0.toInt + 2)) (p1.toInt) (30 - l6_6.toInt) (cel (mw (G.2.1 p2) (p3.toInt)) (aI (G.2.1 (F a 10)) (10 * p0.toInt + 1)) (l5_6.toInt) (aI (G.2.1 (F a 10)) (10 * p0.toInt + 2)))) (rgq (mw (G.2.1 p2) (p3.toInt)) (aI (G.2.1 (F a 10)) (10 * p0.toInt + 1)) (aI (G.2.1 (F a 10)) (10 * p0.toInt + 2)) (p1.toInt) 30 (cel (mw (G.2.1 p2) (p3.toInt)) (aI (G.2.1 (F a 10)) (10 * p0.toInt + 1)) (p1.toInt) (aI (G.2.1 (F a 10)) (10 * p0.toInt + 2)))) e1 I6_2 z29 (z29a).2.1 I56_0 c71 z74 c90)⟩ hh
          · refine lv_iconst (v := 0) hx hb dX11_isRing_66 (by decide) ?_
            exact x_rz hx hb hr (xnz (Or.inl rfl)) hlk hQ (Nat.le_of_ble_eq_true rfl) (Nat.le_of_ble_eq_true rfl) hS dX11_isRing_67 () ⟨_, rfl, (Or.inl rfl), (z_X11_isRing_22 k_56.toInt x60.toInt (aI (G.2.1 p2) (p3.toInt + 4 * (30 * (aI (G.2.1 (F a 10)) (10 * p0.toInt + 1)) + l5_6.toInt) + 1 + (aI (G.2.1 (F a 10)) (10 * p0.toInt + 2)))) (aI (G.2.1 p2) (p3.toInt + 4 * (30 * (aI (G.2.1 (F a 10)) (10 * p0.toInt + 1)) + l5_6.toInt))) (cel (mw (G.2.1 p2) (p3.toInt)) (aI (G.2.1 (F a 10)) (10 * p0.toInt + 1)) (l5_6.toInt) (aI (G.2.1 (F a 10)) (10 * p0.toInt + 2))) (rgq (mw (G.2.1 p2) (p3.toInt)) (aI (G.2.1 (F a 10)) (10 * p0.toInt + 1)) (aI (G.2.1 (F a 10)) (10 * p0.toInt + 2)) (p1.toInt) (30 - l6_6.toInt) (cel (mw (G.2.1 p2) (p3.toInt)) (aI (G.2.1 (F a 10)) (10 * p0.toInt + 1)) (l5_6.toInt) (aI (G.2.1 (F a 10)) (10 * p0.toInt + 2)))) (rgq (mw (G.2.1 p2) (p3.toInt)) (aI (G.2.1 (F a 10)) (10 * p0.toInt + 1)) (aI (G.2.1 (F a 10)) (10 * p0.toInt + 2)) (p1.toInt) 30 (cel (mw (G.2.1 p2) (p3.toInt)) (aI (G.2.1 (F a 10)) (10 * p0.toInt + 1)) (p1.toInt) (aI (G.2.1 (F a 10)) (10 * p0.toInt + 2)))) I6_2 z29 (z29a).1 I56_0 t60 c63)⟩ hh
        refine xi_cne (tgt := 53) hx hb (hv32 : Int32.toInt x32 = (aI (G.2.1 p2) (p3.toInt + 4 * (30 * (aI (G.2.1 (F a 10)) (10 * p0.toInt + 1)) + l5_6.toInt)))) ((by decide) : Int32.toInt 1 = (1 : Int)) dX11_isRing_34 (by decide) (fun c34 => ?_) (fun c34 => ?_)
        · refine lv_sipush (v := (-1000)) hx hb dX11_isRing_53 (by decide) ?_
          exact J56 (-1000) _ _ (by rw [((by decide) : Int32.toInt (-1000) = (-1000 : Int))] <;> exact (z_X11_isRing_23 (aI (G.2.1 p2) (p3.toInt + 4 * (30 * (aI (G.2.1 (F a 10)) (10 * p0.toInt + 1)) + l5_6.toInt) + 1 + (aI (G.2.1 (F a 10)) (10 * p0.toInt + 2)))) (aI (G.2.1 p2) (p3.toInt + 4 * (30 * (aI (G.2.1 (F a 10)) (10 * p0.toInt + 1)) + l5_6.toInt))) c34)) hT hS (lv_sub hl [1, 2, 3, 4, 5, 7] rfl)
        · refine lv_aload_n hx hb dX11_isRing_37 rfl (lv_at hl 4 rfl) ?_
          refine lv_iload hx hb dX11_isRing_38 (lv_at hl 0 rfl) ?_
          refine lv_iconst (v := 1) hx hb dX11_isRing_40 (by decide) ?_
          refine xi_iadd hx hb (rfl : Int32.toInt x26 = x26.toInt) ((by decide) : Int32.toInt 1 = (1 : Int)) dX11_isRing_41 (fun x41 t41 => ?_)
          refine lv_aload_n hx hb dX11_isRing_42 rfl (lv_at hl 1 rfl) ?_
          refine lv_iload_n hx hb dX11_isRing_43 rfl (lv_at hl 2 rfl) ?_
          refine lv_iconst (v := 2) hx hb dX11_isRing_44 (by decide) ?_
          refine x_clp (x_runV (b := a) (As := [.int p0, .int 2]) (rest := [.int x41, .ref p2]) S (c_X11_of l E K F G s.heap a p0 2 ha (e0) (by decide)) mv_X11_of km_X11_165 rfl rfl ⟨Nat.le_of_ble_eq_true rfl, Nat.le_of_ble_eq_true rfl⟩ (rc_13 hK hT ha) hK (fun _ => XPh.blind) (fun U hU hW => XPh.at hK hz hS hT hU hW) rfl hl.1 (Nat.le_of_ble_eq_true rfl) dX11_isRing_45 ⟨Nat.le_of_ble_eq_true rfl, Nat.le_of_ble_eq_true rfl⟩) hS ?_
          rintro _ _ locs ⟨x45, rfl, t45⟩ hS
          have t45 : x45.toInt = (aI (G.2.1 (F a 10)) (10 * p0.toInt + 2)) := t45
          refine xi_iadd hx hb (rfl : Int32.toInt x41 = x41.toInt) (t45 : Int32.toInt x45 = (aI (G.2.1 (F a 10)) (10 * p0.toInt + 2))) dX11_isRing_48 (fun x48 t48 => ?_)
          refine ald_of S hK hT hp2 (z_X11_isRing_25 l5_6.toInt p3.toInt x23.toInt x26.toInt x41.toInt x48.toInt (aI (G.2.1 (F a 10)) (10 * p0.toInt + 1)) (aI (G.2.1 (F a 10)) (10 * p0.toInt + 2)) (XO.lim hp2) (z0).2.1 (z0).2.2.1 I6_0 t23 t26 t41 t48) dX11_isRing_49 (fun x49 hv49 => ?_)
          have hv49 : x49.toInt = (aI (G.2.1 p2) (p3.toInt + 4 * (30 * (aI (G.2.1 (F a 10)) (10 * p0.toInt + 1)) + l5_6.toInt) + 1 + (aI (G.2.1 (F a 10)) (10 * p0.toInt + 2)))) := hv49.trans (by rw [((rfl : Int32.toInt x48 = x48.toInt).trans (z_X11_isRing_26 l5_6.toInt p3.toInt x23.toInt x26.toInt x41.toInt x48.toInt (aI (G.2.1 (F a 10)) (10 * p0.toInt + 1)) (aI (G.2.1 (F a 10)) (10 * p0.toInt + 2)) (XO.lim hp2) (z0).2.1 (z0).2.2.1 I6_0 t23 t26 t41 t48))])
          refine lv_goto (tgt := 56) hx hb dX11_isRing_50 (by decide) ?_
          exact J56 x49 _ _ (by rw [(hv49 : Int32.toInt x49 = (aI (G.2.1 p2) (p3.toInt + 4 * (30 * (aI (G.2.1 (F a 10)) (10 * p0.toInt + 1)) + l5_6.toInt) + 1 + (aI (G.2.1 (F a 10)) (10 * p0.toInt + 2)))))] <;> exact (z_X11_isRing_27 (aI (G.2.1 p2) (p3.toInt + 4 * (30 * (aI (G.2.1 (F a 10)) (10 * p0.toInt + 1)) + l5_6.toInt) + 1 + (aI (G.2.1 (F a 10)) (10 * p0.toInt + 2)))) (aI (G.2.1 p2) (p3.toInt + 4 * (30 * (aI (G.2.1 (F a 10)) (10 * p0.toInt + 1)) + l5_6.toInt))) c34)) hT hS (lv_sub hl [1, 2, 3, 4, 5, 7] rfl)
  exact L6 4294967297 p1 0 _ _ (e1) (by decide) (z4) (by decide) (by decide) hT hS (lv_sub hl [2, 3, 4, 5, 6, 1, 0] rfl)

theorem z_X11_fails_8 (a0 : Int) : (a0 < 0 ∨ 3 < a0) ∨ (a0 = 0) ∨ (a0 = 1) ∨ (a0 = 2) ∨ (a0 = 3) := by omega
theorem z_X11_fails_9 (a0 : Int) (a1 : Int) (a2 : Int) (a3 : Int) (a4 : Int) (a5 : Int) (a6 : Int) (a7 : Int) (h0 : a1 ≠ -1) (h1 : -1 ≤ a1 ∧ a1 ≤ 5) (h2 : a1 ≠ (5 : Int)) (h3 : a1 < 0 ∨ 3 < a1) (h4 : a1 = 4 → ((a7 % 2 = 1 ∧ (a7 / 2 < a2 ∨ a3 < a7 / 2)) ∧ a5 = 1) ∨ (¬ (a7 % 2 = 1 ∧ (a7 / 2 < a2 ∨ a3 < a7 / 2)) ∧ a5 = 0)) (h5 : a1 = 1 ∨ a1 = 4 → (a4 = -2000 ∧ a7 = 2 * a6) ∨ (a4 ≠ -2000 ∧ a7 = 2 * a6 + 1)) (h6 : 0 ≤ a6 ∧ a6 ≤ 30) (h7 : 0 ≤ a7 → a0 = a7 % (2 : Int)) (h8 : a0 ≠ (1 : Int)) : (0 : Int) = a5 := by omega
theorem z_X11_fails_12 (a0 : Int) (a1 : Int) (a2 : Int) (a3 : Int) (a4 : Int) (a5 : Int) (a6 : Int) (a7 : Int) (a8 : Int) (h0 : a2 ≠ -1) (h1 : -1 ≤ a2 ∧ a2 ≤ 5) (h2 : a2 ≠ (5 : Int)) (h3 : a2 < 0 ∨ 3 < a2) (h4 : a2 = 4 → ((a8 % 2 = 1 ∧ (a8 / 2 < a3 ∨ a4 < a8 / 2)) ∧ a6 = 1) ∨ (¬ (a8 % 2 = 1 ∧ (a8 / 2 < a3 ∨ a4 < a8 / 2)) ∧ a6 = 0)) (h5 : a2 = 1 ∨ a2 = 4 → (a5 = -2000 ∧ a8 = 2 * a7) ∨ (a5 ≠ -2000 ∧ a8 = 2 * a7 + 1)) (h6 : 0 ≤ a7 ∧ a7 ≤ 30) (h7 : 0 ≤ a8 → a0 = a8 / (2 : Int)) (h8 : (a1 = 1 ∧ a3 ≤ a0 ∧ a0 ≤ a4) ∨ (a1 = 0 ∧ (a0 < a3 ∨ a4 < a0))) (h9 : a1 ≠ 0) : (0 : Int) = a6 := by omega
theorem z_X11_fails_13 (a0 : Int) (a1 : Int) (a2 : Int) (a3 : Int) (a4 : Int) (a5 : Int) (a6 : Int) (a7 : Int) (a8 : Int) (a9 : Int) (h0 : a3 ≠ -1) (h1 : -1 ≤ a3 ∧ a3 ≤ 5) (h2 : a3 ≠ (5 : Int)) (h3 : a3 < 0 ∨ 3 < a3) (h4 : a3 = 4 → ((a9 % 2 = 1 ∧ (a9 / 2 < a4 ∨ a5 < a9 / 2)) ∧ a7 = 1) ∨ (¬ (a9 % 2 = 1 ∧ (a9 / 2 < a4 ∨ a5 < a9 / 2)) ∧ a7 = 0)) (h5 : a3 = 1 ∨ a3 = 4 → (a6 = -2000 ∧ a9 = 2 * a8) ∨ (a6 ≠ -2000 ∧ a9 = 2 * a8 + 1)) (h6 : 0 ≤ a8 ∧ a8 ≤ 30) (h7 : 0 ≤ a9 → a0 = a9 % (2 : Int)) (h8 : ¬ (a0 ≠ (1 : Int))) (h9 : 0 ≤ a9 → a1 = a9 / (2 : Int)) (h10 : (a2 = 1 ∧ a4 ≤ a1 ∧ a1 ≤ a5) ∨ (a2 = 0 ∧ (a1 < a4 ∨ a5 < a1))) (h11 : ¬ (a2 ≠ 0)) : (1 : Int) = a7 := by omega
theorem z_X11_fails_14 (a0 : Int) (a1 : Int) (a2 : Int) (h0 : a0 = 0) (h1 : a0 = 0 → (1 < a2 ∧ a1 = 1) ∨ (¬ (1 < a2) ∧ a1 = 0)) (h2 : a2 ≤ (1 : Int)) : (0 : Int) = a1 := by omega
theorem z_X11_fails_15 (a0 : Int) (a1 : Int) (a2 : Int) (h0 : a0 = 0) (h1 : a0 = 0 → (1 < a2 ∧ a1 = 1) ∨ (¬ (1 < a2) ∧ a1 = 0)) (h2 : ¬ (a2 ≤ (1 : Int))) : (1 : Int) = a1 := by omega
theorem z_X11_fails_16 (a0 : Int) (a1 : Int) (a2 : Int) (h0 : a0 = 1) (h1 : a0 = 1 → (1 < a2 ∧ a2 % 2 = 0 ∧ a1 = 1) ∨ (¬ (1 < a2 ∧ a2 % 2 = 0) ∧ a1 = 0)) (h2 : a2 ≤ 0) : (0 : Int) = a1 := by omega
theorem z_X11_fails_17 (a0 : Int) (a1 : Int) (a2 : Int) (a3 : Int) (h0 : a1 = 1) (h1 : a1 = 1 → (1 < a3 ∧ a3 % 2 = 0 ∧ a2 = 1) ∨ (¬ (1 < a3 ∧ a3 % 2 = 0) ∧ a2 = 0)) (h2 : 0 ≤ a3 → a0 = a3 % (2 : Int)) (h3 : a0 ≠ 0) : (0 : Int) = a2 := by omega
theorem z_X11_fails_18 (a0 : Int) (a1 : Int) (a2 : Int) (a3 : Int) (a4 : Int) (a5 : Int) (a6 : Int) (a7 : Int) (a8 : Int) (a9 : Int) (a10 : Int) (a11 : Int) (a12 : Int) (a13 : Int) (a14 : Int) (h0 : a3 ≠ -1) (h1 : a11 ≤ a0 ∧ a0 ≤ a12) (h2 : -1 ≤ a3 ∧ a3 ≤ 5) (h3 : -1 ≤ a4 ∧ a4 ≤ 2) (h4 : a3 = 1 ∨ a3 = 3 ∨ a3 = 4 → 0 ≤ a4) (h5 : ((a3 = 2 ∨ a3 = 4 ∨ a3 = 5) ∧ a11 = 0 ∧ a12 = 29) ∨ (¬ (a3 = 2 ∨ a3 = 4 ∨ a3 = 5) ∧ a11 = -99 ∧ a12 = 99)) (h6 : a3 ≠ (5 : Int)) (h7 : (a2 = 1 ∧ a5 ≤ a14 ∧ a14 ≤ a6) ∨ (a2 = 0 ∧ (a14 < a5 ∨ a6 < a14))) (h8 : a3 = 1) (h9 : a3 = 1 → (1 < a14 ∧ a14 % 2 = 0 ∧ a9 = 1) ∨ (¬ (1 < a14 ∧ a14 % 2 = 0) ∧ a9 = 0)) (h10 : a3 = 0 → a14 = a10) (h11 : a3 = 1 ∨ a3 = 4 → (a8 = -2000 ∧ a14 = 2 * a10) ∨ (a8 ≠ -2000 ∧ a14 = 2 * a10 + 1)) (h12 : a3 = 3 → (a10 = 0 ∧ a14 = 100000) ∨ (a10 ≠ 0 ∧ a14 = a13)) (h13 : a3 = 2 ∨ a3 = 5 → a14 = a7) (h14 : 0 ≤ a10 ∧ a10 ≤ 30) (h15 : ¬ (a14 ≤ 0)) (h16 : 0 ≤ a14 → a1 = a14 % (2 : Int)) (h17 : ¬ (a1 ≠ 0)) (r0 : -2147483648 ≤ a0 ∧ a0 < 2147483648) (r1 : -2147483648 ≤ a1 ∧ a1 < 2147483648) (r2 : -2147483648 ≤ a2 ∧ a2 < 2147483648) (r3 : -2147483648 ≤ a3 ∧ a3 < 2147483648) (r4 : -2147483648 ≤ a4 ∧ a4 < 2147483648) (r5 : -2147483648 ≤ a5 ∧ a5 < 2147483648) (r6 : -2147483648 ≤ a6 ∧ a6 < 2147483648) : (1 : Int) = a9 := by first | (clear h0 h4 h5 h6 h7 h10 h11 h12 h13 h16 h17; omega) | (clear h17; omega) | omega
theorem z_X11_fails_19 (a0 : Int) (a1 : Int) (a2 : Int) (a3 : Int) (a4 : Int) (h0 : a0 = 2) (h1 : a0 = 2 → ((a4 ≠ -2000 ∧ a4 ≠ -1000 ∧ (a4 < a1 ∨ a2 < a4)) ∧ a3 = 1) ∨ (¬ (a4 ≠ -2000 ∧ a4 ≠ -1000 ∧ (a4 < a1 ∨ a2 < a4)) ∧ a3 = 0)) (h2 : a4 = (-1000 : Int)) : (0 : Int) = a3 := by omega
theorem z_X11_fails_20 (a0 : Int) (a1 : Int) (a2 : Int) (a3 : Int) (a4 : Int) (h0 : a0 = 2) (h1 : a0 = 2 → ((a4 ≠ -2000 ∧ a4 ≠ -1000 ∧ (a4 < a1 ∨ a2 < a4)) ∧ a3 = 1) ∨ (¬ (a4 ≠ -2000 ∧ a4 ≠ -1000 ∧ (a4 < a1 ∨ a2 < a4)) ∧ a3 = 0)) (h2 : a4 = (-2000 : Int)) : (0 : Int) = a3 := by omega
theorem z_X11_fails_21 (a0 : Int) (a1 : Int) (a2 : Int) (a3 : Int) (a4 : Int) (a5 : Int) (h0 : (a0 = 1 ∧ a2 ≤ a5 ∧ a5 ≤ a3) ∨ (a0 = 0 ∧ (a5 < a2 ∨ a3 < a5))) (h1 : a1 = 2) (h2 : a1 = 2 → ((a5 ≠ -2000 ∧ a5 ≠ -1000 ∧ (a5 < a2 ∨ a3 < a5)) ∧ a4 = 1) ∨ (¬ (a5 ≠ -2000 ∧ a5 ≠ -1000 ∧ (a5 < a2 ∨ a3 < a5)) ∧ a4 = 0)) (h3 : a0 ≠ 0) : (0 : Int) = a4 := by omega
theorem z_X11_fails_22 (a0 : Int) (a1 : Int) (a2 : Int) (a3 : Int) (a4 : Int) (a5 : Int) (h0 : (a0 = 1 ∧ a2 ≤ a5 ∧ a5 ≤ a3) ∨ (a0 = 0 ∧ (a5 < a2 ∨ a3 < a5))) (h1 : a1 = 2) (h2 : a1 = 2 → ((a5 ≠ -2000 ∧ a5 ≠ -1000 ∧ (a5 < a2 ∨ a3 < a5)) ∧ a4 = 1) ∨ (¬ (a5 ≠ -2000 ∧ a5 ≠ -1000 ∧ (a5 < a2 ∨ a3 < a5)) ∧ a4 = 0)) (h3 : ¬ (a5 = (-1000 : Int))) (h4 : ¬ (a5 = (-2000 : Int))) (h5 : ¬ (a0 ≠ 0)) : (1 : Int) = a4 := by omega
theorem z_X11_fails_23 (a0 : Int) (a1 : Int) (a2 : Int) (a3 : Int) (a4 : Int) (h0 : a0 = 3) (h1 : a0 = 3 → ((a4 ≠ 100000 ∧ (a4 < a1 ∨ a2 < a4)) ∧ a3 = 1) ∨ (¬ (a4 ≠ 100000 ∧ (a4 < a1 ∨ a2 < a4)) ∧ a3 = 0)) (h2 : a4 = (100000 : Int)) : (0 : Int) = a3 := by omega
theorem z_X11_fails_24 (a0 : Int) (a1 : Int) (a2 : Int) (a3 : Int) (a4 : Int) (a5 : Int) (h0 : (a0 = 1 ∧ a2 ≤ a5 ∧ a5 ≤ a3) ∨ (a0 = 0 ∧ (a5 < a2 ∨ a3 < a5))) (h1 : a1 = 3) (h2 : a1 = 3 → ((a5 ≠ 100000 ∧ (a5 < a2 ∨ a3 < a5)) ∧ a4 = 1) ∨ (¬ (a5 ≠ 100000 ∧ (a5 < a2 ∨ a3 < a5)) ∧ a4 = 0)) (h3 : a0 ≠ 0) : (0 : Int) = a4 := by omega
theorem z_X11_fails_25 (a0 : Int) (a1 : Int) (a2 : Int) (a3 : Int) (a4 : Int) (a5 : Int) (h0 : (a0 = 1 ∧ a2 ≤ a5 ∧ a5 ≤ a3) ∨ (a0 = 0 ∧ (a5 < a2 ∨ a3 < a5))) (h1 : a1 = 3) (h2 : a1 = 3 → ((a5 ≠ 100000 ∧ (a5 < a2 ∨ a3 < a5)) ∧ a4 = 1) ∨ (¬ (a5 ≠ 100000 ∧ (a5 < a2 ∨ a3 < a5)) ∧ a4 = 0)) (h3 : ¬ (a5 = (100000 : Int))) (h4 : ¬ (a0 ≠ 0)) : (1 : Int) = a4 := by omega
theorem z_X11_fails_27 (a0 : Int) (a1 : Int) (a2 : Int) (a3 : Int) (h0 : a2 ≤ a0 ∧ a0 ≤ a3) (h1 : ((a1 = 2 ∨ a1 = 4 ∨ a1 = 5) ∧ a2 = 0 ∧ a3 = 29) ∨ (¬ (a1 = 2 ∨ a1 = 4 ∨ a1 = 5) ∧ a2 = -99 ∧ a3 = 99)) (h2 : ¬ (a1 ≠ (5 : Int))) : 0 ≤ a0 ∧ a0 ≤ 29 := by omega
theorem z_X11_fails_28 (a0 : Int) (a1 : Int) (a2 : Int) (a3 : Int) (h0 : ¬ (a1 ≠ (5 : Int))) (h1 : a1 = 5 → a2 = a3) (h2 : a0 = a3) : a0 = a2 := by omega
abbrev rm_X11_fails : Room := { frames := 3, cells := 0, slots := 0, locals := 77 }
set_option maxHeartbeats 4000000 in
set_option maxRecDepth 100000 in
theorem c_X11_fails (l : Launch) (E : XE) (K : Nat → Nat) (F : Nat → Nat → Nat) (G : XG) (h0 : Heap) (a : Nat) (p0 : Int32) (p1 : Int32) (p2 : Nat) (p3 : Int32) (ha : K a = 13) (hp2 : XO K p2 p3.toInt) (e0 : 0 ≤ p0.toInt ∧ p0.toInt ≤ 11) (e1 : (aI (G.2.1 (F a 10)) (10 * p0.toInt + 0)) ≠ -1) (e2 : (sF (aI (G.2.1 (F a 10)) (10 * p0.toInt + 0))) ≤ p1.toInt ∧ p1.toInt ≤ (sL (aI (G.2.1 (F a 10)) (10 * p0.toInt + 0)))) (hR : RV (G.2.1 (F a 10))) (hM : RM (G.2.1 p2) (p3.toInt)) : Met l yX11_fails (xw yX11_fails cX11_fails 8 (some .boolean)) rm_X11_fails (va_Pc [.ref a, .int p0, .int p1, .ref p2, .int p3] (XPh E K F G h0)) (XQ E (fun v (u : Unit) => ∃ r : Int32, v = .int r ∧ (r = 0 ∨ r = 1) ∧ (r.toInt = (flq (mw (G.2.1 p2) (p3.toInt)) (aI (G.2.1 (F a 10)) (10 * p0.toInt + 0)) (aI (G.2.1 (F a 10)) (10 * p0.toInt + 1)) (aI (G.2.1 (F a 10)) (10 * p0.toInt + 2)) (aI (G.2.1 (F a 10)) (10 * p0.toInt + 4)) (aI (G.2.1 (F a 10)) (10 * p0.toInt + 5)) (p1.toInt) (stt (mw (G.2.1 p2) (p3.toInt)) (aI (G.2.1 (F a 10)) (10 * p0.toInt + 0)) (aI (G.2.1 (F a 10)) (10 * p0.toInt + 1)) (aI (G.2.1 (F a 10)) (10 * p0.toInt + 2)) (aI (G.2.1 (F a 10)) (10 * p0.toInt + 3)) (p1.toInt))))) (fun _ H => H = h0)) 0 0 (xA E) := by
  refine x_enter (by decide) (Nat.le_of_ble_eq_true rfl) ?_
  intro p e s m args below meth c Q S hr hlk hnm hQ hP ls hl
  obtain ⟨⟨hz, hK, hT⟩, hh⟩ := hP
  obtain ⟨hx, hb, -, -, -⟩ := id S
  have hS : va_S (xA E) s.heap s.heap [] := va_S.rf
  have hl : lv_has ls 8 [(0, .ref a), (1, .int p0), (2, .int p1), (3, .ref p2), (4, .int p3)] := hl
  obtain ⟨hk9999, hj9999⟩ := fkX11_10 hT ha
  have z0 : (-1 ≤ (aI (G.2.1 (F a 10)) (10 * p0.toInt + 0)) ∧ (aI (G.2.1 (F a 10)) (10 * p0.toInt + 0)) ≤ 5) ∧ (0 ≤ (aI (G.2.1 (F a 10)) (10 * p0.toInt + 1)) ∧ (aI (G.2.1 (F a 10)) (10 * p0.toInt + 1)) ≤ 2) ∧ (0 ≤ (aI (G.2.1 (F a 10)) (10 * p0.toInt + 2)) ∧ (aI (G.2.1 (F a 10)) (10 * p0.toInt + 2)) ≤ 2) ∧ (-1 ≤ (aI (G.2.1 (F a 10)) (10 * p0.toInt + 3)) ∧ (aI (G.2.1 (F a 10)) (10 * p0.toInt + 3)) ≤ 2) ∧ ((aI (G.2.1 (F a 10)) (10 * p0.toInt + 0)) = 1 ∨ (aI (G.2.1 (F a 10)) (10 * p0.toInt + 0)) = 3 ∨ (aI (G.2.1 (F a 10)) (10 * p0.toInt + 0)) = 4 → 0 ≤ (aI (G.2.1 (F a 10)) (10 * p0.toInt + 3))) := RV.row hR (e0)
  have z0a : (((aI (G.2.1 (F a 10)) (10 * p0.toInt + 0)) = 2 ∨ (aI (G.2.1 (F a 10)) (10 * p0.toInt + 0)) = 4 ∨ (aI (G.2.1 (F a 10)) (10 * p0.toInt + 0)) = 5) ∧ (sF (aI (G.2.1 (F a 10)) (10 * p0.toInt + 0))) = 0 ∧ (sL (aI (G.2.1 (F a 10)) (10 * p0.toInt + 0))) = 29) ∨ (¬ ((aI (G.2.1 (F a 10)) (10 * p0.toInt + 0)) = 2 ∨ (aI (G.2.1 (F a 10)) (10 * p0.toInt + 0)) = 4 ∨ (aI (G.2.1 (F a 10)) (10 * p0.toInt + 0)) = 5) ∧ (sF (aI (G.2.1 (F a 10)) (10 * p0.toInt + 0))) = -99 ∧ (sL (aI (G.2.1 (F a 10)) (10 * p0.toInt + 0))) = 99) := sFL _
  refine lv_aload_n hx hb dX11_fails_0 rfl (lv_at hl 0 rfl) ?_
  refine lv_iload_n hx hb dX11_fails_1 rfl (lv_at hl 1 rfl) ?_
  refine lv_iconst (v := 0) hx hb dX11_fails_2 (by decide) ?_
  refine x_clp (x_runV (b := a) (As := [.int p0, .int 0]) (rest := []) S (c_X11_of l E K F G s.heap a p0 0 ha (e0) (by decide)) mv_X11_of km_X11_165 rfl rfl ⟨Nat.le_of_ble_eq_true rfl, Nat.le_of_ble_eq_true rfl⟩ (rc_13 hK hT ha) hK (fun _ => XPh.blind) (fun U hU hW => XPh.at hK hz hS hT hU hW) rfl hl.1 (Nat.le_of_ble_eq_true rfl) dX11_fails_3 ⟨Nat.le_of_ble_eq_true rfl, Nat.le_of_ble_eq_true rfl⟩) hS ?_
  rintro _ _ locs ⟨x3, rfl, t3⟩ hS
  have t3 : x3.toInt = (aI (G.2.1 (F a 10)) (10 * p0.toInt + 0)) := t3
  refine lv_istore (lv' := [(5, .int x3), (0, .ref a), (1, .int p0), (2, .int p1), (3, .ref p2), (4, .int p3)]) hx hb dX11_fails_6 hl (by decide) rfl (fun ls hl => ?_)
  refine lv_iload hx hb dX11_fails_8 (lv_at hl 0 rfl) ?_
  refine lv_iconst (v := 5) hx hb dX11_fails_10 (by decide) ?_
  refine xi_cne (tgt := 24) hx hb (t3 : Int32.toInt x3 = (aI (G.2.1 (F a 10)) (10 * p0.toInt + 0))) ((by decide) : Int32.toInt 5 = (5 : Int)) dX11_fails_11 (by decide) (fun c11 => ?_) (fun c11 => ?_)
  · refine lv_aload_n hx hb dX11_fails_24 rfl (lv_at hl 1 rfl) ?_
    refine lv_iload_n hx hb dX11_fails_25 rfl (lv_at hl 2 rfl) ?_
    refine lv_iload_n hx hb dX11_fails_26 rfl (lv_at hl 3 rfl) ?_
    refine lv_aload_n hx hb dX11_fails_27 rfl (lv_at hl 4 rfl) ?_
    refine lv_iload hx hb dX11_fails_28 (lv_at hl 5 rfl) ?_
    refine x_clp (x_runV (b := a) (As := [.int p0, .int p1, .ref p2, .int p3]) (rest := []) S (c_X11_stateOf l E K F G s.heap a p0 p1 p2 p3 ha hp2 (e0) (e1) (e2) (v_X11_fails_30_1 a G hR) (v_X11_fails_30_2 G p2 p3 hM)) mv_X11_stateOf km_X11_189 rfl rfl ⟨Nat.le_of_ble_eq_true rfl, Nat.le_of_ble_eq_true rfl⟩ (rc_13 hK hT ha) hK (fun _ => XPh.blind) (fun U hU hW => XPh.at hK hz hS hT hU hW) rfl hl.1 (Nat.le_of_ble_eq_true rfl) dX11_fails_30 ⟨Nat.le_of_ble_eq_true rfl, Nat.le_of_ble_eq_true rfl⟩) hS ?_
    rintro _ _ locs ⟨x30, rfl, t30⟩ hS
    have t30 : x30.toInt = (stt (mw (G.2.1 p2) (p3.toInt)) (aI (G.2.1 (F a 10)) (10 * p0.toInt + 0)) (aI (G.2.1 (F a 10)) (10 * p0.toInt + 1)) (aI (G.2.1 (F a 10)) (10 * p0.toInt + 2)) (aI (G.2.1 (F a 10)) (10 * p0.toInt + 3)) (p1.toInt)) := t30
    refine lv_istore (lv' := [(6, .int x30), (5, .int x3), (0, .ref a), (1, .int p0), (2, .int p1), (3, .ref p2), (4, .int p3)]) hx hb dX11_fails_33 hl (by decide) rfl (fun ls hl => ?_)
    refine lv_iload hx hb dX11_fails_35 (lv_at hl 0 rfl) ?_
    refine lv_i2l (v := x30.toInt64) hx hb dX11_fails_37 rfl ?_
    refine lv_aload_n hx hb dX11_fails_38 rfl (lv_at hl 2 rfl) ?_
    refine lv_iload_n hx hb dX11_fails_39 rfl (lv_at hl 3 rfl) ?_
    refine lv_iconst (v := 4) hx hb dX11_fails_40 (by decide) ?_
    refine x_clp (x_runV (b := a) (As := [.int p0, .int 4]) (rest := [.long x30.toInt64]) S (c_X11_of l E K F G s.heap a p0 4 ha (e0) (by decide)) mv_X11_of km_X11_165 rfl rfl ⟨Nat.le_of_ble_eq_true rfl, Nat.le_of_ble_eq_true rfl⟩ (rc_13 hK hT ha) hK (fun _ => XPh.blind) (fun U hU hW => XPh.at hK hz hS hT hU hW) rfl hl.1 (Nat.le_of_ble_eq_true rfl) dX11_fails_41 ⟨Nat.le_of_ble_eq_true rfl, Nat.le_of_ble_eq_true rfl⟩) hS ?_
    rintro _ _ locs ⟨x41, rfl, t41⟩ hS
    have t41 : x41.toInt = (aI (G.2.1 (F a 10)) (10 * p0.toInt + 4)) := t41
    refine lv_i2l (v := x41.toInt64) hx hb dX11_fails_44 rfl ?_
    refine lv_aload_n hx hb dX11_fails_45 rfl (lv_at hl 2 rfl) ?_
    refine lv_iload_n hx hb dX11_fails_46 rfl (lv_at hl 3 rfl) ?_
    refine lv_iconst (v := 5) hx hb dX11_fails_47 (by decide) ?_
    refine x_clp (x_runV (b := a) (As := [.int p0, .int 5]) (rest := [.long x41.toInt64, .long x30.toInt64]) S (c_X11_of l E K F G s.heap a p0 5 ha (e0) (by decide)) mv_X11_of km_X11_165 rfl rfl ⟨Nat.le_of_ble_eq_true rfl, Nat.le_of_ble_eq_true rfl⟩ (rc_13 hK hT ha) hK (fun _ => XPh.blind) (fun U hU hW => XPh.at hK hz hS hT hU hW) rfl hl.1 (Nat.le_of_ble_eq_true rfl) dX11_fails_48 ⟨Nat.le_of_ble_eq_true rfl, Nat.le_of_ble_eq_true rfl⟩) hS ?_
    rintro _ _ locs ⟨x48, rfl, t48⟩ hS
    have t48 : x48.toInt = (aI (G.2.1 (F a 10)) (10 * p0.toInt + 5)) := t48
    refine lv_i2l (v := x48.toInt64) hx hb dX11_fails_51 rfl ?_
    refine x_clp (x_runS (As := [.long x30.toInt64, .long x41.toInt64, .long x48.toInt64]) (rest := []) S (c_X11_in l E K F G s.heap x30.toInt64 ((stt (mw (G.2.1 p2) (p3.toInt)) (aI (G.2.1 (F a 10)) (10 * p0.toInt + 0)) (aI (G.2.1 (F a 10)) (10 * p0.toInt + 1)) (aI (G.2.1 (F a 10)) (10 * p0.toInt + 2)) (aI (G.2.1 (F a 10)) (10 * p0.toInt + 3)) (p1.toInt))) x41.toInt64 ((aI (G.2.1 (F a 10)) (10 * p0.toInt + 4))) x48.toInt64 ((aI (G.2.1 (F a 10)) (10 * p0.toInt + 5))) (xl_i2l (t30 : Int32.toInt x30 = (stt (mw (G.2.1 p2) (p3.toInt)) (aI (G.2.1 (F a 10)) (10 * p0.toInt + 0)) (aI (G.2.1 (F a 10)) (10 * p0.toInt + 1)) (aI (G.2.1 (F a 10)) (10 * p0.toInt + 2)) (aI (G.2.1 (F a 10)) (10 * p0.toInt + 3)) (p1.toInt)))) (xl_i2l (t41 : Int32.toInt x41 = (aI (G.2.1 (F a 10)) (10 * p0.toInt + 4)))) (xl_i2l (t48 : Int32.toInt x48 = (aI (G.2.1 (F a 10)) (10 * p0.toInt + 5))))) ms_X11_in km_X11_139 rfl rfl ⟨Nat.le_of_ble_eq_true rfl, Nat.le_of_ble_eq_true rfl⟩ hK (fun _ => XPh.blind) (fun U hU hW => XPh.at hK hz hS hT hU hW) rfl hl.1 (Nat.le_of_ble_eq_true rfl) dX11_fails_52 ⟨Nat.le_of_ble_eq_true rfl, Nat.le_of_ble_eq_true rfl⟩) hS ?_
    rintro _ _ locs ⟨x52, rfl, b52, t52⟩ hS
    have t52 : (x52.toInt = 1 ∧ (aI (G.2.1 (F a 10)) (10 * p0.toInt + 4)) ≤ (stt (mw (G.2.1 p2) (p3.toInt)) (aI (G.2.1 (F a 10)) (10 * p0.toInt + 0)) (aI (G.2.1 (F a 10)) (10 * p0.toInt + 1)) (aI (G.2.1 (F a 10)) (10 * p0.toInt + 2)) (aI (G.2.1 (F a 10)) (10 * p0.toInt + 3)) (p1.toInt)) ∧ (stt (mw (G.2.1 p2) (p3.toInt)) (aI (G.2.1 (F a 10)) (10 * p0.toInt + 0)) (aI (G.2.1 (F a 10)) (10 * p0.toInt + 1)) (aI (G.2.1 (F a 10)) (10 * p0.toInt + 2)) (aI (G.2.1 (F a 10)) (10 * p0.toInt + 3)) (p1.toInt)) ≤ (aI (G.2.1 (F a 10)) (10 * p0.toInt + 5))) ∨ (x52.toInt = 0 ∧ ((stt (mw (G.2.1 p2) (p3.toInt)) (aI (G.2.1 (F a 10)) (10 * p0.toInt + 0)) (aI (G.2.1 (F a 10)) (10 * p0.toInt + 1)) (aI (G.2.1 (F a 10)) (10 * p0.toInt + 2)) (aI (G.2.1 (F a 10)) (10 * p0.toInt + 3)) (p1.toInt)) < (aI (G.2.1 (F a 10)) (10 * p0.toInt + 4)) ∨ (aI (G.2.1 (F a 10)) (10 * p0.toInt + 5)) < (stt (mw (G.2.1 p2) (p3.toInt)) (aI (G.2.1 (F a 10)) (10 * p0.toInt + 0)) (aI (G.2.1 (F a 10)) (10 * p0.toInt + 1)) (aI (G.2.1 (F a 10)) (10 * p0.toInt + 2)) (aI (G.2.1 (F a 10)) (10 * p0.toInt + 3)) (p1.toInt)))) := t52
    refine lv_istore (lv' := [(7, .int x52), (6, .int x30), (5, .int x3), (0, .ref a), (1, .int p0), (2, .int p1), (3, .ref p2), (4, .int p3)]) hx hb dX11_fails_55 hl (by decide) rfl (fun ls hl => ?_)
    refine lv_iload hx hb dX11_fails_57 (lv_at hl 2 rfl) ?_
    rcases ((z_X11_fails_8 (aI (G.2.1 (F a 10)) (10 * p0.toInt + 0))) : ((aI (G.2.1 (F a 10)) (10 * p0.toInt + 0)) < 0 ∨ 3 < (aI (G.2.1 (F a 10)) (10 * p0.toInt + 0))) ∨ ((aI (G.2.1 (F a 10)) (10 * p0.toInt + 0)) = 0) ∨ ((aI (G.2.1 (F a 10)) (10 * p0.toInt + 0)) = 1) ∨ ((aI (G.2.1 (F a 10)) (10 * p0.toInt + 0)) = 2) ∨ ((aI (G.2.1 (F a 10)) (10 * p0.toInt + 0)) = 3)) with c59 | c59 | c59 | c59 | c59
    · refine lv_tableOut (tgt := 163) hx hb dX11_fails_59 (by rw [(t3 : Int32.toInt x3 = (aI (G.2.1 (F a 10)) (10 * p0.toInt + 0)))]; exact c59) (by decide) ?_
      have z163 : (aI (G.2.1 (F a 10)) (10 * p0.toInt + 0)) = 4 → (((stt (mw (G.2.1 p2) (p3.toInt)) (aI (G.2.1 (F a 10)) (10 * p0.toInt + 0)) (aI (G.2.1 (F a 10)) (10 * p0.toInt + 1)) (aI (G.2.1 (F a 10)) (10 * p0.toInt + 2)) (aI (G.2.1 (F a 10)) (10 * p0.toInt + 3)) (p1.toInt)) % 2 = 1 ∧ ((stt (mw (G.2.1 p2) (p3.toInt)) (aI (G.2.1 (F a 10)) (10 * p0.toInt + 0)) (aI (G.2.1 (F a 10)) (10 * p0.toInt + 1)) (aI (G.2.1 (F a 10)) (10 * p0.toInt + 2)) (aI (G.2.1 (F a 10)) (10 * p0.toInt + 3)) (p1.toInt)) / 2 < (aI (G.2.1 (F a 10)) (10 * p0.toInt + 4)) ∨ (aI (G.2.1 (F a 10)) (10 * p0.toInt + 5)) < (stt (mw (G.2.1 p2) (p3.toInt)) (aI (G.2.1 (F a 10)) (10 * p0.toInt + 0)) (aI (G.2.1 (F a 10)) (10 * p0.toInt + 1)) (aI (G.2.1 (F a 10)) (10 * p0.toInt + 2)) (aI (G.2.1 (F a 10)) (10 * p0.toInt + 3)) (p1.toInt)) / 2)) ∧ (flq (mw (G.2.1 p2) (p3.toInt)) (aI (G.2.1 (F a 10)) (10 * p0.toInt + 0)) (aI (G.2.1 (F a 10)) (10 * p0.toInt + 1)) (aI (G.2.1 (F a 10)) (10 * p0.toInt + 2)) (aI (G.2.1 (F a 10)) (10 * p0.toInt + 4)) (aI (G.2.1 (F a 10)) (10 * p0.toInt + 5)) (p1.toInt) (stt (mw (G.2.1 p2) (p3.toInt)) (aI (G.2.1 (F a 10)) (10 * p0.toInt + 0)) (aI (G.2.1 (F a 10)) (10 * p0.toInt + 1)) (aI (G.2.1 (F a 10)) (10 * p0.toInt + 2)) (aI (G.2.1 (F a 10)) (10 * p0.toInt + 3)) (p1.toInt))) = 1) ∨ (¬ ((stt (mw (G.2.1 p2) (p3.toInt)) (aI (G.2.1 (F a 10)) (10 * p0.toInt + 0)) (aI (G.2.1 (F a 10)) (10 * p0.toInt + 1)) (aI (G.2.1 (F a 10)) (10 * p0.toInt + 2)) (aI (G.2.1 (F a 10)) (10 * p0.toInt + 3)) (p1.toInt)) % 2 = 1 ∧ ((stt (mw (G.2.1 p2) (p3.toInt)) (aI (G.2.1 (F a 10)) (10 * p0.toInt + 0)) (aI (G.2.1 (F a 10)) (10 * p0.toInt + 1)) (aI (G.2.1 (F a 10)) (10 * p0.toInt + 2)) (aI (G.2.1 (F a 10)) (10 * p0.toInt + 3)) (p1.toInt)) / 2 < (aI (G.2.1 (F a 10)) (10 * p0.toInt + 4)) ∨ (aI (G.2.1 (F a 10)) (10 * p0.toInt + 5)) < (stt (mw (G.2.1 p2) (p3.toInt)) (aI (G.2.1 (F a 10)) (10 * p0.toInt + 0)) (aI (G.2.1 (F a 10)) (10 * p0.toInt + 1)) (aI (G.2.1 (F a 10)) (10 * p0.toInt + 2)) (aI (G.2.1 (F a 10)) (10 * p0.toInt + 3)) (p1.toInt)) / 2)) ∧ (flq (mw (G.2.1 p2) (p3.toInt)) (aI (G.2.1 (F a 10)) (10 * p0.toInt + 0)) (aI (G.2.1 (F a 10)) (10 * p0.toInt + 1)) (aI (G.2.1 (F a 10)) (10 * p0.toInt + 2)) (aI (G.2.1 (F a 10)) (10 * p0.toInt + 4)) (aI (G.2.1 (F a 10)) (10 * p0.toInt + 5)) (p1.toInt) (stt (mw (G.2.1 p2) (p3.toInt)) (aI (G.2.1 (F a 10)) (10 * p0.toInt + 0)) (aI (G.2.1 (F a 10)) (10 * p0.toInt + 1)) (aI (G.2.1 (F a 10)) (10 * p0.toInt + 2)) (aI (G.2.1 (F a 10)) (10 * p0.toInt + 3)) (p1.toInt))) = 0) := flq_k4
      have z163a : ((aI (G.2.1 (F a 10)) (10 * p0.toInt + 0)) = 0 → (stt (mw (G.2.1 p2) (p3.toInt)) (aI (G.2.1 (F a 10)) (10 * p0.toInt + 0)) (aI (G.2.1 (F a 10)) (10 * p0.toInt + 1)) (aI (G.2.1 (F a 10)) (10 * p0.toInt + 2)) (aI (G.2.1 (F a 10)) (10 * p0.toInt + 3)) (p1.toInt)) = (hv (mw (G.2.1 p2) (p3.toInt)) (90 * (aI (G.2.1 (F a 10)) (10 * p0.toInt + 1)) + 30 * (aI (G.2.1 (F a 10)) (10 * p0.toInt + 2))) (p1.toInt) 30)) ∧ ((aI (G.2.1 (F a 10)) (10 * p0.toInt + 0)) = 1 ∨ (aI (G.2.1 (F a 10)) (10 * p0.toInt + 0)) = 4 → ((cel (mw (G.2.1 p2) (p3.toInt)) (aI (G.2.1 (F a 10)) (10 * p0.toInt + 3)) (p1.toInt) 0) = -2000 ∧ (stt (mw (G.2.1 p2) (p3.toInt)) (aI (G.2.1 (F a 10)) (10 * p0.toInt + 0)) (aI (G.2.1 (F a 10)) (10 * p0.toInt + 1)) (aI (G.2.1 (F a 10)) (10 * p0.toInt + 2)) (aI (G.2.1 (F a 10)) (10 * p0.toInt + 3)) (p1.toInt)) = 2 * (hv (mw (G.2.1 p2) (p3.toInt)) (90 * (aI (G.2.1 (F a 10)) (10 * p0.toInt + 1)) + 30 * (aI (G.2.1 (F a 10)) (10 * p0.toInt + 2))) (p1.toInt) 30)) ∨ ((cel (mw (G.2.1 p2) (p3.toInt)) (aI (G.2.1 (F a 10)) (10 * p0.toInt + 3)) (p1.toInt) 0) ≠ -2000 ∧ (stt (mw (G.2.1 p2) (p3.toInt)) (aI (G.2.1 (F a 10)) (10 * p0.toInt + 0)) (aI (G.2.1 (F a 10)) (10 * p0.toInt + 1)) (aI (G.2.1 (F a 10)) (10 * p0.toInt + 2)) (aI (G.2.1 (F a 10)) (10 * p0.toInt + 3)) (p1.toInt)) = 2 * (hv (mw (G.2.1 p2) (p3.toInt)) (90 * (aI (G.2.1 (F a 10)) (10 * p0.toInt + 1)) + 30 * (aI (G.2.1 (F a 10)) (10 * p0.toInt + 2))) (p1.toInt) 30) + 1)) ∧ ((aI (G.2.1 (F a 10)) (10 * p0.toInt + 0)) = 3 → ((hv (mw (G.2.1 p2) (p3.toInt)) (90 * (aI (G.2.1 (F a 10)) (10 * p0.toInt + 1)) + 30 * (aI (G.2.1 (F a 10)) (10 * p0.toInt + 2))) (p1.toInt) 30) = 0 ∧ (stt (mw (G.2.1 p2) (p3.toInt)) (aI (G.2.1 (F a 10)) (10 * p0.toInt + 0)) (aI (G.2.1 (F a 10)) (10 * p0.toInt + 1)) (aI (G.2.1 (F a 10)) (10 * p0.toInt + 2)) (aI (G.2.1 (F a 10)) (10 * p0.toInt + 3)) (p1.toInt)) = 100000) ∨ ((hv (mw (G.2.1 p2) (p3.toInt)) (90 * (aI (G.2.1 (F a 10)) (10 * p0.toInt + 1)) + 30 * (aI (G.2.1 (F a 10)) (10 * p0.toInt + 2))) (p1.toInt) 30) ≠ 0 ∧ (stt (mw (G.2.1 p2) (p3.toInt)) (aI (G.2.1 (F a 10)) (10 * p0.toInt + 0)) (aI (G.2.1 (F a 10)) (10 * p0.toInt + 1)) (aI (G.2.1 (F a 10)) (10 * p0.toInt + 2)) (aI (G.2.1 (F a 10)) (10 * p0.toInt + 3)) (p1.toInt)) = (smq (mw (G.2.1 p2) (p3.toInt)) (90 * (aI (G.2.1 (F a 10)) (10 * p0.toInt + 1)) + 30 * (aI (G.2.1 (F a 10)) (10 * p0.toInt + 2))) (90 * (aI (G.2.1 (F a 10)) (10 * p0.toInt + 1)) + 30 * (aI (G.2.1 (F a 10)) (10 * p0.toInt + 3))) (p1.toInt) 30))) ∧ ((aI (G.2.1 (F a 10)) (10 * p0.toInt + 0)) = 2 ∨ (aI (G.2.1 (F a 10)) (10 * p0.toInt + 0)) = 5 → (stt (mw (G.2.1 p2) (p3.toInt)) (aI (G.2.1 (F a 10)) (10 * p0.toInt + 0)) (aI (G.2.1 (F a 10)) (10 * p0.toInt + 1)) (aI (G.2.1 (F a 10)) (10 * p0.toInt + 2)) (aI (G.2.1 (F a 10)) (10 * p0.toInt + 3)) (p1.toInt)) = (cel (mw (G.2.1 p2) (p3.toInt)) (aI (G.2.1 (F a 10)) (10 * p0.toInt + 1)) (p1.toInt) (aI (G.2.1 (F a 10)) (10 * p0.toInt + 2)))) := stt_k
      have z163b : 0 ≤ (hv (mw (G.2.1 p2) (p3.toInt)) (90 * (aI (G.2.1 (F a 10)) (10 * p0.toInt + 1)) + 30 * (aI (G.2.1 (F a 10)) (10 * p0.toInt + 2))) (p1.toInt) 30) ∧ (hv (mw (G.2.1 p2) (p3.toInt)) (90 * (aI (G.2.1 (F a 10)) (10 * p0.toInt + 1)) + 30 * (aI (G.2.1 (F a 10)) (10 * p0.toInt + 2))) (p1.toInt) 30) ≤ 30 := hv_b _ _ _ (by decide)
      refine lv_iload hx hb dX11_fails_163 (lv_at hl 1 rfl) ?_
      refine lv_iconst (v := 2) hx hb dX11_fails_165 (by decide) ?_
      refine xi_irem hx hb (t30 : Int32.toInt x30 = (stt (mw (G.2.1 p2) (p3.toInt)) (aI (G.2.1 (F a 10)) (10 * p0.toInt + 0)) (aI (G.2.1 (F a 10)) (10 * p0.toInt + 1)) (aI (G.2.1 (F a 10)) (10 * p0.toInt + 2)) (aI (G.2.1 (F a 10)) (10 * p0.toInt + 3)) (p1.toInt))) ((by decide) : Int32.toInt 2 = (2 : Int)) (by decide) dX11_fails_166 (fun x166 t166 => ?_)
      refine lv_iconst (v := 1) hx hb dX11_fails_167 (by decide) ?_
      refine xi_cne (tgt := 200) hx hb (rfl : Int32.toInt x166 = x166.toInt) ((by decide) : Int32.toInt 1 = (1 : Int)) dX11_fails_168 (by decide) (fun c168 => ?_) (fun c168 => ?_)
      · refine lv_iconst (v := 0) hx hb dX11_fails_200 (by decide) ?_
        exact x_rz hx hb hr (xnz (Or.inl rfl)) hlk hQ (Nat.le_of_ble_eq_true rfl) (Nat.le_of_ble_eq_true rfl) hS dX11_fails_201 () ⟨_, rfl, (Or.inl rfl), (z_X11_fails_9 x166.toInt (aI (G.2.1 (F a 10)) (10 * p0.toInt + 0)) (aI (G.2.1 (F a 10)) (10 * p0.toInt + 4)) (aI (G.2.1 (F a 10)) (10 * p0.toInt + 5)) (cel (mw (G.2.1 p2) (p3.toInt)) (aI (G.2.1 (F a 10)) (10 * p0.toInt + 3)) (p1.toInt) 0) (flq (mw (G.2.1 p2) (p3.toInt)) (aI (G.2.1 (F a 10)) (10 * p0.toInt + 0)) (aI (G.2.1 (F a 10)) (10 * p0.toInt + 1)) (aI (G.2.1 (F a 10)) (10 * p0.toInt + 2)) (aI (G.2.1 (F a 10)) (10 * p0.toInt + 4)) (aI (G.2.1 (F a 10)) (10 * p0.toInt + 5)) (p1.toInt) (stt (mw (G.2.1 p2) (p3.toInt)) (aI (G.2.1 (F a 10)) (10 * p0.toInt + 0)) (aI (G.2.1 (F a 10)) (10 * p0.toInt + 1)) (aI (G.2.1 (F a 10)) (10 * p0.toInt + 2)) (aI (G.2.1 (F a 10)) (10 * p0.toInt + 3)) (p1.toInt))) (hv (mw (G.2.1 p2) (p3.toInt)) (90 * (aI (G.2.1 (F a 10)) (10 * p0.toInt + 1)) + 30 * (aI (G.2.1 (F a 10)) (10 * p0.toInt + 2))) (p1.toInt) 30) (stt (mw (G.2.1 p2) (p3.toInt)) (aI (G.2.1 (F a 10)) (10 * p0.toInt + 0)) (aI (G.2.1 (F a 10)) (10 * p0.toInt + 1)) (aI (G.2.1 (F a 10)) (10 * p0.toInt + 2)) (aI (G.2.1 (F a 10)) (10 * p0.toInt + 3)) (p1.toInt)) e1 (z0).1 c11 c59 z163 (z163a).2.1 z163b t166 c168)⟩ hh
      · refine lv_iload hx hb dX11_fails_171 (lv_at hl 1 rfl) ?_
        refine lv_iconst (v := 2) hx hb dX11_fails_173 (by decide) ?_
        refine xi_idiv hx hb (t30 : Int32.toInt x30 = (stt (mw (G.2.1 p2) (p3.toInt)) (aI (G.2.1 (F a 10)) (10 * p0.toInt + 0)) (aI (G.2.1 (F a 10)) (10 * p0.toInt + 1)) (aI (G.2.1 (F a 10)) (10 * p0.toInt + 2)) (aI (G.2.1 (F a 10)) (10 * p0.toInt + 3)) (p1.toInt))) ((by decide) : Int32.toInt 2 = (2 : Int)) (by decide) dX11_fails_174 (fun x174 t174 => ?_)
        refine lv_i2l (v := x174.toInt64) hx hb dX11_fails_175 rfl ?_
        refine lv_aload_n hx hb dX11_fails_176 rfl (lv_at hl 3 rfl) ?_
        refine lv_iload_n hx hb dX11_fails_177 rfl (lv_at hl 4 rfl) ?_
        refine lv_iconst (v := 4) hx hb dX11_fails_178 (by decide) ?_
        refine x_clp (x_runV (b := a) (As := [.int p0, .int 4]) (rest := [.long x174.toInt64]) S (c_X11_of l E K F G s.heap a p0 4 ha (e0) (by decide)) mv_X11_of km_X11_165 rfl rfl ⟨Nat.le_of_ble_eq_true rfl, Nat.le_of_ble_eq_true rfl⟩ (rc_13 hK hT ha) hK (fun _ => XPh.blind) (fun U hU hW => XPh.at hK hz hS hT hU hW) rfl hl.1 (Nat.le_of_ble_eq_true rfl) dX11_fails_179 ⟨Nat.le_of_ble_eq_true rfl, Nat.le_of_ble_eq_true rfl⟩) hS ?_
        rintro _ _ locs ⟨x179, rfl, t179⟩ hS
        have t179 : x179.toInt = (aI (G.2.1 (F a 10)) (10 * p0.toInt + 4)) := t179
        refine lv_i2l (v := x179.toInt64) hx hb dX11_fails_182 rfl ?_
        refine lv_aload_n hx hb dX11_fails_183 rfl (lv_at hl 3 rfl) ?_
        refine lv_iload_n hx hb dX11_fails_184 rfl (lv_at hl 4 rfl) ?_
        refine lv_iconst (v := 5) hx hb dX11_fails_185 (by decide) ?_
        refine x_clp (x_runV (b := a) (As := [.int p0, .int 5]) (rest := [.long x179.toInt64, .long x174.toInt64]) S (c_X11_of l E K F G s.heap a p0 5 ha (e0) (by decide)) mv_X11_of km_X11_165 rfl rfl ⟨Nat.le_of_ble_eq_true rfl, Nat.le_of_ble_eq_true rfl⟩ (rc_13 hK hT ha) hK (fun _ => XPh.blind) (fun U hU hW => XPh.at hK hz hS hT hU hW) rfl hl.1 (Nat.le_of_ble_eq_true rfl) dX11_fails_186 ⟨Nat.le_of_ble_eq_true rfl, Nat.le_of_ble_eq_true rfl⟩) hS ?_
        rintro _ _ locs ⟨x186, rfl, t186⟩ hS
        have t186 : x186.toInt = (aI (G.2.1 (F a 10)) (10 * p0.toInt + 5)) := t186
        refine lv_i2l (v := x186.toInt64) hx hb dX11_fails_189 rfl ?_
        refine x_clp (x_runS (As := [.long x174.toInt64, .long x179.toInt64, .long x186.toInt64]) (rest := []) S (c_X11_in l E K F G s.heap x174.toInt64 x174.toInt x179.toInt64 ((aI (G.2.1 (F a 10)) (10 * p0.toInt + 4))) x186.toInt64 ((aI (G.2.1 (F a 10)) (10 * p0.toInt + 5))) (xl_i2l (rfl : Int32.toInt x174 = x174.toInt)) (xl_i2l (t179 : Int32.toInt x179 = (aI (G.2.1 (F a 10)) (10 * p0.toInt + 4)))) (xl_i2l (t186 : Int32.toInt x186 = (aI (G.2.1 (F a 10)) (10 * p0.toInt + 5))))) ms_X11_in km_X11_139 rfl rfl ⟨Nat.le_of_ble_eq_true rfl, Nat.le_of_ble_eq_true rfl⟩ hK (fun _ => XPh.blind) (fun U hU hW => XPh.at hK hz hS hT hU hW) rfl hl.1 (Nat.le_of_ble_eq_true rfl) dX11_fails_190 ⟨Nat.le_of_ble_eq_true rfl, Nat.le_of_ble_eq_true rfl⟩) hS ?_
        rintro _ _ locs ⟨x190, rfl, b190, t190⟩ hS
        have t190 : (x190.toInt = 1 ∧ (aI (G.2.1 (F a 10)) (10 * p0.toInt + 4)) ≤ x174.toInt ∧ x174.toInt ≤ (aI (G.2.1 (F a 10)) (10 * p0.toInt + 5))) ∨ (x190.toInt = 0 ∧ (x174.toInt < (aI (G.2.1 (F a 10)) (10 * p0.toInt + 4)) ∨ (aI (G.2.1 (F a 10)) (10 * p0.toInt + 5)) < x174.toInt)) := t190
        refine xi_zne (tgt := 200) hx hb (rfl : Int32.toInt x190 = x190.toInt) dX11_fails_193 (by decide) (fun c193 => ?_) (fun c193 => ?_)
        · refine lv_iconst (v := 0) hx hb dX11_fails_200 (by decide) ?_
          exact x_rz hx hb hr (xnz (Or.inl rfl)) hlk hQ (Nat.le_of_ble_eq_true rfl) (Nat.le_of_ble_eq_true rfl) hS dX11_fails_201 () ⟨_, rfl, (Or.inl rfl), (z_X11_fails_12 x174.toInt x190.toInt (aI (G.2.1 (F a 10)) (10 * p0.toInt + 0)) (aI (G.2.1 (F a 10)) (10 * p0.toInt + 4)) (aI (G.2.1 (F a 10)) (10 * p0.toInt + 5)) (cel (mw (G.2.1 p2) (p3.toInt)) (aI (G.2.1 (F a 10)) (10 * p0.toInt + 3)) (p1.toInt) 0) (flq (mw (G.2.1 p2) (p3.toInt)) (aI (G.2.1 (F a 10)) (10 * p0.toInt + 0)) (aI (G.2.1 (F a 10)) (10 * p0.toInt + 1)) (aI (G.2.1 (F a 10)) (10 * p0.toInt + 2)) (aI (G.2.1 (F a 10)) (10 * p0.toInt + 4)) (aI (G.2.1 (F a 10)) (10 * p0.toInt + 5)) (p1.toInt) (stt (mw (G.2.1 p2) (p3.toInt)) (aI (G.2.1 (F a 10)) (10 * p0.toInt + 0)) (aI (G.2.1 (F a 10)) (10 * p0.toInt + 1)) (aI (G.2.1 (F a 10)) (10 * p0.toInt + 2)) (aI (G.2.1 (F a 10)) (10 * p0.toInt + 3)) (p1.toInt))) (hv (mw (G.2.1 p2) (p3.toInt)) (90 * (aI (G.2.1 (F a 10)) (10 * p0.toInt + 1)) + 30 * (aI (G.2.1 (F a 10)) (10 * p0.toInt + 2))) (p1.toInt) 30) (stt (mw (G.2.1 p2) (p3.toInt)) (aI (G.2.1 (F a 10)) (10 * p0.toInt + 0)) (aI (G.2.1 (F a 10)) (10 * p0.toInt + 1)) (aI (G.2.1 (F a 10)) (10 * p0.toInt + 2)) (aI (G.2.1 (F a 10)) (10 * p0.toInt + 3)) (p1.toInt)) e1 (z0).1 c11 c59 z163 (z163a).2.1 z163b t174 t190 c193)⟩ hh
        · refine lv_iconst (v := 1) hx hb dX11_fails_196 (by decide) ?_
          refine lv_goto (tgt := 201) hx hb dX11_fails_197 (by decide) ?_
          exact x_rz hx hb hr (xnz (Or.inr rfl)) hlk hQ (Nat.le_of_ble_eq_true rfl) (Nat.le_of_ble_eq_true rfl) hS dX11_fails_201 () ⟨_, rfl, (Or.inr rfl), (z_X11_fails_13 x166.toInt x174.toInt x190.toInt (aI (G.2.1 (F a 10)) (10 * p0.toInt + 0)) (aI (G.2.1 (F a 10)) (10 * p0.toInt + 4)) (aI (G.2.1 (F a 10)) (10 * p0.toInt + 5)) (cel (mw (G.2.1 p2) (p3.toInt)) (aI (G.2.1 (F a 10)) (10 * p0.toInt + 3)) (p1.toInt) 0) (flq (mw (G.2.1 p2) (p3.toInt)) (aI (G.2.1 (F a 10)) (10 * p0.toInt + 0)) (aI (G.2.1 (F a 10)) (10 * p0.toInt + 1)) (aI (G.2.1 (F a 10)) (10 * p0.toInt + 2)) (aI (G.2.1 (F a 10)) (10 * p0.toInt + 4)) (aI (G.2.1 (F a 10)) (10 * p0.toInt + 5)) (p1.toInt) (stt (mw (G.2.1 p2) (p3.toInt)) (aI (G.2.1 (F a 10)) (10 * p0.toInt + 0)) (aI (G.2.1 (F a 10)) (10 * p0.toInt + 1)) (aI (G.2.1 (F a 10)) (10 * p0.toInt + 2)) (aI (G.2.1 (F a 10)) (10 * p0.toInt + 3)) (p1.toInt))) (hv (mw (G.2.1 p2) (p3.toInt)) (90 * (aI (G.2.1 (F a 10)) (10 * p0.toInt + 1)) + 30 * (aI (G.2.1 (F a 10)) (10 * p0.toInt + 2))) (p1.toInt) 30) (stt (mw (G.2.1 p2) (p3.toInt)) (aI (G.2.1 (F a 10)) (10 * p0.toInt + 0)) (aI (G.2.1 (F a 10)) (10 * p0.toInt + 1)) (aI (G.2.1 (F a 10)) (10 * p0.toInt + 2)) (aI (G.2.1 (F a 10)) (10 * p0.toInt + 3)) (p1.toInt)) e1 (z0).1 c11 c59 z163 (z163a).2.1 z163b t166 c168 t174 t190 c193)⟩ hh
    · refine lv_tableIn (off := 29) (tgt := 88) hx hb dX11_fails_59 (by rw [(t3 : Int32.toInt x3 = (aI (G.2.1 (F a 10)) (10 * p0.toInt + 0))), c59]; decide) (by rw [(t3 : Int32.toInt x3 = (aI (G.2.1 (F a 10)) (10 * p0.toInt + 0))), c59]; decide) (by rw [(t3 : Int32.toInt x3 = (aI (G.2.1 (F a 10)) (10 * p0.toInt + 0))), c59]; rfl) (by decide) ?_
      have z88 : (aI (G.2.1 (F a 10)) (10 * p0.toInt + 0)) = 0 → (1 < (stt (mw (G.2.1 p2) (p3.toInt)) (aI (G.2.1 (F a 10)) (10 * p0.toInt + 0)) (aI (G.2.1 (F a 10)) (10 * p0.toInt + 1)) (aI (G.2.1 (F a 10)) (10 * p0.toInt + 2)) (aI (G.2.1 (F a 10)) (10 * p0.toInt + 3)) (p1.toInt)) ∧ (flq (mw (G.2.1 p2) (p3.toInt)) (aI (G.2.1 (F a 10)) (10 * p0.toInt + 0)) (aI (G.2.1 (F a 10)) (10 * p0.toInt + 1)) (aI (G.2.1 (F a 10)) (10 * p0.toInt + 2)) (aI (G.2.1 (F a 10)) (10 * p0.toInt + 4)) (aI (G.2.1 (F a 10)) (10 * p0.toInt + 5)) (p1.toInt) (stt (mw (G.2.1 p2) (p3.toInt)) (aI (G.2.1 (F a 10)) (10 * p0.toInt + 0)) (aI (G.2.1 (F a 10)) (10 * p0.toInt + 1)) (aI (G.2.1 (F a 10)) (10 * p0.toInt + 2)) (aI (G.2.1 (F a 10)) (10 * p0.toInt + 3)) (p1.toInt))) = 1) ∨ (¬ (1 < (stt (mw (G.2.1 p2) (p3.toInt)) (aI (G.2.1 (F a 10)) (10 * p0.toInt + 0)) (aI (G.2.1 (F a 10)) (10 * p0.toInt + 1)) (aI (G.2.1 (F a 10)) (10 * p0.toInt + 2)) (aI (G.2.1 (F a 10)) (10 * p0.toInt + 3)) (p1.toInt))) ∧ (flq (mw (G.2.1 p2) (p3.toInt)) (aI (G.2.1 (F a 10)) (10 * p0.toInt + 0)) (aI (G.2.1 (F a 10)) (10 * p0.toInt + 1)) (aI (G.2.1 (F a 10)) (10 * p0.toInt + 2)) (aI (G.2.1 (F a 10)) (10 * p0.toInt + 4)) (aI (G.2.1 (F a 10)) (10 * p0.toInt + 5)) (p1.toInt) (stt (mw (G.2.1 p2) (p3.toInt)) (aI (G.2.1 (F a 10)) (10 * p0.toInt + 0)) (aI (G.2.1 (F a 10)) (10 * p0.toInt + 1)) (aI (G.2.1 (F a 10)) (10 * p0.toInt + 2)) (aI (G.2.1 (F a 10)) (10 * p0.toInt + 3)) (p1.toInt))) = 0) := flq_k0
      refine lv_iload hx hb dX11_fails_88 (lv_at hl 1 rfl) ?_
      refine lv_iconst (v := 1) hx hb dX11_fails_90 (by decide) ?_
      refine xi_cle (tgt := 98) hx hb (t30 : Int32.toInt x30 = (stt (mw (G.2.1 p2) (p3.toInt)) (aI (G.2.1 (F a 10)) (10 * p0.toInt + 0)) (aI (G.2.1 (F a 10)) (10 * p0.toInt + 1)) (aI (G.2.1 (F a 10)) (10 * p0.toInt + 2)) (aI (G.2.1 (F a 10)) (10 * p0.toInt + 3)) (p1.toInt))) ((by decide) : Int32.toInt 1 = (1 : Int)) dX11_fails_91 (by decide) (fun c91 => ?_) (fun c91 => ?_)
      · refine lv_iconst (v := 0) hx hb dX11_fails_98 (by decide) ?_
        exact x_rz hx hb hr (xnz (Or.inl rfl)) hlk hQ (Nat.le_of_ble_eq_true rfl) (Nat.le_of_ble_eq_true rfl) hS dX11_fails_99 () ⟨_, rfl, (Or.inl rfl), (z_X11_fails_14 (aI (G.2.1 (F a 10)) (10 * p0.toInt + 0)) (flq (mw (G.2.1 p2) (p3.toInt)) (aI (G.2.1 (F a 10)) (10 * p0.toInt + 0)) (aI (G.2.1 (F a 10)) (10 * p0.toInt + 1)) (aI (G.2.1 (F a 10)) (10 * p0.toInt + 2)) (aI (G.2.1 (F a 10)) (10 * p0.toInt + 4)) (aI (G.2.1 (F a 10)) (10 * p0.toInt + 5)) (p1.toInt) (stt (mw (G.2.1 p2) (p3.toInt)) (aI (G.2.1 (F a 10)) (10 * p0.toInt + 0)) (aI (G.2.1 (F a 10)) (10 * p0.toInt + 1)) (aI (G.2.1 (F a 10)) (10 * p0.toInt + 2)) (aI (G.2.1 (F a 10)) (10 * p0.toInt + 3)) (p1.toInt))) (stt (mw (G.2.1 p2) (p3.toInt)) (aI (G.2.1 (F a 10)) (10 * p0.toInt + 0)) (aI (G.2.1 (F a 10)) (10 * p0.toInt + 1)) (aI (G.2.1 (F a 10)) (10 * p0.toInt + 2)) (aI (G.2.1 (F a 10)) (10 * p0.toInt + 3)) (p1.toInt)) c59 z88 c91)⟩ hh
      · refine lv_iconst (v := 1) hx hb dX11_fails_94 (by decide) ?_
        refine lv_goto (tgt := 99) hx hb dX11_fails_95 (by decide) ?_
        exact x_rz hx hb hr (xnz (Or.inr rfl)) hlk hQ (Nat.le_of_ble_eq_true rfl) (Nat.le_of_ble_eq_true rfl) hS dX11_fails_99 () ⟨_, rfl, (Or.inr rfl), (z_X11_fails_15 (aI (G.2.1 (F a 10)) (10 * p0.toInt + 0)) (flq (mw (G.2.1 p2) (p3.toInt)) (aI (G.2.1 (F a 10)) (10 * p0.toInt + 0)) (aI (G.2.1 (F a 10)) (10 * p0.toInt + 1)) (aI (G.2.1 (F a 10)) (10 * p0.toInt + 2)) (aI (G.2.1 (F a 10)) (10 * p0.toInt + 4)) (aI (G.2.1 (F a 10)) (10 * p0.toInt + 5)) (p1.toInt) (stt (mw (G.2.1 p2) (p3.toInt)) (aI (G.2.1 (F a 10)) (10 * p0.toInt + 0)) (aI (G.2.1 (F a 10)) (10 * p0.toInt + 1)) (aI (G.2.1 (F a 10)) (10 * p0.toInt + 2)) (aI (G.2.1 (F a 10)) (10 * p0.toInt + 3)) (p1.toInt))) (stt (mw (G.2.1 p2) (p3.toInt)) (aI (G.2.1 (F a 10)) (10 * p0.toInt + 0)) (aI (G.2.1 (F a 10)) (10 * p0.toInt + 1)) (aI (G.2.1 (F a 10)) (10 * p0.toInt + 2)) (aI (G.2.1 (F a 10)) (10 * p0.toInt + 3)) (p1.toInt)) c59 z88 c91)⟩ hh
    · refine lv_tableIn (off := 41) (tgt := 100) hx hb dX11_fails_59 (by rw [(t3 : Int32.toInt x3 = (aI (G.2.1 (F a 10)) (10 * p0.toInt + 0))), c59]; decide) (by rw [(t3 : Int32.toInt x3 = (aI (G.2.1 (F a 10)) (10 * p0.toInt + 0))), c59]; decide) (by rw [(t3 : Int32.toInt x3 = (aI (G.2.1 (F a 10)) (10 * p0.toInt + 0))), c59]; rfl) (by decide) ?_
      have z100 : (aI (G.2.1 (F a 10)) (10 * p0.toInt + 0)) = 1 → (1 < (stt (mw (G.2.1 p2) (p3.toInt)) (aI (G.2.1 (F a 10)) (10 * p0.toInt + 0)) (aI (G.2.1 (F a 10)) (10 * p0.toInt + 1)) (aI (G.2.1 (F a 10)) (10 * p0.toInt + 2)) (aI (G.2.1 (F a 10)) (10 * p0.toInt + 3)) (p1.toInt)) ∧ (stt (mw (G.2.1 p2) (p3.toInt)) (aI (G.2.1 (F a 10)) (10 * p0.toInt + 0)) (aI (G.2.1 (F a 10)) (10 * p0.toInt + 1)) (aI (G.2.1 (F a 10)) (10 * p0.toInt + 2)) (aI (G.2.1 (F a 10)) (10 * p0.toInt + 3)) (p1.toInt)) % 2 = 0 ∧ (flq (mw (G.2.1 p2) (p3.toInt)) (aI (G.2.1 (F a 10)) (10 * p0.toInt + 0)) (aI (G.2.1 (F a 10)) (10 * p0.toInt + 1)) (aI (G.2.1 (F a 10)) (10 * p0.toInt + 2)) (aI (G.2.1 (F a 10)) (10 * p0.toInt + 4)) (aI (G.2.1 (F a 10)) (10 * p0.toInt + 5)) (p1.toInt) (stt (mw (G.2.1 p2) (p3.toInt)) (aI (G.2.1 (F a 10)) (10 * p0.toInt + 0)) (aI (G.2.1 (F a 10)) (10 * p0.toInt + 1)) (aI (G.2.1 (F a 10)) (10 * p0.toInt + 2)) (aI (G.2.1 (F a 10)) (10 * p0.toInt + 3)) (p1.toInt))) = 1) ∨ (¬ (1 < (stt (mw (G.2.1 p2) (p3.toInt)) (aI (G.2.1 (F a 10)) (10 * p0.toInt + 0)) (aI (G.2.1 (F a 10)) (10 * p0.toInt + 1)) (aI (G.2.1 (F a 10)) (10 * p0.toInt + 2)) (aI (G.2.1 (F a 10)) (10 * p0.toInt + 3)) (p1.toInt)) ∧ (stt (mw (G.2.1 p2) (p3.toInt)) (aI (G.2.1 (F a 10)) (10 * p0.toInt + 0)) (aI (G.2.1 (F a 10)) (10 * p0.toInt + 1)) (aI (G.2.1 (F a 10)) (10 * p0.toInt + 2)) (aI (G.2.1 (F a 10)) (10 * p0.toInt + 3)) (p1.toInt)) % 2 = 0) ∧ (flq (mw (G.2.1 p2) (p3.toInt)) (aI (G.2.1 (F a 10)) (10 * p0.toInt + 0)) (aI (G.2.1 (F a 10)) (10 * p0.toInt + 1)) (aI (G.2.1 (F a 10)) (10 * p0.toInt + 2)) (aI (G.2.1 (F a 10)) (10 * p0.toInt + 4)) (aI (G.2.1 (F a 10)) (10 * p0.toInt + 5)) (p1.toInt) (stt (mw (G.2.1 p2) (p3.toInt)) (aI (G.2.1 (F a 10)) (10 * p0.toInt + 0)) (aI (G.2.1 (F a 10)) (10 * p0.toInt + 1)) (aI (G.2.1 (F a 10)) (10 * p0.toInt + 2)) (aI (G.2.1 (F a 10)) (10 * p0.toInt + 3)) (p1.toInt))) = 0) := flq_k1
      have z100a : ((aI (G.2.1 (F a 10)) (10 * p0.toInt + 0)) = 0 → (stt (mw (G.2.1 p2) (p3.toInt)) (aI (G.2.1 (F a 10)) (10 * p0.toInt + 0)) (aI (G.2.1 (F a 10)) (10 * p0.toInt + 1)) (aI (G.2.1 (F a 10)) (10 * p0.toInt + 2)) (aI (G.2.1 (F a 10)) (10 * p0.toInt + 3)) (p1.toInt)) = (hv (mw (G.2.1 p2) (p3.toInt)) (90 * (aI (G.2.1 (F a 10)) (10 * p0.toInt + 1)) + 30 * (aI (G.2.1 (F a 10)) (10 * p0.toInt + 2))) (p1.toInt) 30)) ∧ ((aI (G.2.1 (F a 10)) (10 * p0.toInt + 0)) = 1 ∨ (aI (G.2.1 (F a 10)) (10 * p0.toInt + 0)) = 4 → ((cel (mw (G.2.1 p2) (p3.toInt)) (aI (G.2.1 (F a 10)) (10 * p0.toInt + 3)) (p1.toInt) 0) = -2000 ∧ (stt (mw (G.2.1 p2) (p3.toInt)) (aI (G.2.1 (F a 10)) (10 * p0.toInt + 0)) (aI (G.2.1 (F a 10)) (10 * p0.toInt + 1)) (aI (G.2.1 (F a 10)) (10 * p0.toInt + 2)) (aI (G.2.1 (F a 10)) (10 * p0.toInt + 3)) (p1.toInt)) = 2 * (hv (mw (G.2.1 p2) (p3.toInt)) (90 * (aI (G.2.1 (F a 10)) (10 * p0.toInt + 1)) + 30 * (aI (G.2.1 (F a 10)) (10 * p0.toInt + 2))) (p1.toInt) 30)) ∨ ((cel (mw (G.2.1 p2) (p3.toInt)) (aI (G.2.1 (F a 10)) (10 * p0.toInt + 3)) (p1.toInt) 0) ≠ -2000 ∧ (stt (mw (G.2.1 p2) (p3.toInt)) (aI (G.2.1 (F a 10)) (10 * p0.toInt + 0)) (aI (G.2.1 (F a 10)) (10 * p0.toInt + 1)) (aI (G.2.1 (F a 10)) (10 * p0.toInt + 2)) (aI (G.2.1 (F a 10)) (10 * p0.toInt + 3)) (p1.toInt)) = 2 * (hv (mw (G.2.1 p2) (p3.toInt)) (90 * (aI (G.2.1 (F a 10)) (10 * p0.toInt + 1)) + 30 * (aI (G.2.1 (F a 10)) (10 * p0.toInt + 2))) (p1.toInt) 30) + 1)) ∧ ((aI (G.2.1 (F a 10)) (10 * p0.toInt + 0)) = 3 → ((hv (mw (G.2.1 p2) (p3.toInt)) (90 * (aI (G.2.1 (F a 10)) (10 * p0.toInt + 1)) + 30 * (aI (G.2.1 (F a 10)) (10 * p0.toInt + 2))) (p1.toInt) 30) = 0 ∧ (stt (mw (G.2.1 p2) (p3.toInt)) (aI (G.2.1 (F a 10)) (10 * p0.toInt + 0)) (aI (G.2.1 (F a 10)) (10 * p0.toInt + 1)) (aI (G.2.1 (F a 10)) (10 * p0.toInt + 2)) (aI (G.2.1 (F a 10)) (10 * p0.toInt + 3)) (p1.toInt)) = 100000) ∨ ((hv (mw (G.2.1 p2) (p3.toInt)) (90 * (aI (G.2.1 (F a 10)) (10 * p0.toInt + 1)) + 30 * (aI (G.2.1 (F a 10)) (10 * p0.toInt + 2))) (p1.toInt) 30) ≠ 0 ∧ (stt (mw (G.2.1 p2) (p3.toInt)) (aI (G.2.1 (F a 10)) (10 * p0.toInt + 0)) (aI (G.2.1 (F a 10)) (10 * p0.toInt + 1)) (aI (G.2.1 (F a 10)) (10 * p0.toInt + 2)) (aI (G.2.1 (F a 10)) (10 * p0.toInt + 3)) (p1.toInt)) = (smq (mw (G.2.1 p2) (p3.toInt)) (90 * (aI (G.2.1 (F a 10)) (10 * p0.toInt + 1)) + 30 * (aI (G.2.1 (F a 10)) (10 * p0.toInt + 2))) (90 * (aI (G.2.1 (F a 10)) (10 * p0.toInt + 1)) + 30 * (aI (G.2.1 (F a 10)) (10 * p0.toInt + 3))) (p1.toInt) 30))) ∧ ((aI (G.2.1 (F a 10)) (10 * p0.toInt + 0)) = 2 ∨ (aI (G.2.1 (F a 10)) (10 * p0.toInt + 0)) = 5 → (stt (mw (G.2.1 p2) (p3.toInt)) (aI (G.2.1 (F a 10)) (10 * p0.toInt + 0)) (aI (G.2.1 (F a 10)) (10 * p0.toInt + 1)) (aI (G.2.1 (F a 10)) (10 * p0.toInt + 2)) (aI (G.2.1 (F a 10)) (10 * p0.toInt + 3)) (p1.toInt)) = (cel (mw (G.2.1 p2) (p3.toInt)) (aI (G.2.1 (F a 10)) (10 * p0.toInt + 1)) (p1.toInt) (aI (G.2.1 (F a 10)) (10 * p0.toInt + 2)))) := stt_k
      have z100b : 0 ≤ (hv (mw (G.2.1 p2) (p3.toInt)) (90 * (aI (G.2.1 (F a 10)) (10 * p0.toInt + 1)) + 30 * (aI (G.2.1 (F a 10)) (10 * p0.toInt + 2))) (p1.toInt) 30) ∧ (hv (mw (G.2.1 p2) (p3.toInt)) (90 * (aI (G.2.1 (F a 10)) (10 * p0.toInt + 1)) + 30 * (aI (G.2.1 (F a 10)) (10 * p0.toInt + 2))) (p1.toInt) 30) ≤ 30 := hv_b _ _ _ (by decide)
      refine lv_iload hx hb dX11_fails_100 (lv_at hl 1 rfl) ?_
      refine xi_zle (tgt := 116) hx hb (t30 : Int32.toInt x30 = (stt (mw (G.2.1 p2) (p3.toInt)) (aI (G.2.1 (F a 10)) (10 * p0.toInt + 0)) (aI (G.2.1 (F a 10)) (10 * p0.toInt + 1)) (aI (G.2.1 (F a 10)) (10 * p0.toInt + 2)) (aI (G.2.1 (F a 10)) (10 * p0.toInt + 3)) (p1.toInt))) dX11_fails_102 (by decide) (fun c102 => ?_) (fun c102 => ?_)
      · refine lv_iconst (v := 0) hx hb dX11_fails_116 (by decide) ?_
        exact x_rz hx hb hr (xnz (Or.inl rfl)) hlk hQ (Nat.le_of_ble_eq_true rfl) (Nat.le_of_ble_eq_true rfl) hS dX11_fails_117 () ⟨_, rfl, (Or.inl rfl), (z_X11_fails_16 (aI (G.2.1 (F a 10)) (10 * p0.toInt + 0)) (flq (mw (G.2.1 p2) (p3.toInt)) (aI (G.2.1 (F a 10)) (10 * p0.toInt + 0)) (aI (G.2.1 (F a 10)) (10 * p0.toInt + 1)) (aI (G.2.1 (F a 10)) (10 * p0.toInt + 2)) (aI (G.2.1 (F a 10)) (10 * p0.toInt + 4)) (aI (G.2.1 (F a 10)) (10 * p0.toInt + 5)) (p1.toInt) (stt (mw (G.2.1 p2) (p3.toInt)) (aI (G.2.1 (F a 10)) (10 * p0.toInt + 0)) (aI (G.2.1 (F a 10)) (10 * p0.toInt + 1)) (aI (G.2.1 (F a 10)) (10 * p0.toInt + 2)) (aI (G.2.1 (F a 10)) (10 * p0.toInt + 3)) (p1.toInt))) (stt (mw (G.2.1 p2) (p3.toInt)) (aI (G.2.1 (F a 10)) (10 * p0.toInt + 0)) (aI (G.2.1 (F a 10)) (10 * p0.toInt + 1)) (aI (G.2.1 (F a 10)) (10 * p0.toInt + 2)) (aI (G.2.1 (F a 10)) (10 * p0.toInt + 3)) (p1.toInt)) c59 z100 c102)⟩ hh
      · refine lv_iload hx hb dX11_fails_105 (lv_at hl 1 rfl) ?_
        refine lv_iconst (v := 2) hx hb dX11_fails_107 (by decide) ?_
        refine xi_irem hx hb (t30 : Int32.toInt x30 = (stt (mw (G.2.1 p2) (p3.toInt)) (aI (G.2.1 (F a 10)) (10 * p0.toInt + 0)) (aI (G.2.1 (F a 10)) (10 * p0.toInt + 1)) (aI (G.2.1 (F a 10)) (10 * p0.toInt + 2)) (aI (G.2.1 (F a 10)) (10 * p0.toInt + 3)) (p1.toInt))) ((by decide) : Int32.toInt 2 = (2 : Int)) (by decide) dX11_fails_108 (fun x108 t108 => ?_)
        refine xi_zne (tgt := 116) hx hb (rfl : Int32.toInt x108 = x108.toInt) dX11_fails_109 (by decide) (fun c109 => ?_) (fun c109 => ?_)
        · refine lv_iconst (v := 0) hx hb dX11_fails_116 (by decide) ?_
          exact x_rz hx hb hr (xnz (Or.inl rfl)) hlk hQ (Nat.le_of_ble_eq_true rfl) (Nat.le_of_ble_eq_true rfl) hS dX11_fails_117 () ⟨_, rfl, (Or.inl rfl), (z_X11_fails_17 x108.toInt (aI (G.2.1 (F a 10)) (10 * p0.toInt + 0)) (flq (mw (G.2.1 p2) (p3.toInt)) (aI (G.2.1 (F a 10)) (10 * p0.toInt + 0)) (aI (G.2.1 (F a 10)) (10 * p0.toInt + 1)) (aI (G.2.1 (F a 10)) (10 * p0.toInt + 2)) (aI (G.2.1 (F a 10)) (10 * p0.toInt + 4)) (aI (G.2.1 (F a 10)) (10 * p0.toInt + 5)) (p1.toInt) (stt (mw (G.2.1 p2) (p3.toInt)) (aI (G.2.1 (F a 10)) (10 * p0.toInt + 0)) (aI (G.2.1 (F a 10)) (10 * p0.toInt + 1)) (aI (G.2.1 (F a 10)) (10 * p0.toInt + 2)) (aI (G.2.1 (F a 10)) (10 * p0.toInt + 3)) (p1.toInt))) (stt (mw (G.2.1 p2) (p3.toInt)) (aI (G.2.1 (F a 10)) (10 * p0.toInt + 0)) (aI (G.2.1 (F a 10)) (10 * p0.toInt + 1)) (aI (G.2.1 (F a 10)) (10 * p0.toInt + 2)) (aI (G.2.1 (F a 10)) (10 * p0.toInt + 3)) (p1.toInt)) c59 z100 t108 c109)⟩ hh
        · refine lv_iconst (v := 1) hx hb dX11_fails_112 (by decide) ?_
          refine lv_goto (tgt := 117) hx hb dX11_fails_113 (by decide) ?_
          exact x_rz hx hb hr (xnz (Or.inr rfl)) hlk hQ (Nat.le_of_ble_eq_true rfl) (Nat.le_of_ble_eq_true rfl) hS dX11_fails_117 () ⟨_, rfl, (Or.inr rfl), (z_X11_fails_18 p1.toInt x108.toInt x52.toInt (aI (G.2.1 (F a 10)) (10 * p0.toInt + 0)) (aI (G.2.1 (F a 10)) (10 * p0.toInt + 3)) (aI (G.2.1 (F a 10)) (10 * p0.toInt + 4)) (aI (G.2.1 (F a 10)) (10 * p0.toInt + 5)) (cel (mw (G.2.1 p2) (p3.toInt)) (aI (G.2.1 (F a 10)) (10 * p0.toInt + 1)) (p1.toInt) (aI (G.2.1 (F a 10)) (10 * p0.toInt + 2))) (cel (mw (G.2.1 p2) (p3.toInt)) (aI (G.2.1 (F a 10)) (10 * p0.toInt + 3)) (p1.toInt) 0) (flq (mw (G.2.1 p2) (p3.toInt)) (aI (G.2.1 (F a 10)) (10 * p0.toInt + 0)) (aI (G.2.1 (F a 10)) (10 * p0.toInt + 1)) (aI (G.2.1 (F a 10)) (10 * p0.toInt + 2)) (aI (G.2.1 (F a 10)) (10 * p0.toInt + 4)) (aI (G.2.1 (F a 10)) (10 * p0.toInt + 5)) (p1.toInt) (stt (mw (G.2.1 p2) (p3.toInt)) (aI (G.2.1 (F a 10)) (10 * p0.toInt + 0)) (aI (G.2.1 (F a 10)) (10 * p0.toInt + 1)) (aI (G.2.1 (F a 10)) (10 * p0.toInt + 2)) (aI (G.2.1 (F a 10)) (10 * p0.toInt + 3)) (p1.toInt))) (hv (mw (G.2.1 p2) (p3.toInt)) (90 * (aI (G.2.1 (F a 10)) (10 * p0.toInt + 1)) + 30 * (aI (G.2.1 (F a 10)) (10 * p0.toInt + 2))) (p1.toInt) 30) (sF (aI (G.2.1 (F a 10)) (10 * p0.toInt + 0))) (sL (aI (G.2.1 (F a 10)) (10 * p0.toInt + 0))) (smq (mw (G.2.1 p2) (p3.toInt)) (90 * (aI (G.2.1 (F a 10)) (10 * p0.toInt + 1)) + 30 * (aI (G.2.1 (F a 10)) (10 * p0.toInt + 2))) (90 * (aI (G.2.1 (F a 10)) (10 * p0.toInt + 1)) + 30 * (aI (G.2.1 (F a 10)) (10 * p0.toInt + 3))) (p1.toInt) 30) (stt (mw (G.2.1 p2) (p3.toInt)) (aI (G.2.1 (F a 10)) (10 * p0.toInt + 0)) (aI (G.2.1 (F a 10)) (10 * p0.toInt + 1)) (aI (G.2.1 (F a 10)) (10 * p0.toInt + 2)) (aI (G.2.1 (F a 10)) (10 * p0.toInt + 3)) (p1.toInt)) e1 e2 (z0).1 (z0).2.2.2.1 (z0).2.2.2.2 z0a c11 t52 c59 z100 (z100a).1 (z100a).2.1 (z100a).2.2.1 (z100a).2.2.2 z100b c102 t108 c109 (xr p1) (xr x108) (xr x52) (xrA _ _) (xrA _ _) (xrA _ _) (xrA _ _))⟩ hh
    · refine lv_tableIn (off := 59) (tgt := 118) hx hb dX11_fails_59 (by rw [(t3 : Int32.toInt x3 = (aI (G.2.1 (F a 10)) (10 * p0.toInt + 0))), c59]; decide) (by rw [(t3 : Int32.toInt x3 = (aI (G.2.1 (F a 10)) (10 * p0.toInt + 0))), c59]; decide) (by rw [(t3 : Int32.toInt x3 = (aI (G.2.1 (F a 10)) (10 * p0.toInt + 0))), c59]; rfl) (by decide) ?_
      have z118 : (aI (G.2.1 (F a 10)) (10 * p0.toInt + 0)) = 2 → (((stt (mw (G.2.1 p2) (p3.toInt)) (aI (G.2.1 (F a 10)) (10 * p0.toInt + 0)) (aI (G.2.1 (F a 10)) (10 * p0.toInt + 1)) (aI (G.2.1 (F a 10)) (10 * p0.toInt + 2)) (aI (G.2.1 (F a 10)) (10 * p0.toInt + 3)) (p1.toInt)) ≠ -2000 ∧ (stt (mw (G.2.1 p2) (p3.toInt)) (aI (G.2.1 (F a 10)) (10 * p0.toInt + 0)) (aI (G.2.1 (F a 10)) (10 * p0.toInt + 1)) (aI (G.2.1 (F a 10)) (10 * p0.toInt + 2)) (aI (G.2.1 (F a 10)) (10 * p0.toInt + 3)) (p1.toInt)) ≠ -1000 ∧ ((stt (mw (G.2.1 p2) (p3.toInt)) (aI (G.2.1 (F a 10)) (10 * p0.toInt + 0)) (aI (G.2.1 (F a 10)) (10 * p0.toInt + 1)) (aI (G.2.1 (F a 10)) (10 * p0.toInt + 2)) (aI (G.2.1 (F a 10)) (10 * p0.toInt + 3)) (p1.toInt)) < (aI (G.2.1 (F a 10)) (10 * p0.toInt + 4)) ∨ (aI (G.2.1 (F a 10)) (10 * p0.toInt + 5)) < (stt (mw (G.2.1 p2) (p3.toInt)) (aI (G.2.1 (F a 10)) (10 * p0.toInt + 0)) (aI (G.2.1 (F a 10)) (10 * p0.toInt + 1)) (aI (G.2.1 (F a 10)) (10 * p0.toInt + 2)) (aI (G.2.1 (F a 10)) (10 * p0.toInt + 3)) (p1.toInt)))) ∧ (flq (mw (G.2.1 p2) (p3.toInt)) (aI (G.2.1 (F a 10)) (10 * p0.toInt + 0)) (aI (G.2.1 (F a 10)) (10 * p0.toInt + 1)) (aI (G.2.1 (F a 10)) (10 * p0.toInt + 2)) (aI (G.2.1 (F a 10)) (10 * p0.toInt + 4)) (aI (G.2.1 (F a 10)) (10 * p0.toInt + 5)) (p1.toInt) (stt (mw (G.2.1 p2) (p3.toInt)) (aI (G.2.1 (F a 10)) (10 * p0.toInt + 0)) (aI (G.2.1 (F a 10)) (10 * p0.toInt + 1)) (aI (G.2.1 (F a 10)) (10 * p0.toInt + 2)) (aI (G.2.1 (F a 10)) (10 * p0.toInt + 3)) (p1.toInt))) = 1) ∨ (¬ ((stt (mw (G.2.1 p2) (p3.toInt)) (aI (G.2.1 (F a 10)) (10 * p0.toInt + 0)) (aI (G.2.1 (F a 10)) (10 * p0.toInt + 1)) (aI (G.2.1 (F a 10)) (10 * p0.toInt + 2)) (aI (G.2.1 (F a 10)) (10 * p0.toInt + 3)) (p1.toInt)) ≠ -2000 ∧ (stt (mw (G.2.1 p2) (p3.toInt)) (aI (G.2.1 (F a 10)) (10 * p0.toInt + 0)) (aI (G.2.1 (F a 10)) (10 * p0.toInt + 1)) (aI (G.2.1 (F a 10)) (10 * p0.toInt + 2)) (aI (G.2.1 (F a 10)) (10 * p0.toInt + 3)) (p1.toInt)) ≠ -1000 ∧ ((stt (mw (G.2.1 p2) (p3.toInt)) (aI (G.2.1 (F a 10)) (10 * p0.toInt + 0)) (aI (G.2.1 (F a 10)) (10 * p0.toInt + 1)) (aI (G.2.1 (F a 10)) (10 * p0.toInt + 2)) (aI (G.2.1 (F a 10)) (10 * p0.toInt + 3)) (p1.toInt)) < (aI (G.2.1 (F a 10)) (10 * p0.toInt + 4)) ∨ (aI (G.2.1 (F a 10)) (10 * p0.toInt + 5)) < (stt (mw (G.2.1 p2) (p3.toInt)) (aI (G.2.1 (F a 10)) (10 * p0.toInt + 0)) (aI (G.2.1 (F a 10)) (10 * p0.toInt + 1)) (aI (G.2.1 (F a 10)) (10 * p0.toInt + 2)) (aI (G.2.1 (F a 10)) (10 * p0.toInt + 3)) (p1.toInt)))) ∧ (flq (mw (G.2.1 p2) (p3.toInt)) (aI (G.2.1 (F a 10)) (10 * p0.toInt + 0)) (aI (G.2.1 (F a 10)) (10 * p0.toInt + 1)) (aI (G.2.1 (F a 10)) (10 * p0.toInt + 2)) (aI (G.2.1 (F a 10)) (10 * p0.toInt + 4)) (aI (G.2.1 (F a 10)) (10 * p0.toInt + 5)) (p1.toInt) (stt (mw (G.2.1 p2) (p3.toInt)) (aI (G.2.1 (F a 10)) (10 * p0.toInt + 0)) (aI (G.2.1 (F a 10)) (10 * p0.toInt + 1)) (aI (G.2.1 (F a 10)) (10 * p0.toInt + 2)) (aI (G.2.1 (F a 10)) (10 * p0.toInt + 3)) (p1.toInt))) = 0) := flq_k2
      refine lv_iload hx hb dX11_fails_118 (lv_at hl 1 rfl) ?_
      refine lv_sipush (v := (-1000)) hx hb dX11_fails_120 (by decide) ?_
      refine xi_ceq (tgt := 143) hx hb (t30 : Int32.toInt x30 = (stt (mw (G.2.1 p2) (p3.toInt)) (aI (G.2.1 (F a 10)) (10 * p0.toInt + 0)) (aI (G.2.1 (F a 10)) (10 * p0.toInt + 1)) (aI (G.2.1 (F a 10)) (10 * p0.toInt + 2)) (aI (G.2.1 (F a 10)) (10 * p0.toInt + 3)) (p1.toInt))) ((by decide) : Int32.toInt (-1000) = (-1000 : Int)) dX11_fails_123 (by decide) (fun c123 => ?_) (fun c123 => ?_)
      · refine lv_iconst (v := 0) hx hb dX11_fails_143 (by decide) ?_
        exact x_rz hx hb hr (xnz (Or.inl rfl)) hlk hQ (Nat.le_of_ble_eq_true rfl) (Nat.le_of_ble_eq_true rfl) hS dX11_fails_144 () ⟨_, rfl, (Or.inl rfl), (z_X11_fails_19 (aI (G.2.1 (F a 10)) (10 * p0.toInt + 0)) (aI (G.2.1 (F a 10)) (10 * p0.toInt + 4)) (aI (G.2.1 (F a 10)) (10 * p0.toInt + 5)) (flq (mw (G.2.1 p2) (p3.toInt)) (aI (G.2.1 (F a 10)) (10 * p0.toInt + 0)) (aI (G.2.1 (F a 10)) (10 * p0.toInt + 1)) (aI (G.2.1 (F a 10)) (10 * p0.toInt + 2)) (aI (G.2.1 (F a 10)) (10 * p0.toInt + 4)) (aI (G.2.1 (F a 10)) (10 * p0.toInt + 5)) (p1.toInt) (stt (mw (G.2.1 p2) (p3.toInt)) (aI (G.2.1 (F a 10)) (10 * p0.toInt + 0)) (aI (G.2.1 (F a 10)) (10 * p0.toInt + 1)) (aI (G.2.1 (F a 10)) (10 * p0.toInt + 2)) (aI (G.2.1 (F a 10)) (10 * p0.toInt + 3)) (p1.toInt))) (stt (mw (G.2.1 p2) (p3.toInt)) (aI (G.2.1 (F a 10)) (10 * p0.toInt + 0)) (aI (G.2.1 (F a 10)) (10 * p0.toInt + 1)) (aI (G.2.1 (F a 10)) (10 * p0.toInt + 2)) (aI (G.2.1 (F a 10)) (10 * p0.toInt + 3)) (p1.toInt)) c59 z118 c123)⟩ hh
      · refine lv_iload hx hb dX11_fails_126 (lv_at hl 1 rfl) ?_
        refine lv_sipush (v := (-2000)) hx hb dX11_fails_128 (by decide) ?_
        refine xi_ceq (tgt := 143) hx hb (t30 : Int32.toInt x30 = (stt (mw (G.2.1 p2) (p3.toInt)) (aI (G.2.1 (F a 10)) (10 * p0.toInt + 0)) (aI (G.2.1 (F a 10)) (10 * p0.toInt + 1)) (aI (G.2.1 (F a 10)) (10 * p0.toInt + 2)) (aI (G.2.1 (F a 10)) (10 * p0.toInt + 3)) (p1.toInt))) ((by decide) : Int32.toInt (-2000) = (-2000 : Int)) dX11_fails_131 (by decide) (fun c131 => ?_) (fun c131 => ?_)
        · refine lv_iconst (v := 0) hx hb dX11_fails_143 (by decide) ?_
          exact x_rz hx hb hr (xnz (Or.inl rfl)) hlk hQ (Nat.le_of_ble_eq_true rfl) (Nat.le_of_ble_eq_true rfl) hS dX11_fails_144 () ⟨_, rfl, (Or.inl rfl), (z_X11_fails_20 (aI (G.2.1 (F a 10)) (10 * p0.toInt + 0)) (aI (G.2.1 (F a 10)) (10 * p0.toInt + 4)) (aI (G.2.1 (F a 10)) (10 * p0.toInt + 5)) (flq (mw (G.2.1 p2) (p3.toInt)) (aI (G.2.1 (F a 10)) (10 * p0.toInt + 0)) (aI (G.2.1 (F a 10)) (10 * p0.toInt + 1)) (aI (G.2.1 (F a 10)) (10 * p0.toInt + 2)) (aI (G.2.1 (F a 10)) (10 * p0.toInt + 4)) (aI (G.2.1 (F a 10)) (10 * p0.toInt + 5)) (p1.toInt) (stt (mw (G.2.1 p2) (p3.toInt)) (aI (G.2.1 (F a 10)) (10 * p0.toInt + 0)) (aI (G.2.1 (F a 10)) (10 * p0.toInt + 1)) (aI (G.2.1 (F a 10)) (10 * p0.toInt + 2)) (aI (G.2.1 (F a 10)) (10 * p0.toInt + 3)) (p1.toInt))) (stt (mw (G.2.1 p2) (p3.toInt)) (aI (G.2.1 (F a 10)) (10 * p0.toInt + 0)) (aI (G.2.1 (F a 10)) (10 * p0.toInt + 1)) (aI (G.2.1 (F a 10)) (10 * p0.toInt + 2)) (aI (G.2.1 (F a 10)) (10 * p0.toInt + 3)) (p1.toInt)) c59 z118 c131)⟩ hh
        · refine lv_iload hx hb dX11_fails_134 (lv_at hl 0 rfl) ?_
          refine xi_zne (tgt := 143) hx hb (rfl : Int32.toInt x52 = x52.toInt) dX11_fails_136 (by decide) (fun c136 => ?_) (fun c136 => ?_)
          · refine lv_iconst (v := 0) hx hb dX11_fails_143 (by decide) ?_
            exact x_rz hx hb hr (xnz (Or.inl rfl)) hlk hQ (Nat.le_of_ble_eq_true rfl) (Nat.le_of_ble_eq_true rfl) hS dX11_fails_144 () ⟨_, rfl, (Or.inl rfl), (z_X11_fails_21 x52.toInt (aI (G.2.1 (F a 10)) (10 * p0.toInt + 0)) (aI (G.2.1 (F a 10)) (10 * p0.toInt + 4)) (aI (G.2.1 (F a 10)) (10 * p0.toInt + 5)) (flq (mw (G.2.1 p2) (p3.toInt)) (aI (G.2.1 (F a 10)) (10 * p0.toInt + 0)) (aI (G.2.1 (F a 10)) (10 * p0.toInt + 1)) (aI (G.2.1 (F a 10)) (10 * p0.toInt + 2)) (aI (G.2.1 (F a 10)) (10 * p0.toInt + 4)) (aI (G.2.1 (F a 10)) (10 * p0.toInt + 5)) (p1.toInt) (stt (mw (G.2.1 p2) (p3.toInt)) (aI (G.2.1 (F a 10)) (10 * p0.toInt + 0)) (aI (G.2.1 (F a 10)) (10 * p0.toInt + 1)) (aI (G.2.1 (F a 10)) (10 * p0.toInt + 2)) (aI (G.2.1 (F a 10)) (10 * p0.toInt + 3)) (p1.toInt))) (stt (mw (G.2.1 p2) (p3.toInt)) (aI (G.2.1 (F a 10)) (10 * p0.toInt + 0)) (aI (G.2.1 (F a 10)) (10 * p0.toInt + 1)) (aI (G.2.1 (F a 10)) (10 * p0.toInt + 2)) (aI (G.2.1 (F a 10)) (10 * p0.toInt + 3)) (p1.toInt)) t52 c59 z118 c136)⟩ hh
          · refine lv_iconst (v := 1) hx hb dX11_fails_139 (by decide) ?_
            refine lv_goto (tgt := 144) hx hb dX11_fails_140 (by decide) ?_
            exact x_rz hx hb hr (xnz (Or.inr rfl)) hlk hQ (Nat.le_of_ble_eq_true rfl) (Nat.le_of_ble_eq_true rfl) hS dX11_fails_144 () ⟨_, rfl, (Or.inr rfl), (z_X11_fails_22 x52.toInt (aI (G.2.1 (F a 10)) (10 * p0.toInt + 0)) (aI (G.2.1 (F a 10)) (10 * p0.toInt + 4)) (aI (G.2.1 (F a 10)) (10 * p0.toInt + 5)) (flq (mw (G.2.1 p2) (p3.toInt)) (aI (G.2.1 (F a 10)) (10 * p0.toInt + 0)) (aI (G.2.1 (F a 10)) (10 * p0.toInt + 1)) (aI (G.2.1 (F a 10)) (10 * p0.toInt + 2)) (aI (G.2.1 (F a 10)) (10 * p0.toInt + 4)) (aI (G.2.1 (F a 10)) (10 * p0.toInt + 5)) (p1.toInt) (stt (mw (G.2.1 p2) (p3.toInt)) (aI (G.2.1 (F a 10)) (10 * p0.toInt + 0)) (aI (G.2.1 (F a 10)) (10 * p0.toInt + 1)) (aI (G.2.1 (F a 10)) (10 * p0.toInt + 2)) (aI (G.2.1 (F a 10)) (10 * p0.toInt + 3)) (p1.toInt))) (stt (mw (G.2.1 p2) (p3.toInt)) (aI (G.2.1 (F a 10)) (10 * p0.toInt + 0)) (aI (G.2.1 (F a 10)) (10 * p0.toInt + 1)) (aI (G.2.1 (F a 10)) (10 * p0.toInt + 2)) (aI (G.2.1 (F a 10)) (10 * p0.toInt + 3)) (p1.toInt)) t52 c59 z118 c123 c131 c136)⟩ hh
    · refine lv_tableIn (off := 86) (tgt := 145) hx hb dX11_fails_59 (by rw [(t3 : Int32.toInt x3 = (aI (G.2.1 (F a 10)) (10 * p0.toInt + 0))), c59]; decide) (by rw [(t3 : Int32.toInt x3 = (aI (G.2.1 (F a 10)) (10 * p0.toInt + 0))), c59]; decide) (by rw [(t3 : Int32.toInt x3 = (aI (G.2.1 (F a 10)) (10 * p0.toInt + 0))), c59]; rfl) (by decide) ?_
      have z145 : (aI (G.2.1 (F a 10)) (10 * p0.toInt + 0)) = 3 → (((stt (mw (G.2.1 p2) (p3.toInt)) (aI (G.2.1 (F a 10)) (10 * p0.toInt + 0)) (aI (G.2.1 (F a 10)) (10 * p0.toInt + 1)) (aI (G.2.1 (F a 10)) (10 * p0.toInt + 2)) (aI (G.2.1 (F a 10)) (10 * p0.toInt + 3)) (p1.toInt)) ≠ 100000 ∧ ((stt (mw (G.2.1 p2) (p3.toInt)) (aI (G.2.1 (F a 10)) (10 * p0.toInt + 0)) (aI (G.2.1 (F a 10)) (10 * p0.toInt + 1)) (aI (G.2.1 (F a 10)) (10 * p0.toInt + 2)) (aI (G.2.1 (F a 10)) (10 * p0.toInt + 3)) (p1.toInt)) < (aI (G.2.1 (F a 10)) (10 * p0.toInt + 4)) ∨ (aI (G.2.1 (F a 10)) (10 * p0.toInt + 5)) < (stt (mw (G.2.1 p2) (p3.toInt)) (aI (G.2.1 (F a 10)) (10 * p0.toInt + 0)) (aI (G.2.1 (F a 10)) (10 * p0.toInt + 1)) (aI (G.2.1 (F a 10)) (10 * p0.toInt + 2)) (aI (G.2.1 (F a 10)) (10 * p0.toInt + 3)) (p1.toInt)))) ∧ (flq (mw (G.2.1 p2) (p3.toInt)) (aI (G.2.1 (F a 10)) (10 * p0.toInt + 0)) (aI (G.2.1 (F a 10)) (10 * p0.toInt + 1)) (aI (G.2.1 (F a 10)) (10 * p0.toInt + 2)) (aI (G.2.1 (F a 10)) (10 * p0.toInt + 4)) (aI (G.2.1 (F a 10)) (10 * p0.toInt + 5)) (p1.toInt) (stt (mw (G.2.1 p2) (p3.toInt)) (aI (G.2.1 (F a 10)) (10 * p0.toInt + 0)) (aI (G.2.1 (F a 10)) (10 * p0.toInt + 1)) (aI (G.2.1 (F a 10)) (10 * p0.toInt + 2)) (aI (G.2.1 (F a 10)) (10 * p0.toInt + 3)) (p1.toInt))) = 1) ∨ (¬ ((stt (mw (G.2.1 p2) (p3.toInt)) (aI (G.2.1 (F a 10)) (10 * p0.toInt + 0)) (aI (G.2.1 (F a 10)) (10 * p0.toInt + 1)) (aI (G.2.1 (F a 10)) (10 * p0.toInt + 2)) (aI (G.2.1 (F a 10)) (10 * p0.toInt + 3)) (p1.toInt)) ≠ 100000 ∧ ((stt (mw (G.2.1 p2) (p3.toInt)) (aI (G.2.1 (F a 10)) (10 * p0.toInt + 0)) (aI (G.2.1 (F a 10)) (10 * p0.toInt + 1)) (aI (G.2.1 (F a 10)) (10 * p0.toInt + 2)) (aI (G.2.1 (F a 10)) (10 * p0.toInt + 3)) (p1.toInt)) < (aI (G.2.1 (F a 10)) (10 * p0.toInt + 4)) ∨ (aI (G.2.1 (F a 10)) (10 * p0.toInt + 5)) < (stt (mw (G.2.1 p2) (p3.toInt)) (aI (G.2.1 (F a 10)) (10 * p0.toInt + 0)) (aI (G.2.1 (F a 10)) (10 * p0.toInt + 1)) (aI (G.2.1 (F a 10)) (10 * p0.toInt + 2)) (aI (G.2.1 (F a 10)) (10 * p0.toInt + 3)) (p1.toInt)))) ∧ (flq (mw (G.2.1 p2) (p3.toInt)) (aI (G.2.1 (F a 10)) (10 * p0.toInt + 0)) (aI (G.2.1 (F a 10)) (10 * p0.toInt + 1)) (aI (G.2.1 (F a 10)) (10 * p0.toInt + 2)) (aI (G.2.1 (F a 10)) (10 * p0.toInt + 4)) (aI (G.2.1 (F a 10)) (10 * p0.toInt + 5)) (p1.toInt) (stt (mw (G.2.1 p2) (p3.toInt)) (aI (G.2.1 (F a 10)) (10 * p0.toInt + 0)) (aI (G.2.1 (F a 10)) (10 * p0.toInt + 1)) (aI (G.2.1 (F a 10)) (10 * p0.toInt + 2)) (aI (G.2.1 (F a 10)) (10 * p0.toInt + 3)) (p1.toInt))) = 0) := flq_k3
      refine lv_iload hx hb dX11_fails_145 (lv_at hl 1 rfl) ?_
      refine lv_ldc (v := 100000) hx hb S.2.2.2.1 (S.2.2.2.2 _ (List.mem_cons_of_mem _ kc_X11_175)) dX11_fails_147 ?_
      refine xi_ceq (tgt := 161) hx hb (t30 : Int32.toInt x30 = (stt (mw (G.2.1 p2) (p3.toInt)) (aI (G.2.1 (F a 10)) (10 * p0.toInt + 0)) (aI (G.2.1 (F a 10)) (10 * p0.toInt + 1)) (aI (G.2.1 (F a 10)) (10 * p0.toInt + 2)) (aI (G.2.1 (F a 10)) (10 * p0.toInt + 3)) (p1.toInt))) ((by decide) : Int32.toInt 100000 = (100000 : Int)) dX11_fails_149 (by decide) (fun c149 => ?_) (fun c149 => ?_)
      · refine lv_iconst (v := 0) hx hb dX11_fails_161 (by decide) ?_
        exact x_rz hx hb hr (xnz (Or.inl rfl)) hlk hQ (Nat.le_of_ble_eq_true rfl) (Nat.le_of_ble_eq_true rfl) hS dX11_fails_162 () ⟨_, rfl, (Or.inl rfl), (z_X11_fails_23 (aI (G.2.1 (F a 10)) (10 * p0.toInt + 0)) (aI (G.2.1 (F a 10)) (10 * p0.toInt + 4)) (aI (G.2.1 (F a 10)) (10 * p0.toInt + 5)) (flq (mw (G.2.1 p2) (p3.toInt)) (aI (G.2.1 (F a 10)) (10 * p0.toInt + 0)) (aI (G.2.1 (F a 10)) (10 * p0.toInt + 1)) (aI (G.2.1 (F a 10)) (10 * p0.toInt + 2)) (aI (G.2.1 (F a 10)) (10 * p0.toInt + 4)) (aI (G.2.1 (F a 10)) (10 * p0.toInt + 5)) (p1.toInt) (stt (mw (G.2.1 p2) (p3.toInt)) (aI (G.2.1 (F a 10)) (10 * p0.toInt + 0)) (aI (G.2.1 (F a 10)) (10 * p0.toInt + 1)) (aI (G.2.1 (F a 10)) (10 * p0.toInt + 2)) (aI (G.2.1 (F a 10)) (10 * p0.toInt + 3)) (p1.toInt))) (stt (mw (G.2.1 p2) (p3.toInt)) (aI (G.2.1 (F a 10)) (10 * p0.toInt + 0)) (aI (G.2.1 (F a 10)) (10 * p0.toInt + 1)) (aI (G.2.1 (F a 10)) (10 * p0.toInt + 2)) (aI (G.2.1 (F a 10)) (10 * p0.toInt + 3)) (p1.toInt)) c59 z145 c149)⟩ hh
      · refine lv_iload hx hb dX11_fails_152 (lv_at hl 0 rfl) ?_
        refine xi_zne (tgt := 161) hx hb (rfl : Int32.toInt x52 = x52.toInt) dX11_fails_154 (by decide) (fun c154 => ?_) (fun c154 => ?_)
        · refine lv_iconst (v := 0) hx hb dX11_fails_161 (by decide) ?_
          exact x_rz hx hb hr (xnz (Or.inl rfl)) hlk hQ (Nat.le_of_ble_eq_true rfl) (Nat.le_of_ble_eq_true rfl) hS dX11_fails_162 () ⟨_, rfl, (Or.inl rfl), (z_X11_fails_24 x52.toInt (aI (G.2.1 (F a 10)) (10 * p0.toInt + 0)) (aI (G.2.1 (F a 10)) (10 * p0.toInt + 4)) (aI (G.2.1 (F a 10)) (10 * p0.toInt + 5)) (flq (mw (G.2.1 p2) (p3.toInt)) (aI (G.2.1 (F a 10)) (10 * p0.toInt + 0)) (aI (G.2.1 (F a 10)) (10 * p0.toInt + 1)) (aI (G.2.1 (F a 10)) (10 * p0.toInt + 2)) (aI (G.2.1 (F a 10)) (10 * p0.toInt + 4)) (aI (G.2.1 (F a 10)) (10 * p0.toInt + 5)) (p1.toInt) (stt (mw (G.2.1 p2) (p3.toInt)) (aI (G.2.1 (F a 10)) (10 * p0.toInt + 0)) (aI (G.2.1 (F a 10)) (10 * p0.toInt + 1)) (aI (G.2.1 (F a 10)) (10 * p0.toInt + 2)) (aI (G.2.1 (F a 10)) (10 * p0.toInt + 3)) (p1.toInt))) (stt (mw (G.2.1 p2) (p3.toInt)) (aI (G.2.1 (F a 10)) (10 * p0.toInt + 0)) (aI (G.2.1 (F a 10)) (10 * p0.toInt + 1)) (aI (G.2.1 (F a 10)) (10 * p0.toInt + 2)) (aI (G.2.1 (F a 10)) (10 * p0.toInt + 3)) (p1.toInt)) t52 c59 z145 c154)⟩ hh
        · refine lv_iconst (v := 1) hx hb dX11_fails_157 (by decide) ?_
          refine lv_goto (tgt := 162) hx hb dX11_fails_158 (by decide) ?_
          exact x_rz hx hb hr (xnz (Or.inr rfl)) hlk hQ (Nat.le_of_ble_eq_true rfl) (Nat.le_of_ble_eq_true rfl) hS dX11_fails_162 () ⟨_, rfl, (Or.inr rfl), (z_X11_fails_25 x52.toInt (aI (G.2.1 (F a 10)) (10 * p0.toInt + 0)) (aI (G.2.1 (F a 10)) (10 * p0.toInt + 4)) (aI (G.2.1 (F a 10)) (10 * p0.toInt + 5)) (flq (mw (G.2.1 p2) (p3.toInt)) (aI (G.2.1 (F a 10)) (10 * p0.toInt + 0)) (aI (G.2.1 (F a 10)) (10 * p0.toInt + 1)) (aI (G.2.1 (F a 10)) (10 * p0.toInt + 2)) (aI (G.2.1 (F a 10)) (10 * p0.toInt + 4)) (aI (G.2.1 (F a 10)) (10 * p0.toInt + 5)) (p1.toInt) (stt (mw (G.2.1 p2) (p3.toInt)) (aI (G.2.1 (F a 10)) (10 * p0.toInt + 0)) (aI (G.2.1 (F a 10)) (10 * p0.toInt + 1)) (aI (G.2.1 (F a 10)) (10 * p0.toInt + 2)) (aI (G.2.1 (F a 10)) (10 * p0.toInt + 3)) (p1.toInt))) (stt (mw (G.2.1 p2) (p3.toInt)) (aI (G.2.1 (F a 10)) (10 * p0.toInt + 0)) (aI (G.2.1 (F a 10)) (10 * p0.toInt + 1)) (aI (G.2.1 (F a 10)) (10 * p0.toInt + 2)) (aI (G.2.1 (F a 10)) (10 * p0.toInt + 3)) (p1.toInt)) t52 c59 z145 c149 c154)⟩ hh
  · have z14 : (aI (G.2.1 (F a 10)) (10 * p0.toInt + 0)) = 5 → (flq (mw (G.2.1 p2) (p3.toInt)) (aI (G.2.1 (F a 10)) (10 * p0.toInt + 0)) (aI (G.2.1 (F a 10)) (10 * p0.toInt + 1)) (aI (G.2.1 (F a 10)) (10 * p0.toInt + 2)) (aI (G.2.1 (F a 10)) (10 * p0.toInt + 4)) (aI (G.2.1 (F a 10)) (10 * p0.toInt + 5)) (p1.toInt) (stt (mw (G.2.1 p2) (p3.toInt)) (aI (G.2.1 (F a 10)) (10 * p0.toInt + 0)) (aI (G.2.1 (F a 10)) (10 * p0.toInt + 1)) (aI (G.2.1 (F a 10)) (10 * p0.toInt + 2)) (aI (G.2.1 (F a 10)) (10 * p0.toInt + 3)) (p1.toInt))) = (rgq (mw (G.2.1 p2) (p3.toInt)) (aI (G.2.1 (F a 10)) (10 * p0.toInt + 1)) (aI (G.2.1 (F a 10)) (10 * p0.toInt + 2)) (p1.toInt) 30 (cel (mw (G.2.1 p2) (p3.toInt)) (aI (G.2.1 (F a 10)) (10 * p0.toInt + 1)) (p1.toInt) (aI (G.2.1 (F a 10)) (10 * p0.toInt + 2)))) := flq_k5
    refine lv_aload_n hx hb dX11_fails_14 rfl (lv_at hl 1 rfl) ?_
    refine lv_iload_n hx hb dX11_fails_15 rfl (lv_at hl 2 rfl) ?_
    refine lv_iload_n hx hb dX11_fails_16 rfl (lv_at hl 3 rfl) ?_
    refine lv_aload_n hx hb dX11_fails_17 rfl (lv_at hl 4 rfl) ?_
    refine lv_iload hx hb dX11_fails_18 (lv_at hl 5 rfl) ?_
    refine x_clp (x_runV (b := a) (As := [.int p0, .int p1, .ref p2, .int p3]) (rest := []) S (c_X11_isRing l E K F G s.heap a p0 p1 p2 p3 ha hp2 (e0) (z_X11_fails_27 p1.toInt (aI (G.2.1 (F a 10)) (10 * p0.toInt + 0)) (sF (aI (G.2.1 (F a 10)) (10 * p0.toInt + 0))) (sL (aI (G.2.1 (F a 10)) (10 * p0.toInt + 0))) e2 z0a c11) (v_X11_fails_20_3 a G hR) (v_X11_fails_20_4 G p2 p3 hM)) mv_X11_isRing km_X11_193 rfl rfl ⟨Nat.le_of_ble_eq_true rfl, Nat.le_of_ble_eq_true rfl⟩ (rc_13 hK hT ha) hK (fun _ => XPh.blind) (fun U hU hW => XPh.at hK hz hS hT hU hW) rfl hl.1 (Nat.le_of_ble_eq_true rfl) dX11_fails_20 ⟨Nat.le_of_ble_eq_true rfl, Nat.le_of_ble_eq_true rfl⟩) hS ?_
    rintro _ _ locs ⟨x20, rfl, b20, t20⟩ hS
    have t20 : x20.toInt = (rgq (mw (G.2.1 p2) (p3.toInt)) (aI (G.2.1 (F a 10)) (10 * p0.toInt + 1)) (aI (G.2.1 (F a 10)) (10 * p0.toInt + 2)) (p1.toInt) 30 (cel (mw (G.2.1 p2) (p3.toInt)) (aI (G.2.1 (F a 10)) (10 * p0.toInt + 1)) (p1.toInt) (aI (G.2.1 (F a 10)) (10 * p0.toInt + 2)))) := t20
    exact x_rz hx hb hr (xnz b20) hlk hQ (Nat.le_of_ble_eq_true rfl) (Nat.le_of_ble_eq_true rfl) hS dX11_fails_23 () ⟨_, rfl, b20, (z_X11_fails_28 x20.toInt (aI (G.2.1 (F a 10)) (10 * p0.toInt + 0)) (flq (mw (G.2.1 p2) (p3.toInt)) (aI (G.2.1 (F a 10)) (10 * p0.toInt + 0)) (aI (G.2.1 (F a 10)) (10 * p0.toInt + 1)) (aI (G.2.1 (F a 10)) (10 * p0.toInt + 2)) (aI (G.2.1 (F a 10)) (10 * p0.toInt + 4)) (aI (G.2.1 (F a 10)) (10 * p0.toInt + 5)) (p1.toInt) (stt (mw (G.2.1 p2) (p3.toInt)) (aI (G.2.1 (F a 10)) (10 * p0.toInt + 0)) (aI (G.2.1 (F a 10)) (10 * p0.toInt + 1)) (aI (G.2.1 (F a 10)) (10 * p0.toInt + 2)) (aI (G.2.1 (F a 10)) (10 * p0.toInt + 3)) (p1.toInt))) (rgq (mw (G.2.1 p2) (p3.toInt)) (aI (G.2.1 (F a 10)) (10 * p0.toInt + 1)) (aI (G.2.1 (F a 10)) (10 * p0.toInt + 2)) (p1.toInt) 30 (cel (mw (G.2.1 p2) (p3.toInt)) (aI (G.2.1 (F a 10)) (10 * p0.toInt + 1)) (p1.toInt) (aI (G.2.1 (F a 10)) (10 * p0.toInt + 2)))) c11 z14 t20)⟩ hh
section
section XM
variable {p : Program} {l : Launch} {e : Env} {R : Room} {s : State} {m : MethodId} {args : Array Value} {below : List Frame} {meth : Method} {c : Code} {H : Heap} {locs : List Loc} {cells slots : Nat} {Q : State → Prop}
variable {pc : Nat} {ls : Array Slot} {rest : List Value} {H0 : Heap} {E : XE} {cc : ByteArray} {nL : Nat} {own : String} {w0 : Cond} {K : Nat → Nat} {F : Nat → Nat → Nat} {G : XG} {a : Nat} {X Y : Int}
theorem ast_o (S : CallFix p m c cc nL s args (w0 :: GT) own) (hK : XK E s) (hT : TW E K F G H) (hS : va_S (xA E) H0 H locs) {fr : Int} (ha : XO K a fr) {i x : Int32} (hin : 0 ≤ i.toInt ∧ i.toInt < fr + 360) (hdg : decode cc pc = .ok (.iastore, 1)) (kk : ∀ (H1 : Heap) (locs1 : List Loc), TW E K F (cput G a i.toNatClampNeg x) H1 → va_S (xA E) H0 H1 locs1 → W p l e R s m args below meth c H1 locs1 cells slots Q (F0 m (pc + 1) ls rest)) : W p l e R s m args below meth c H locs cells slots Q (F0 m pc ls (.int x :: .int i :: .ref a :: rest)) := by
  rcases ha with ⟨h | h, rfl⟩ | ⟨h, h0, h1⟩
  · exact as_0 S hK hT hS h ar_30 aw_30 (by decide) (by omega) hdg kk
  · exact as_0 S hK hT hS h ar_31 aw_31 (by decide) (by omega) hdg kk
  · exact as_0 S hK hT hS h ar_32 aw_32 (by decide) (by omega) hdg kk
end XM
/-- 360 numbers are copied -/
def CPd (f g g2 : Nat → Int32) (b b2 n : Int) : Prop := ∀ z : Int, 0 ≤ z → aI g2 z = if b2 ≤ z ∧ z < b2 + n then aI f (z - b2 + b) else aI g z
theorem CPd.vwm {f g g2 : Nat → Int32} {b b2 : Int} (h : CPd f g g2 b b2 360) (h2 : 0 ≤ b2) : mw g2 b2 = mw f b := by
  funext z
  unfold mw
  by_cases hz : 0 ≤ z ∧ z < 270
  · have e1 : aI g2 (b2 + 4 * (30 * (z / 90) + z % 30)) = aI f (b + 4 * (30 * (z / 90) + z % 30)) := by rw [h _ (by omega), if_pos (by omega)]; congr 1; omega
    have e2 : aI g2 (b2 + 4 * (30 * (z / 90) + z % 30) + 1 + z / 30 % 3) = aI f (b + 4 * (30 * (z / 90) + z % 30) + 1 + z / 30 % 3) := by rw [h _ (by omega), if_pos (by omega)]; congr 1; omega
    rw [if_pos hz, if_pos hz, e1, e2]
  · rw [if_neg hz, if_neg hz]
theorem CPd.rm {f g g2 : Nat → Int32} {b b2 : Int} (h : CPd f g g2 b b2 360) (h2 : 0 ≤ b2) (hr : RM f b) : RM g2 b2 := by
  intro t k a1 a2 a3 a4
  have e1 : aI g2 (b2 + 4 * (30 * t + k)) = aI f (b + 4 * (30 * t + k)) := by rw [h _ (by omega), if_pos (by omega)]; congr 1; omega
  have e2 : ∀ c : Int, 0 ≤ c → c < 3 → aI g2 (b2 + 4 * (30 * t + k) + 1 + c) = aI f (b + 4 * (30 * t + k) + 1 + c) := fun c c0 c1 => by rw [h _ (by omega), if_pos (by omega)]; congr 1; omega
  rw [e1]
  rcases hr t k a1 a2 a3 a4 with q | ⟨q, q2⟩
  · exact Or.inl q
  · exact Or.inr ⟨q, fun c c0 c1 => by rw [e2 c c0 c1]; exact q2 c c0 c1⟩
theorem CPd.far {f g g2 : Nat → Int32} {b b2 b3 : Int} (h : CPd f g g2 b b2 360) (h3 : 0 ≤ b3) (hf : b3 + 360 ≤ b2 ∨ b2 + 360 ≤ b3) : mw g2 b3 = mw g b3 ∧ (RM g b3 → RM g2 b3) := by
  have e : ∀ z : Int, b3 ≤ z → z < b3 + 360 → aI g2 z = aI g z := fun z z0 z1 => by rw [h z (by omega), if_neg (by omega)]
  constructor
  · funext z
    unfold mw
    by_cases hz : 0 ≤ z ∧ z < 270
    · rw [if_pos hz, if_pos hz, e _ (by omega) (by omega), e _ (by omega) (by omega)]
    · rw [if_neg hz, if_neg hz]
  · intro hr t k a1 a2 a3 a4
    rw [e _ (by omega) (by omega)]
    rcases hr t k a1 a2 a3 a4 with q | ⟨q, q2⟩
    · exact Or.inl q
    · exact Or.inr ⟨q, fun c c0 c1 => by rw [e _ (by omega) (by omega)]; exact q2 c c0 c1⟩
/-- the states of the rules below n are laid down -/
def LSt (f g : Nat → Int32) (r : Int → Int) (n : Int) : Prop := ∀ q s : Int, 0 ≤ q → q < n → aI f (10 * q + 0) ≠ -1 → sbj (aI f (10 * q + 0)) s → aI g (199 * q + s + 99) = stt r (aI f (10 * q + 0)) (aI f (10 * q + 1)) (aI f (10 * q + 2)) (aI f (10 * q + 3)) s
/-- the reference's order -/
def prM (f : Nat → Int32) (i : Nat) : Bool := decide (aI f (10 * (i : Int) + 0) ≠ -1)
def rkM (f : Nat → Int32) (i : Nat) : Int := aI f (10 * (i : Int) + 7)
def ORm (f g : Nat → Int32) (sz : Int) (n : Nat) : Prop := sz = ((ordN (prM f) (rkM f) n).1 : Int) ∧ ∀ i : Nat, i < (ordN (prM f) (rkM f) n).1 → (g i).toInt = (((ordN (prM f) (rkM f) n).2 i : Nat) : Int)
theorem ORm.ent {f g : Nat → Int32} {sz : Int} {n : Nat} (h : ORm f g sz n) (hn : n ≤ 12) {z : Int} (hz : 0 ≤ z ∧ z < sz) : 0 ≤ aI g z ∧ aI g z ≤ 11 ∧ aI f (10 * aI g z + 0) ≠ -1 := by
  have h1 := h.1
  have h2 := h.2 z.toNat (by omega)
  have h3 := ordN_in (prM f) (rkM f) n z.toNat (by omega)
  have e : aI g z = (((ordN (prM f) (rkM f) n).2 z.toNat : Nat) : Int) := h2
  rw [e]
  exact ⟨by omega, by omega, of_decide_eq_true h3.2⟩
theorem ORm.skip {f g : Nat → Int32} {sz : Int} {n : Nat} (h : ORm f g sz n) (hn : aI f (10 * (n : Int) + 0) = -1) : ORm f g sz (n + 1) := by
  unfold ORm at h ⊢
  rw [ordN_f (show prM f n = false from decide_eq_false (fun q => q hn))]
  exact h
theorem ORm.step {f g g2 : Nat → Int32} {sz sz2 : Int} {n p : Nat} {xv : Int32} (h : ORm f g sz n) (hn : aI f (10 * (n : Int) + 0) ≠ -1) (hx : xv.toInt = (n : Int)) (hs : sz2 = sz + 1) (hp : p = posR (fun j => aI f (10 * (g j).toInt + 7)) (aI f (10 * (n : Int) + 7)) sz.toNat) (hg : ∀ i : Nat, (i : Int) ≤ sz → g2 i = insF g p xv i) : ORm f g2 sz2 (n + 1) := by
  obtain ⟨h1, h2⟩ := h
  unfold ORm
  rw [ordN_t (show prM f n = true from decide_eq_true hn)]
  have hp2 : p = posR (fun i => rkM f ((ordN (prM f) (rkM f) n).2 i)) (rkM f n) (ordN (prM f) (rkM f) n).1 := by
    rw [hp, show sz.toNat = (ordN (prM f) (rkM f) n).1 from by omega]
    exact posR_congr (fun i hi => by show aI f (10 * (g i).toInt + 7) = aI f (10 * (((ordN (prM f) (rkM f) n).2 i : Nat) : Int) + 7); rw [h2 i hi])
  rw [← hp2]
  refine ⟨by rw [hs, h1]; rfl, fun i hi => ?_⟩
  have hi2 : i < (ordN (prM f) (rkM f) n).1 + 1 := hi
  have hl := posR_le (fun i => rkM f ((ordN (prM f) (rkM f) n).2 i)) (rkM f n) (ordN (prM f) (rkM f) n).1
  rw [← hp2] at hl
  rw [hg i (by omega)]
  show (insF g p xv i).toInt = ((insF _ p n i : Nat) : Int)
  unfold insF
  by_cases e1 : i < p
  · rw [if_pos e1, if_pos e1]
    exact h2 i (by omega)
  · rw [if_neg e1, if_neg e1]
    by_cases e2 : i = p
    · rw [if_pos e2, if_pos e2, hx]
    · rw [if_neg e2, if_neg e2]
      exact h2 (i - 1) (by omega)
/-- unlike questions of a rule of the reference -/
noncomputable def fu1 (f : Nat → Int32) (r1 r2 : Int → Int) (q s : Int) : Option (Int × Int) := if stt r1 (aI f (10 * q + 0)) (aI f (10 * q + 1)) (aI f (10 * q + 2)) (aI f (10 * q + 3)) s ≠ stt r2 (aI f (10 * q + 0)) (aI f (10 * q + 1)) (aI f (10 * q + 2)) (aI f (10 * q + 3)) s then some (q, s) else none
noncomputable def fus (f : Nat → Int32) (r1 r2 : Int → Int) (late q : Int) : List (Int × Int) := if late = 2 ∨ aI f (10 * q + 6) = late then (subs (aI f (10 * q + 0))).filterMap (fu1 f r1 r2 q) else []
noncomputable def fuL (f : Nat → Int32) (r1 r2 : Int → Int) (late : Int) (o : Nat → Nat) : Nat → List (Int × Int)
  | 0 => []
  | n + 1 => fuL f r1 r2 late o n ++ fus f r1 r2 late ((o n : Nat) : Int)
theorem subs_lst (kd : Int) : subs kd = lst (fun i : Nat => (i : Int) + sF kd) (sL kd - sF kd + 1).toNat := by
  unfold subs sF sL lst
  split
  · rfl
  · rfl
/-- what was found, in order -/
def pL (G : XG) (F : Nat → Nat → Nat) (a : Nat) : List (Int × Int) := lst (fun i => ((G.2.1 (F a 17) i).toInt, (G.2.1 (F a 18) i).toInt)) (G.1 a 19).toInt.toNat
theorem pL_push {G u : XG} {F : Nat → Nat → Nat} {a : Nat} {n : Nat} {x0 x1 : Int32} (hn : (G.1 a 19).toInt = n) (hu : (u.1 a 19).toInt = (n : Int) + 1) (h0 : ∀ j, u.2.1 (F a 17) j = if j = n then x0 else G.2.1 (F a 17) j) (h1 : ∀ j, u.2.1 (F a 18) j = if j = n then x1 else G.2.1 (F a 18) j) : pL u F a = pL G F a ++ [(x0.toInt, x1.toInt)] := by
  unfold pL
  rw [hn, hu, show ((n : Int) + 1).toNat = n + 1 from by omega, show (n : Int).toNat = n from by omega]
  refine lst_push (fun i hi => ?_) ?_
  · have e : ¬ (i = n) := by omega
    rw [h0, h1, if_neg e, if_neg e]
  · rw [h0, h1, if_pos rfl, if_pos rfl]
theorem pL_cg {G u : XG} {F : Nat → Nat → Nat} {a : Nat} (hn : u.1 a 19 = G.1 a 19) (h0 : u.2.1 (F a 17) = G.2.1 (F a 17)) (h1 : u.2.1 (F a 18) = G.2.1 (F a 18)) : pL u F a = pL G F a := by
  unfold pL
  rw [hn, h0, h1]
theorem lo_ent {f g g2 : Nat → Int32} {sz k l : Int} (po : ORm f g sz l.toNat) (ps : shf g g2 k.toNat sz.toNat) (h : 0 ≤ l ∧ l ≤ 12 ∧ 1 ≤ k ∧ k ≤ sz) : (0 ≤ aI g2 (k - 1) ∧ aI g2 (k - 1) ≤ 11) ∧ aI g2 (k - 1) = aI g (k - 1) := by
  have e : aI g2 (k - 1) = aI g (k - 1) := congrArg Int32.toInt (ps.1 (k - 1).toNat (by omega))
  have := po.ent (by omega) (z := k - 1) (by omega)
  rw [e]
  exact ⟨⟨this.1, this.2.1⟩, rfl⟩
end
theorem v_X11_copy_29_1 (p2 : Nat) (G : XG) (G_3 : XG) (p0 : Nat) (p1 : Int32) (p3 : Int32) (l4_3 : Int32) (N3 : Nat)
    (hne : p0 ≠ p2)
    (pc : CPd (G.2.1 p0) (G.2.1 p2) (G_3.2.1 p2) (p1.toInt) (p3.toInt) l4_3.toInt)
    (f3 : 0 ≤ p1.toInt ∧ p1.toInt ≤ 2520)
    (f4 : 0 ≤ p3.toInt ∧ p3.toInt ≤ 2520)
    (I3_0 : 0 ≤ l4_3.toInt ∧ l4_3.toInt ≤ 360)
    (I3_1 : (0 : Int) ≤ l4_3.toInt)
    (hm3 : 2147483648 - l4_3.toInt < (((N3) + 1 : Nat) : Int))
    (c8 : (360 : Int) ≤ l4_3.toInt) :
    CPd (G.2.1 p0) (G.2.1 p2) (G_3.2.1 p2) (p1.toInt) (p3.toInt) 360 := by
  rw [show (360 : Int) = l4_3.toInt from by omega]; exact pc
theorem v_X11_copy_26_2 (p2 : Nat) (G : XG) (G_3 : XG) (G22 : XG) (x15 : Int32) (x21 : Int32) (p0 : Nat) (p1 : Int32) (p3 : Int32) (l4_3 : Int32) (N3 : Nat)
    (hG22 : G22 = cput G_3 p2 x15.toNatClampNeg x21)
    (hne : p0 ≠ p2)
    (pc : CPd (G.2.1 p0) (G.2.1 p2) (G_3.2.1 p2) (p1.toInt) (p3.toInt) l4_3.toInt)
    (e15 : x15.toInt = (p3.toInt + l4_3.toInt))
    (hv21 : x21.toInt = (aI (G.2.1 p0) (p1.toInt + l4_3.toInt)))
    (f8 : 0 ≤ p1.toInt ∧ p1.toInt ≤ 2520)
    (f9 : 0 ≤ p3.toInt ∧ p3.toInt ≤ 2520)
    (I3_0 : 0 ≤ l4_3.toInt ∧ l4_3.toInt ≤ 360)
    (I3_1 : (0 : Int) ≤ l4_3.toInt)
    (hm3 : 2147483648 - l4_3.toInt < (((N3) + 1 : Nat) : Int))
    (c8 : ¬ ((360 : Int) ≤ l4_3.toInt)) :
    CPd (G.2.1 p0) (G.2.1 p2) (G22.2.1 p2) (p1.toInt) (p3.toInt) (l4_3.toInt + 1) := by
  intro z hz
  rw [hG22, aI_put (by omega) z hz, pc z hz]
  by_cases e : z = x15.toInt
  · rw [if_pos e, if_pos (by omega), hv21]
    congr 1
    omega
  · rw [if_neg e]
    by_cases g : p3.toInt ≤ z ∧ z < p3.toInt + l4_3.toInt
    · rw [if_pos g, if_pos (by omega)]
    · rw [if_neg g, if_neg (by omega)]
theorem v_X11_copy_1_3 (p0 : Nat) (p2 : Nat) (p1 : Int32) (p3 : Int32) (G : XG)
    (hne : p0 ≠ p2)
    (f1 : 0 ≤ p1.toInt ∧ p1.toInt ≤ 2520)
    (f2 : 0 ≤ p3.toInt ∧ p3.toInt ≤ 2520) :
    CPd (G.2.1 p0) (G.2.1 p2) (G.2.1 p2) (p1.toInt) (p3.toInt) (0 : Int) := by
  intro z hz; rw [if_neg (by omega)]
theorem v_X11_layStates_69_1 {K : Nat → Nat} {F : Nat → Nat → Nat} (a : Nat) (p0 : Nat) (G : XG) (G_3 : XG) (p1 : Nat) (p2 : Int32) (l4_3 : Int32) (N3 : Nat)
    (ha : K a = 13)
    (hp0 : K p0 = 38)
    (pl : LSt (G.2.1 (F a 10)) (G_3.2.1 p0) (mw (G.2.1 p1) (p2.toInt)) l4_3.toInt)
    (lo : G_3.2.2.2 = G.2.2.2)
    (f9 : 0 ≤ p2.toInt ∧ p2.toInt ≤ 2520)
    (I3_0 : 0 ≤ l4_3.toInt ∧ l4_3.toInt ≤ 12)
    (I3_1 : (0 : Int) ≤ l4_3.toInt)
    (hm3 : 2147483648 - l4_3.toInt < (((N3) + 1 : Nat) : Int))
    (c7 : (12 : Int) ≤ l4_3.toInt) :
    LSt (G.2.1 (F a 10)) (G_3.2.1 p0) (mw (G.2.1 p1) (p2.toInt)) 12 := by
  rw [show (12 : Int) = l4_3.toInt from by omega]; exact pl
theorem v_X11_layStates_69_2 (G : XG) (G_3 : XG)
    (lo : G_3.2.2.2 = G.2.2.2) :
    G_3.2.2.2 = G.2.2.2 := by
  first
    | exact lo
    | rfl
    | (rw [hG56]; exact lo)
theorem v_X11_layStates_66_3 {K : Nat → Nat} {F : Nat → Nat → Nat} (a : Nat) (p0 : Nat) (G : XG) (G_3 : XG) (p1 : Nat) (p2 : Int32) (l4_3 : Int32) (N3 : Nat) (x13 : Int32)
    (ha : K a = 13)
    (hp0 : K p0 = 38)
    (pl : LSt (G.2.1 (F a 10)) (G_3.2.1 p0) (mw (G.2.1 p1) (p2.toInt)) l4_3.toInt)
    (lo : G_3.2.2.2 = G.2.2.2)
    (f10 : 0 ≤ p2.toInt ∧ p2.toInt ≤ 2520)
    (I3_0 : 0 ≤ l4_3.toInt ∧ l4_3.toInt ≤ 12)
    (I3_1 : (0 : Int) ≤ l4_3.toInt)
    (hm3 : 2147483648 - l4_3.toInt < (((N3) + 1 : Nat) : Int))
    (c7 : ¬ ((12 : Int) ≤ l4_3.toInt))
    (t13 : (x13.toInt = 1 ∧ 0 ≤ l4_3.toInt ∧ l4_3.toInt ≤ 11 ∧ (aI (G.2.1 (F a 10)) (10 * l4_3.toInt + 0)) ≠ -1) ∨ (x13.toInt = 0 ∧ (¬ (0 ≤ l4_3.toInt ∧ l4_3.toInt ≤ 11) ∨ (aI (G.2.1 (F a 10)) (10 * l4_3.toInt + 0)) = -1)))
    (c16 : x13.toInt = 0) :
    LSt (G.2.1 (F a 10)) (G_3.2.1 p0) (mw (G.2.1 p1) (p2.toInt)) (l4_3.toInt + 1) := by
  intro q s h1 h2 h3 h4
  by_cases e : q = l4_3.toInt
  · subst e
    first
      | exact absurd h3 (by omega)
      | (have h5 := sbj_FL.mp h4
         exact pi s h5.1 (by omega))
  · exact pl q s h1 (by omega) h3 h4
theorem v_X11_layStates_66_4 (G : XG) (G_3 : XG)
    (lo : G_3.2.2.2 = G.2.2.2) :
    G_3.2.2.2 = G.2.2.2 := by
  exact lo
theorem v_X11_layStates_66_5 {K : Nat → Nat} {F : Nat → Nat → Nat} (a : Nat) (p0 : Nat) (G : XG) (G_27 : XG) (p1 : Nat) (p2 : Int32) (l4_3 : Int32) (l5_27 : Int32) (N3 : Nat) (x13 : Int32) (N27 : Nat)
    (ha : K a = 13)
    (hp0 : K p0 = 38)
    (lo : G_27.2.2.2 = G.2.2.2)
    (pl : LSt (G.2.1 (F a 10)) (G_27.2.1 p0) (mw (G.2.1 p1) (p2.toInt)) l4_3.toInt)
    (pi : ∀ s : Int, sF (aI (G.2.1 (F a 10)) (10 * l4_3.toInt + 0)) ≤ s → s < l5_27.toInt → aI (G_27.2.1 p0) (199 * l4_3.toInt + s + 99) = stt (mw (G.2.1 p1) (p2.toInt)) (aI (G.2.1 (F a 10)) (10 * l4_3.toInt + 0)) (aI (G.2.1 (F a 10)) (10 * l4_3.toInt + 1)) (aI (G.2.1 (F a 10)) (10 * l4_3.toInt + 2)) (aI (G.2.1 (F a 10)) (10 * l4_3.toInt + 3)) (s))
    (f14 : 0 ≤ p2.toInt ∧ p2.toInt ≤ 2520)
    (I3_0 : 0 ≤ l4_3.toInt ∧ l4_3.toInt ≤ 12)
    (I3_1 : (0 : Int) ≤ l4_3.toInt)
    (hm3 : 2147483648 - l4_3.toInt < (((N3) + 1 : Nat) : Int))
    (c7 : ¬ ((12 : Int) ≤ l4_3.toInt))
    (t13 : (x13.toInt = 1 ∧ 0 ≤ l4_3.toInt ∧ l4_3.toInt ≤ 11 ∧ (aI (G.2.1 (F a 10)) (10 * l4_3.toInt + 0)) ≠ -1) ∨ (x13.toInt = 0 ∧ (¬ (0 ≤ l4_3.toInt ∧ l4_3.toInt ≤ 11) ∨ (aI (G.2.1 (F a 10)) (10 * l4_3.toInt + 0)) = -1)))
    (c16 : ¬ (x13.toInt = 0))
    (z19 : (-1 ≤ (aI (G.2.1 (F a 10)) (10 * l4_3.toInt + 0)) ∧ (aI (G.2.1 (F a 10)) (10 * l4_3.toInt + 0)) ≤ 5) ∧ (0 ≤ (aI (G.2.1 (F a 10)) (10 * l4_3.toInt + 1)) ∧ (aI (G.2.1 (F a 10)) (10 * l4_3.toInt + 1)) ≤ 2) ∧ (0 ≤ (aI (G.2.1 (F a 10)) (10 * l4_3.toInt + 2)) ∧ (aI (G.2.1 (F a 10)) (10 * l4_3.toInt + 2)) ≤ 2) ∧ (-1 ≤ (aI (G.2.1 (F a 10)) (10 * l4_3.toInt + 3)) ∧ (aI (G.2.1 (F a 10)) (10 * l4_3.toInt + 3)) ≤ 2) ∧ ((aI (G.2.1 (F a 10)) (10 * l4_3.toInt + 0)) = 1 ∨ (aI (G.2.1 (F a 10)) (10 * l4_3.toInt + 0)) = 3 ∨ (aI (G.2.1 (F a 10)) (10 * l4_3.toInt + 0)) = 4 → 0 ≤ (aI (G.2.1 (F a 10)) (10 * l4_3.toInt + 3))))
    (z19a : (((aI (G.2.1 (F a 10)) (10 * l4_3.toInt + 0)) = 2 ∨ (aI (G.2.1 (F a 10)) (10 * l4_3.toInt + 0)) = 4 ∨ (aI (G.2.1 (F a 10)) (10 * l4_3.toInt + 0)) = 5) ∧ (sF (aI (G.2.1 (F a 10)) (10 * l4_3.toInt + 0))) = 0 ∧ (sL (aI (G.2.1 (F a 10)) (10 * l4_3.toInt + 0))) = 29) ∨ (¬ ((aI (G.2.1 (F a 10)) (10 * l4_3.toInt + 0)) = 2 ∨ (aI (G.2.1 (F a 10)) (10 * l4_3.toInt + 0)) = 4 ∨ (aI (G.2.1 (F a 10)) (10 * l4_3.toInt + 0)) = 5) ∧ (sF (aI (G.2.1 (F a 10)) (10 * l4_3.toInt + 0))) = -99 ∧ (sL (aI (G.2.1 (F a 10)) (10 * l4_3.toInt + 0))) = 99))
    (I27_0 : (sF (aI (G.2.1 (F a 10)) (10 * l4_3.toInt + 0))) ≤ l5_27.toInt ∧ l5_27.toInt ≤ (sL (aI (G.2.1 (F a 10)) (10 * l4_3.toInt + 0))) + 1)
    (hm27 : 2147483648 - l5_27.toInt < (((N27) + 1 : Nat) : Int))
    (c35 : (sL (aI (G.2.1 (F a 10)) (10 * l4_3.toInt + 0))) < l5_27.toInt) :
    LSt (G.2.1 (F a 10)) (G_27.2.1 p0) (mw (G.2.1 p1) (p2.toInt)) (l4_3.toInt + 1) := by
  intro q s h1 h2 h3 h4
  by_cases e : q = l4_3.toInt
  · subst e
    first
      | exact absurd h3 (by omega)
      | (have h5 := sbj_FL.mp h4
         exact pi s h5.1 (by omega))
  · exact pl q s h1 (by omega) h3 h4
theorem v_X11_layStates_66_6 (G : XG) (G_27 : XG)
    (lo : G_27.2.2.2 = G.2.2.2) :
    G_27.2.2.2 = G.2.2.2 := by
  exact lo
theorem v_X11_layStates_53_7 {F : Nat → Nat → Nat} (a : Nat) (G : XG) (G_27 : XG)
    (hR : RV (G.2.1 (F a 10)))
    (c_G_27_F_a_10 : G_27.2.1 (F a 10) = G.2.1 (F a 10)) :
    RV (G_27.2.1 (F a 10)) := by simp only [c_G_27_F_a_10]; assumption
theorem v_X11_layStates_53_8 (G : XG) (G_27 : XG) (p1 : Nat) (p2 : Int32)
    (hM : RM (G.2.1 p1) (p2.toInt))
    (c_G_27_p1 : G_27.2.1 p1 = G.2.1 p1) :
    RM (G_27.2.1 p1) (p2.toInt) := by simp only [c_G_27_p1]; assumption
theorem v_X11_layStates_60_9 (p0 : Nat) (G : XG) (G_27 : XG) (G56 : XG) (x43 : Int32) (x53 : Int32)
    (hG56 : G56 = cput G_27 p0 x43.toNatClampNeg x53)
    (lo : G_27.2.2.2 = G.2.2.2) :
    G56.2.2.2 = G.2.2.2 := by
  first
    | exact lo
    | rfl
    | (rw [hG56]; exact lo)
theorem v_X11_layStates_60_10 {K : Nat → Nat} {F : Nat → Nat → Nat} (a : Nat) (p0 : Nat) (G : XG) (G_27 : XG) (G56 : XG) (x43 : Int32) (x53 : Int32) (p1 : Nat) (p2 : Int32) (l4_3 : Int32) (l5_27 : Int32) (N3 : Nat) (x13 : Int32) (N27 : Nat)
    (ha : K a = 13)
    (hp0 : K p0 = 38)
    (hG56 : G56 = cput G_27 p0 x43.toNatClampNeg x53)
    (lo : G_27.2.2.2 = G.2.2.2)
    (pl : LSt (G.2.1 (F a 10)) (G_27.2.1 p0) (mw (G.2.1 p1) (p2.toInt)) l4_3.toInt)
    (t43 : x43.toInt = 199 * l4_3.toInt + l5_27.toInt + 99)
    (t53 : x53.toInt = (stt (mw (G.2.1 p1) (p2.toInt)) (aI (G.2.1 (F a 10)) (10 * l4_3.toInt + 0)) (aI (G.2.1 (F a 10)) (10 * l4_3.toInt + 1)) (aI (G.2.1 (F a 10)) (10 * l4_3.toInt + 2)) (aI (G.2.1 (F a 10)) (10 * l4_3.toInt + 3)) (l5_27.toInt)))
    (f17 : 0 ≤ p2.toInt ∧ p2.toInt ≤ 2520)
    (I3_0 : 0 ≤ l4_3.toInt ∧ l4_3.toInt ≤ 12)
    (I3_1 : (0 : Int) ≤ l4_3.toInt)
    (hm3 : 2147483648 - l4_3.toInt < (((N3) + 1 : Nat) : Int))
    (c7 : ¬ ((12 : Int) ≤ l4_3.toInt))
    (t13 : (x13.toInt = 1 ∧ 0 ≤ l4_3.toInt ∧ l4_3.toInt ≤ 11 ∧ (aI (G.2.1 (F a 10)) (10 * l4_3.toInt + 0)) ≠ -1) ∨ (x13.toInt = 0 ∧ (¬ (0 ≤ l4_3.toInt ∧ l4_3.toInt ≤ 11) ∨ (aI (G.2.1 (F a 10)) (10 * l4_3.toInt + 0)) = -1)))
    (c16 : ¬ (x13.toInt = 0))
    (z19 : (-1 ≤ (aI (G.2.1 (F a 10)) (10 * l4_3.toInt + 0)) ∧ (aI (G.2.1 (F a 10)) (10 * l4_3.toInt + 0)) ≤ 5) ∧ (0 ≤ (aI (G.2.1 (F a 10)) (10 * l4_3.toInt + 1)) ∧ (aI (G.2.1 (F a 10)) (10 * l4_3.toInt + 1)) ≤ 2) ∧ (0 ≤ (aI (G.2.1 (F a 10)) (10 * l4_3.toInt + 2)) ∧ (aI (G.2.1 (F a 10)) (10 * l4_3.toInt + 2)) ≤ 2) ∧ (-1 ≤ (aI (G.2.1 (F a 10)) (10 * l4_3.toInt + 3)) ∧ (aI (G.2.1 (F a 10)) (10 * l4_3.toInt + 3)) ≤ 2) ∧ ((aI (G.2.1 (F a 10)) (10 * l4_3.toInt + 0)) = 1 ∨ (aI (G.2.1 (F a 10)) (10 * l4_3.toInt + 0)) = 3 ∨ (aI (G.2.1 (F a 10)) (10 * l4_3.toInt + 0)) = 4 → 0 ≤ (aI (G.2.1 (F a 10)) (10 * l4_3.toInt + 3))))
    (z19a : (((aI (G.2.1 (F a 10)) (10 * l4_3.toInt + 0)) = 2 ∨ (aI (G.2.1 (F a 10)) (10 * l4_3.toInt + 0)) = 4 ∨ (aI (G.2.1 (F a 10)) (10 * l4_3.toInt + 0)) = 5) ∧ (sF (aI (G.2.1 (F a 10)) (10 * l4_3.toInt + 0))) = 0 ∧ (sL (aI (G.2.1 (F a 10)) (10 * l4_3.toInt + 0))) = 29) ∨ (¬ ((aI (G.2.1 (F a 10)) (10 * l4_3.toInt + 0)) = 2 ∨ (aI (G.2.1 (F a 10)) (10 * l4_3.toInt + 0)) = 4 ∨ (aI (G.2.1 (F a 10)) (10 * l4_3.toInt + 0)) = 5) ∧ (sF (aI (G.2.1 (F a 10)) (10 * l4_3.toInt + 0))) = -99 ∧ (sL (aI (G.2.1 (F a 10)) (10 * l4_3.toInt + 0))) = 99))
    (I27_0 : (sF (aI (G.2.1 (F a 10)) (10 * l4_3.toInt + 0))) ≤ l5_27.toInt ∧ l5_27.toInt ≤ (sL (aI (G.2.1 (F a 10)) (10 * l4_3.toInt + 0))) + 1)
    (hm27 : 2147483648 - l5_27.toInt < (((N27) + 1 : Nat) : Int))
    (c35 : ¬ ((sL (aI (G.2.1 (F a 10)) (10 * l4_3.toInt + 0))) < l5_27.toInt)) :
    LSt (G.2.1 (F a 10)) (G56.2.1 p0) (mw (G.2.1 p1) (p2.toInt)) l4_3.toInt := by
  intro q s h1 h2 h3 h4
  have h5 := sbj_FL.mp h4
  have h6 := sFL (aI (G.2.1 (F a 10)) (10 * q + 0))
  rw [hG56, aI_put (by omega) _ (by omega), if_neg (by omega)]
  exact pl q s h1 h2 h3 h4
theorem v_X11_layStates_60_11 {K : Nat → Nat} {F : Nat → Nat → Nat} (a : Nat) (p0 : Nat) (G : XG) (G_27 : XG) (G56 : XG) (x43 : Int32) (x53 : Int32) (p1 : Nat) (p2 : Int32) (l4_3 : Int32) (l5_27 : Int32) (N3 : Nat) (x13 : Int32) (N27 : Nat)
    (ha : K a = 13)
    (hp0 : K p0 = 38)
    (hk9999 : K (F a 10) = 37)
    (hj9999 : F (F a 10) 99 = 10)
    (hG56 : G56 = cput G_27 p0 x43.toNatClampNeg x53)
    (lo : G_27.2.2.2 = G.2.2.2)
    (pi : ∀ s : Int, sF (aI (G.2.1 (F a 10)) (10 * l4_3.toInt + 0)) ≤ s → s < l5_27.toInt → aI (G_27.2.1 p0) (199 * l4_3.toInt + s + 99) = stt (mw (G.2.1 p1) (p2.toInt)) (aI (G.2.1 (F a 10)) (10 * l4_3.toInt + 0)) (aI (G.2.1 (F a 10)) (10 * l4_3.toInt + 1)) (aI (G.2.1 (F a 10)) (10 * l4_3.toInt + 2)) (aI (G.2.1 (F a 10)) (10 * l4_3.toInt + 3)) (s))
    (t43 : x43.toInt = 199 * l4_3.toInt + l5_27.toInt + 99)
    (t53 : x53.toInt = (stt (mw (G.2.1 p1) (p2.toInt)) (aI (G.2.1 (F a 10)) (10 * l4_3.toInt + 0)) (aI (G.2.1 (F a 10)) (10 * l4_3.toInt + 1)) (aI (G.2.1 (F a 10)) (10 * l4_3.toInt + 2)) (aI (G.2.1 (F a 10)) (10 * l4_3.toInt + 3)) (l5_27.toInt)))
    (f17 : 0 ≤ p2.toInt ∧ p2.toInt ≤ 2520)
    (I3_0 : 0 ≤ l4_3.toInt ∧ l4_3.toInt ≤ 12)
    (I3_1 : (0 : Int) ≤ l4_3.toInt)
    (hm3 : 2147483648 - l4_3.toInt < (((N3) + 1 : Nat) : Int))
    (c7 : ¬ ((12 : Int) ≤ l4_3.toInt))
    (t13 : (x13.toInt = 1 ∧ 0 ≤ l4_3.toInt ∧ l4_3.toInt ≤ 11 ∧ (aI (G.2.1 (F a 10)) (10 * l4_3.toInt + 0)) ≠ -1) ∨ (x13.toInt = 0 ∧ (¬ (0 ≤ l4_3.toInt ∧ l4_3.toInt ≤ 11) ∨ (aI (G.2.1 (F a 10)) (10 * l4_3.toInt + 0)) = -1)))
    (c16 : ¬ (x13.toInt = 0))
    (z19 : (-1 ≤ (aI (G.2.1 (F a 10)) (10 * l4_3.toInt + 0)) ∧ (aI (G.2.1 (F a 10)) (10 * l4_3.toInt + 0)) ≤ 5) ∧ (0 ≤ (aI (G.2.1 (F a 10)) (10 * l4_3.toInt + 1)) ∧ (aI (G.2.1 (F a 10)) (10 * l4_3.toInt + 1)) ≤ 2) ∧ (0 ≤ (aI (G.2.1 (F a 10)) (10 * l4_3.toInt + 2)) ∧ (aI (G.2.1 (F a 10)) (10 * l4_3.toInt + 2)) ≤ 2) ∧ (-1 ≤ (aI (G.2.1 (F a 10)) (10 * l4_3.toInt + 3)) ∧ (aI (G.2.1 (F a 10)) (10 * l4_3.toInt + 3)) ≤ 2) ∧ ((aI (G.2.1 (F a 10)) (10 * l4_3.toInt + 0)) = 1 ∨ (aI (G.2.1 (F a 10)) (10 * l4_3.toInt + 0)) = 3 ∨ (aI (G.2.1 (F a 10)) (10 * l4_3.toInt + 0)) = 4 → 0 ≤ (aI (G.2.1 (F a 10)) (10 * l4_3.toInt + 3))))
    (z19a : (((aI (G.2.1 (F a 10)) (10 * l4_3.toInt + 0)) = 2 ∨ (aI (G.2.1 (F a 10)) (10 * l4_3.toInt + 0)) = 4 ∨ (aI (G.2.1 (F a 10)) (10 * l4_3.toInt + 0)) = 5) ∧ (sF (aI (G.2.1 (F a 10)) (10 * l4_3.toInt + 0))) = 0 ∧ (sL (aI (G.2.1 (F a 10)) (10 * l4_3.toInt + 0))) = 29) ∨ (¬ ((aI (G.2.1 (F a 10)) (10 * l4_3.toInt + 0)) = 2 ∨ (aI (G.2.1 (F a 10)) (10 * l4_3.toInt + 0)) = 4 ∨ (aI (G.2.1 (F a 10)) (10 * l4_3.toInt + 0)) = 5) ∧ (sF (aI (G.2.1 (F a 10)) (10 * l4_3.toInt + 0))) = -99 ∧ (sL (aI (G.2.1 (F a 10)) (10 * l4_3.toInt + 0))) = 99))
    (I27_0 : (sF (aI (G.2.1 (F a 10)) (10 * l4_3.toInt + 0))) ≤ l5_27.toInt ∧ l5_27.toInt ≤ (sL (aI (G.2.1 (F a 10)) (10 * l4_3.toInt + 0))) + 1)
    (hm27 : 2147483648 - l5_27.toInt < (((N27) + 1 : Nat) : Int))
    (c35 : ¬ ((sL (aI (G.2.1 (F a 10)) (10 * l4_3.toInt + 0))) < l5_27.toInt)) :
    ∀ s : Int, sF (aI (G.2.1 (F a 10)) (10 * l4_3.toInt + 0)) ≤ s → s < (l5_27.toInt + 1) → aI (G56.2.1 p0) (199 * l4_3.toInt + s + 99) = stt (mw (G.2.1 p1) (p2.toInt)) (aI (G.2.1 (F a 10)) (10 * l4_3.toInt + 0)) (aI (G.2.1 (F a 10)) (10 * l4_3.toInt + 1)) (aI (G.2.1 (F a 10)) (10 * l4_3.toInt + 2)) (aI (G.2.1 (F a 10)) (10 * l4_3.toInt + 3)) (s) := by
  intro s h1 h2
  have h6 := sFL (aI (G.2.1 (F a 10)) (10 * l4_3.toInt + 0))
  rw [hG56, aI_put (by omega) _ (by omega)]
  by_cases e : s = l5_27.toInt
  · rw [if_pos (by omega), e]
    omega
  · rw [if_neg (by omega)]
    exact pi s h1 (by omega)
theorem v_X11_layStates_25_12 (G : XG) (G_3 : XG)
    (lo : G_3.2.2.2 = G.2.2.2) :
    G_3.2.2.2 = G.2.2.2 := by
  exact lo
theorem v_X11_layStates_25_13 {F : Nat → Nat → Nat} (a : Nat) (p0 : Nat) (G : XG) (G_3 : XG) (p1 : Nat) (p2 : Int32) (l4_3 : Int32)
    (pl : LSt (G.2.1 (F a 10)) (G_3.2.1 p0) (mw (G.2.1 p1) (p2.toInt)) l4_3.toInt) :
    LSt (G.2.1 (F a 10)) (G_3.2.1 p0) (mw (G.2.1 p1) (p2.toInt)) l4_3.toInt := by
  exact pl
theorem v_X11_layStates_25_14 {K : Nat → Nat} {F : Nat → Nat → Nat} (a : Nat) (p0 : Nat) (G : XG) (G_3 : XG) (p1 : Nat) (p2 : Int32) (l4_3 : Int32) (N3 : Nat) (x13 : Int32)
    (ha : K a = 13)
    (hp0 : K p0 = 38)
    (hk9999 : K (F a 10) = 37)
    (hj9999 : F (F a 10) 99 = 10)
    (lo : G_3.2.2.2 = G.2.2.2)
    (f10 : 0 ≤ p2.toInt ∧ p2.toInt ≤ 2520)
    (I3_0 : 0 ≤ l4_3.toInt ∧ l4_3.toInt ≤ 12)
    (I3_1 : (0 : Int) ≤ l4_3.toInt)
    (hm3 : 2147483648 - l4_3.toInt < (((N3) + 1 : Nat) : Int))
    (c7 : ¬ ((12 : Int) ≤ l4_3.toInt))
    (t13 : (x13.toInt = 1 ∧ 0 ≤ l4_3.toInt ∧ l4_3.toInt ≤ 11 ∧ (aI (G.2.1 (F a 10)) (10 * l4_3.toInt + 0)) ≠ -1) ∨ (x13.toInt = 0 ∧ (¬ (0 ≤ l4_3.toInt ∧ l4_3.toInt ≤ 11) ∨ (aI (G.2.1 (F a 10)) (10 * l4_3.toInt + 0)) = -1)))
    (c16 : ¬ (x13.toInt = 0))
    (z19 : (-1 ≤ (aI (G.2.1 (F a 10)) (10 * l4_3.toInt + 0)) ∧ (aI (G.2.1 (F a 10)) (10 * l4_3.toInt + 0)) ≤ 5) ∧ (0 ≤ (aI (G.2.1 (F a 10)) (10 * l4_3.toInt + 1)) ∧ (aI (G.2.1 (F a 10)) (10 * l4_3.toInt + 1)) ≤ 2) ∧ (0 ≤ (aI (G.2.1 (F a 10)) (10 * l4_3.toInt + 2)) ∧ (aI (G.2.1 (F a 10)) (10 * l4_3.toInt + 2)) ≤ 2) ∧ (-1 ≤ (aI (G.2.1 (F a 10)) (10 * l4_3.toInt + 3)) ∧ (aI (G.2.1 (F a 10)) (10 * l4_3.toInt + 3)) ≤ 2) ∧ ((aI (G.2.1 (F a 10)) (10 * l4_3.toInt + 0)) = 1 ∨ (aI (G.2.1 (F a 10)) (10 * l4_3.toInt + 0)) = 3 ∨ (aI (G.2.1 (F a 10)) (10 * l4_3.toInt + 0)) = 4 → 0 ≤ (aI (G.2.1 (F a 10)) (10 * l4_3.toInt + 3))))
    (z19a : (((aI (G.2.1 (F a 10)) (10 * l4_3.toInt + 0)) = 2 ∨ (aI (G.2.1 (F a 10)) (10 * l4_3.toInt + 0)) = 4 ∨ (aI (G.2.1 (F a 10)) (10 * l4_3.toInt + 0)) = 5) ∧ (sF (aI (G.2.1 (F a 10)) (10 * l4_3.toInt + 0))) = 0 ∧ (sL (aI (G.2.1 (F a 10)) (10 * l4_3.toInt + 0))) = 29) ∨ (¬ ((aI (G.2.1 (F a 10)) (10 * l4_3.toInt + 0)) = 2 ∨ (aI (G.2.1 (F a 10)) (10 * l4_3.toInt + 0)) = 4 ∨ (aI (G.2.1 (F a 10)) (10 * l4_3.toInt + 0)) = 5) ∧ (sF (aI (G.2.1 (F a 10)) (10 * l4_3.toInt + 0))) = -99 ∧ (sL (aI (G.2.1 (F a 10)) (10 * l4_3.toInt + 0))) = 99)) :
    ∀ s : Int, sF (aI (G.2.1 (F a 10)) (10 * l4_3.toInt + 0)) ≤ s → s < (sF (aI (G.2.1 (F a 10)) (10 * l4_3.toInt + 0))) → aI (G_3.2.1 p0) (199 * l4_3.toInt + s + 99) = stt (mw (G.2.1 p1) (p2.toInt)) (aI (G.2.1 (F a 10)) (10 * l4_3.toInt + 0)) (aI (G.2.1 (F a 10)) (10 * l4_3.toInt + 1)) (aI (G.2.1 (F a 10)) (10 * l4_3.toInt + 2)) (aI (G.2.1 (F a 10)) (10 * l4_3.toInt + 3)) (s) := by
  intro s h1 h2; exact absurd h1 (by omega)
theorem v_X11_layStates_1_15 {K : Nat → Nat} {F : Nat → Nat → Nat} (a : Nat) (p0 : Nat) (G : XG) (p1 : Nat) (p2 : Int32)
    (ha : K a = 13)
    (hp0 : K p0 = 38)
    (f6 : 0 ≤ p2.toInt ∧ p2.toInt ≤ 2520) :
    LSt (G.2.1 (F a 10)) (G.2.1 p0) (mw (G.2.1 p1) (p2.toInt)) (0 : Int) := by
  intro q s h1 h2; exact absurd h1 (by omega)
theorem v_X11_layStates_1_16 (G : XG) :
    G.2.2.2 = G.2.2.2 := by
  rfl
theorem v_X11_layOrder_97_1 {K : Nat → Nat} {F : Nat → Nat → Nat} (a : Nat) (G : XG) (G_7 : XG) (l1_7 : Int32) (N7 : Nat)
    (ha : K a = 13)
    (po : ORm (G.2.1 (F a 10)) (G_7.2.1 (F a 15)) ((G_7.1 a 16).toInt) (l1_7.toInt).toNat)
    (lo : G_7.2.2.2 = G.2.2.2)
    (I7_0 : 0 ≤ l1_7.toInt ∧ l1_7.toInt ≤ 12)
    (I7_1 : 0 ≤ ((G_7.1 a 16).toInt) ∧ ((G_7.1 a 16).toInt) ≤ l1_7.toInt)
    (I7_2 : (0 : Int) ≤ l1_7.toInt)
    (hm7 : 2147483648 - l1_7.toInt < (((N7) + 1 : Nat) : Int))
    (c10 : (12 : Int) ≤ l1_7.toInt) :
    ORm (G.2.1 (F a 10)) (G_7.2.1 (F a 15)) ((G_7.1 a 16).toInt) 12 := by
  have e : l1_7.toInt.toNat = 12 := by omega
  rw [e] at po
  exact po
theorem v_X11_layOrder_97_2 (G : XG) (G_7 : XG)
    (lo : G_7.2.2.2 = G.2.2.2) :
    G_7.2.2.2 = G.2.2.2 := by
  exact lo
theorem v_X11_layOrder_94_3 {K : Nat → Nat} {F : Nat → Nat → Nat} (a : Nat) (G : XG) (G_7 : XG) (l1_7 : Int32) (N7 : Nat) (x15 : Int32)
    (ha : K a = 13)
    (po : ORm (G.2.1 (F a 10)) (G_7.2.1 (F a 15)) ((G_7.1 a 16).toInt) (l1_7.toInt).toNat)
    (lo : G_7.2.2.2 = G.2.2.2)
    (I7_0 : 0 ≤ l1_7.toInt ∧ l1_7.toInt ≤ 12)
    (I7_1 : 0 ≤ ((G_7.1 a 16).toInt) ∧ ((G_7.1 a 16).toInt) ≤ l1_7.toInt)
    (I7_2 : (0 : Int) ≤ l1_7.toInt)
    (hm7 : 2147483648 - l1_7.toInt < (((N7) + 1 : Nat) : Int))
    (c10 : ¬ ((12 : Int) ≤ l1_7.toInt))
    (t15 : (x15.toInt = 1 ∧ 0 ≤ l1_7.toInt ∧ l1_7.toInt ≤ 11 ∧ (aI (G.2.1 (F a 10)) (10 * l1_7.toInt + 0)) ≠ -1) ∨ (x15.toInt = 0 ∧ (¬ (0 ≤ l1_7.toInt ∧ l1_7.toInt ≤ 11) ∨ (aI (G.2.1 (F a 10)) (10 * l1_7.toInt + 0)) = -1)))
    (c18 : x15.toInt = 0) :
    ORm (G.2.1 (F a 10)) (G_7.2.1 (F a 15)) ((G_7.1 a 16).toInt) (l1_7.toInt + 1).toNat := by
  have e : (l1_7.toInt + 1).toNat = l1_7.toInt.toNat + 1 := by omega
  have e1 : ((l1_7.toInt.toNat : Nat) : Int) = l1_7.toInt := by omega
  rw [e]
  first
    | exact po.skip (by rw [e1]; omega)
    | (have key : posR (fun j => aI (G.2.1 (F a 10)) (10 * (G_7.2.1 (F a 15) j).toInt + 7)) (aI (G.2.1 (F a 10)) (10 * l1_7.toInt + 7)) l2_26.toInt.toNat = l2_26.toInt.toNat := by
         first
           | (have e5 : l2_26.toInt.toNat = 0 := by omega
              rw [e5]; rfl)
           | (have e5 : l2_26.toInt.toNat = (l2_26.toInt - 1).toNat + 1 := by omega
              rw [e5, posR_here]
              have e3 : aI (G_7.2.1 (F a 15)) (l2_26.toInt - 1) = (G_7.2.1 (F a 15) (l2_26.toInt - 1).toNat).toInt := rfl
              rw [← e3, ← z39.2]
              omega)
       have e4 : l2_26.toNatClampNeg = l2_26.toInt.toNat := rfl
       have hg := shf_ins (g2 := G88.2.1 (F a 15)) (x := l1_7) ps (by rw [c_G88_F_a_15, cput_j hG80, e4, if_pos rfl]) (fun j hj => by rw [c_G88_F_a_15, cput_j hG80, e4, if_neg hj])
       exact po.step (by rw [e1]; omega) e1.symm (by omega) (by rw [e1, ← pp, key]) (fun i hi => hg i (by omega)))
theorem v_X11_layOrder_94_4 (G : XG) (G_7 : XG)
    (lo : G_7.2.2.2 = G.2.2.2) :
    G_7.2.2.2 = G.2.2.2 := by
  first
    | exact lo
    | (rw [hG88, hG80]; exact lo)
theorem v_X11_layOrder_94_5 {K : Nat → Nat} {F : Nat → Nat → Nat} (a : Nat) (G : XG) (G_7 : XG) (G_26 : XG) (G80 : XG) (l2_26 : Int32) (l1_7 : Int32) (G88 : XG) (N7 : Nat) (x15 : Int32) (N26 : Nat)
    (ha : K a = 13)
    (hG80 : G80 = cput G_26 (F a 15) l2_26.toNatClampNeg l1_7)
    (po : ORm (G.2.1 (F a 10)) (G_7.2.1 (F a 15)) ((G_7.1 a 16).toInt) (l1_7.toInt).toNat)
    (lo : G_26.2.2.2 = G.2.2.2)
    (ps : shf (G_7.2.1 (F a 15)) (G_26.2.1 (F a 15)) (l2_26.toInt).toNat ((G_7.1 a 16).toInt).toNat)
    (pp : posR (fun j => aI (G.2.1 (F a 10)) (10 * (G_7.2.1 (F a 15) j).toInt + 7)) (aI (G.2.1 (F a 10)) (10 * l1_7.toInt + 7)) (l2_26.toInt).toNat = posR (fun j => aI (G.2.1 (F a 10)) (10 * (G_7.2.1 (F a 15) j).toInt + 7)) (aI (G.2.1 (F a 10)) (10 * l1_7.toInt + 7)) ((G_7.1 a 16).toInt).toNat)
    (I7_0 : 0 ≤ l1_7.toInt ∧ l1_7.toInt ≤ 12)
    (I7_1 : 0 ≤ ((G_7.1 a 16).toInt) ∧ ((G_7.1 a 16).toInt) ≤ l1_7.toInt)
    (I7_2 : (0 : Int) ≤ l1_7.toInt)
    (hm7 : 2147483648 - l1_7.toInt < (((N7) + 1 : Nat) : Int))
    (c10 : ¬ ((12 : Int) ≤ l1_7.toInt))
    (t15 : (x15.toInt = 1 ∧ 0 ≤ l1_7.toInt ∧ l1_7.toInt ≤ 11 ∧ (aI (G.2.1 (F a 10)) (10 * l1_7.toInt + 0)) ≠ -1) ∨ (x15.toInt = 0 ∧ (¬ (0 ≤ l1_7.toInt ∧ l1_7.toInt ≤ 11) ∨ (aI (G.2.1 (F a 10)) (10 * l1_7.toInt + 0)) = -1)))
    (c18 : ¬ (x15.toInt = 0))
    (I26_0 : 0 ≤ l2_26.toInt ∧ l2_26.toInt ≤ ((G_7.1 a 16).toInt))
    (hm26 : l2_26.toInt + 1 < (((N26) + 1 : Nat) : Int))
    (c27 : l2_26.toInt ≤ 0)
    (c_G88_F_a_15 : G88.2.1 (F a 15) = G80.2.1 (F a 15)) :
    ORm (G.2.1 (F a 10)) (G88.2.1 (F a 15)) (((G_7.1 a 16).toInt) + (1 : Int)) (l1_7.toInt + 1).toNat := by
  have e : (l1_7.toInt + 1).toNat = l1_7.toInt.toNat + 1 := by omega
  have e1 : ((l1_7.toInt.toNat : Nat) : Int) = l1_7.toInt := by omega
  rw [e]
  first
    | exact po.skip (by rw [e1]; omega)
    | (have key : posR (fun j => aI (G.2.1 (F a 10)) (10 * (G_7.2.1 (F a 15) j).toInt + 7)) (aI (G.2.1 (F a 10)) (10 * l1_7.toInt + 7)) l2_26.toInt.toNat = l2_26.toInt.toNat := by
         first
           | (have e5 : l2_26.toInt.toNat = 0 := by omega
              rw [e5]; rfl)
           | (have e5 : l2_26.toInt.toNat = (l2_26.toInt - 1).toNat + 1 := by omega
              rw [e5, posR_here]
              have e3 : aI (G_7.2.1 (F a 15)) (l2_26.toInt - 1) = (G_7.2.1 (F a 15) (l2_26.toInt - 1).toNat).toInt := rfl
              rw [← e3, ← z39.2]
              omega)
       have e4 : l2_26.toNatClampNeg = l2_26.toInt.toNat := rfl
       have hg := shf_ins (g2 := G88.2.1 (F a 15)) (x := l1_7) ps (by rw [c_G88_F_a_15, cput_j hG80, e4, if_pos rfl]) (fun j hj => by rw [c_G88_F_a_15, cput_j hG80, e4, if_neg hj])
       exact po.step (by rw [e1]; omega) e1.symm (by omega) (by rw [e1, ← pp, key]) (fun i hi => hg i (by omega)))
theorem v_X11_layOrder_94_6 {F : Nat → Nat → Nat} (a : Nat) (G : XG) (G_26 : XG) (G80 : XG) (l2_26 : Int32) (l1_7 : Int32) (G88 : XG) (x87 : Int32)
    (hG80 : G80 = cput G_26 (F a 15) l2_26.toNatClampNeg l1_7)
    (hG88 : G88 = dput G80 a 16 x87)
    (lo : G_26.2.2.2 = G.2.2.2) :
    G88.2.2.2 = G.2.2.2 := by
  first
    | exact lo
    | (rw [hG88, hG80]; exact lo)
theorem v_X11_layOrder_94_7 {K : Nat → Nat} {F : Nat → Nat → Nat} (a : Nat) (G : XG) (G_7 : XG) (G_26 : XG) (G80 : XG) (l2_26 : Int32) (l1_7 : Int32) (G88 : XG) (N7 : Nat) (x15 : Int32) (N26 : Nat)
    (ha : K a = 13)
    (hG80 : G80 = cput G_26 (F a 15) l2_26.toNatClampNeg l1_7)
    (po : ORm (G.2.1 (F a 10)) (G_7.2.1 (F a 15)) ((G_7.1 a 16).toInt) (l1_7.toInt).toNat)
    (lo : G_26.2.2.2 = G.2.2.2)
    (ps : shf (G_7.2.1 (F a 15)) (G_26.2.1 (F a 15)) (l2_26.toInt).toNat ((G_7.1 a 16).toInt).toNat)
    (pp : posR (fun j => aI (G.2.1 (F a 10)) (10 * (G_7.2.1 (F a 15) j).toInt + 7)) (aI (G.2.1 (F a 10)) (10 * l1_7.toInt + 7)) (l2_26.toInt).toNat = posR (fun j => aI (G.2.1 (F a 10)) (10 * (G_7.2.1 (F a 15) j).toInt + 7)) (aI (G.2.1 (F a 10)) (10 * l1_7.toInt + 7)) ((G_7.1 a 16).toInt).toNat)
    (I7_0 : 0 ≤ l1_7.toInt ∧ l1_7.toInt ≤ 12)
    (I7_1 : 0 ≤ ((G_7.1 a 16).toInt) ∧ ((G_7.1 a 16).toInt) ≤ l1_7.toInt)
    (I7_2 : (0 : Int) ≤ l1_7.toInt)
    (hm7 : 2147483648 - l1_7.toInt < (((N7) + 1 : Nat) : Int))
    (c10 : ¬ ((12 : Int) ≤ l1_7.toInt))
    (t15 : (x15.toInt = 1 ∧ 0 ≤ l1_7.toInt ∧ l1_7.toInt ≤ 11 ∧ (aI (G.2.1 (F a 10)) (10 * l1_7.toInt + 0)) ≠ -1) ∨ (x15.toInt = 0 ∧ (¬ (0 ≤ l1_7.toInt ∧ l1_7.toInt ≤ 11) ∨ (aI (G.2.1 (F a 10)) (10 * l1_7.toInt + 0)) = -1)))
    (c18 : ¬ (x15.toInt = 0))
    (I26_0 : 0 ≤ l2_26.toInt ∧ l2_26.toInt ≤ ((G_7.1 a 16).toInt))
    (hm26 : l2_26.toInt + 1 < (((N26) + 1 : Nat) : Int))
    (c27 : ¬ (l2_26.toInt ≤ 0))
    (z39 : (0 ≤ (aI (G_26.2.1 (F a 15)) (l2_26.toInt - 1)) ∧ (aI (G_26.2.1 (F a 15)) (l2_26.toInt - 1)) ≤ 11) ∧ (aI (G_26.2.1 (F a 15)) (l2_26.toInt - 1)) = (aI (G_7.2.1 (F a 15)) (l2_26.toInt - 1)))
    (c51 : (aI (G.2.1 (F a 10)) (10 * (aI (G_26.2.1 (F a 15)) (l2_26.toInt - 1)) + 7)) ≤ (aI (G.2.1 (F a 10)) (10 * l1_7.toInt + 7)))
    (c_G88_F_a_15 : G88.2.1 (F a 15) = G80.2.1 (F a 15)) :
    ORm (G.2.1 (F a 10)) (G88.2.1 (F a 15)) (((G_7.1 a 16).toInt) + (1 : Int)) (l1_7.toInt + 1).toNat := by
  have e : (l1_7.toInt + 1).toNat = l1_7.toInt.toNat + 1 := by omega
  have e1 : ((l1_7.toInt.toNat : Nat) : Int) = l1_7.toInt := by omega
  rw [e]
  first
    | exact po.skip (by rw [e1]; omega)
    | (have key : posR (fun j => aI (G.2.1 (F a 10)) (10 * (G_7.2.1 (F a 15) j).toInt + 7)) (aI (G.2.1 (F a 10)) (10 * l1_7.toInt + 7)) l2_26.toInt.toNat = l2_26.toInt.toNat := by
         first
           | (have e5 : l2_26.toInt.toNat = 0 := by omega
              rw [e5]; rfl)
           | (have e5 : l2_26.toInt.toNat = (l2_26.toInt - 1).toNat + 1 := by omega
              rw [e5, posR_here]
              have e3 : aI (G_7.2.1 (F a 15)) (l2_26.toInt - 1) = (G_7.2.1 (F a 15) (l2_26.toInt - 1).toNat).toInt := rfl
              rw [← e3, ← z39.2]
              omega)
       have e4 : l2_26.toNatClampNeg = l2_26.toInt.toNat := rfl
       have hg := shf_ins (g2 := G88.2.1 (F a 15)) (x := l1_7) ps (by rw [c_G88_F_a_15, cput_j hG80, e4, if_pos rfl]) (fun j hj => by rw [c_G88_F_a_15, cput_j hG80, e4, if_neg hj])
       exact po.step (by rw [e1]; omega) e1.symm (by omega) (by rw [e1, ← pp, key]) (fun i hi => hg i (by omega)))
theorem v_X11_layOrder_94_8 {F : Nat → Nat → Nat} (a : Nat) (G : XG) (G_26 : XG) (G80 : XG) (l2_26 : Int32) (l1_7 : Int32) (G88 : XG) (x87 : Int32)
    (hG80 : G80 = cput G_26 (F a 15) l2_26.toNatClampNeg l1_7)
    (hG88 : G88 = dput G80 a 16 x87)
    (lo : G_26.2.2.2 = G.2.2.2) :
    G88.2.2.2 = G.2.2.2 := by
  first
    | exact lo
    | (rw [hG88, hG80]; exact lo)
theorem v_X11_layOrder_71_9 {F : Nat → Nat → Nat} (a : Nat) (G : XG) (G_26 : XG) (G67 : XG) (l2_26 : Int32) (x66 : Int32)
    (hG67 : G67 = cput G_26 (F a 15) l2_26.toNatClampNeg x66)
    (lo : G_26.2.2.2 = G.2.2.2) :
    G67.2.2.2 = G.2.2.2 := by
  rw [hG67]; exact lo
theorem v_X11_layOrder_71_10 {K : Nat → Nat} {F : Nat → Nat → Nat} (a : Nat) (G : XG) (G_7 : XG) (G_26 : XG) (G67 : XG) (l2_26 : Int32) (x66 : Int32) (l1_7 : Int32) (N7 : Nat) (x15 : Int32) (N26 : Nat)
    (ha : K a = 13)
    (hG67 : G67 = cput G_26 (F a 15) l2_26.toNatClampNeg x66)
    (lo : G_26.2.2.2 = G.2.2.2)
    (ps : shf (G_7.2.1 (F a 15)) (G_26.2.1 (F a 15)) (l2_26.toInt).toNat ((G_7.1 a 16).toInt).toNat)
    (pp : posR (fun j => aI (G.2.1 (F a 10)) (10 * (G_7.2.1 (F a 15) j).toInt + 7)) (aI (G.2.1 (F a 10)) (10 * l1_7.toInt + 7)) (l2_26.toInt).toNat = posR (fun j => aI (G.2.1 (F a 10)) (10 * (G_7.2.1 (F a 15) j).toInt + 7)) (aI (G.2.1 (F a 10)) (10 * l1_7.toInt + 7)) ((G_7.1 a 16).toInt).toNat)
    (hv66 : x66.toInt = (aI (G_26.2.1 (F a 15)) (l2_26.toInt - 1)))
    (I7_0 : 0 ≤ l1_7.toInt ∧ l1_7.toInt ≤ 12)
    (I7_1 : 0 ≤ ((G_7.1 a 16).toInt) ∧ ((G_7.1 a 16).toInt) ≤ l1_7.toInt)
    (I7_2 : (0 : Int) ≤ l1_7.toInt)
    (hm7 : 2147483648 - l1_7.toInt < (((N7) + 1 : Nat) : Int))
    (c10 : ¬ ((12 : Int) ≤ l1_7.toInt))
    (t15 : (x15.toInt = 1 ∧ 0 ≤ l1_7.toInt ∧ l1_7.toInt ≤ 11 ∧ (aI (G.2.1 (F a 10)) (10 * l1_7.toInt + 0)) ≠ -1) ∨ (x15.toInt = 0 ∧ (¬ (0 ≤ l1_7.toInt ∧ l1_7.toInt ≤ 11) ∨ (aI (G.2.1 (F a 10)) (10 * l1_7.toInt + 0)) = -1)))
    (c18 : ¬ (x15.toInt = 0))
    (I26_0 : 0 ≤ l2_26.toInt ∧ l2_26.toInt ≤ ((G_7.1 a 16).toInt))
    (hm26 : l2_26.toInt + 1 < (((N26) + 1 : Nat) : Int))
    (c27 : ¬ (l2_26.toInt ≤ 0))
    (z39 : (0 ≤ (aI (G_26.2.1 (F a 15)) (l2_26.toInt - 1)) ∧ (aI (G_26.2.1 (F a 15)) (l2_26.toInt - 1)) ≤ 11) ∧ (aI (G_26.2.1 (F a 15)) (l2_26.toInt - 1)) = (aI (G_7.2.1 (F a 15)) (l2_26.toInt - 1)))
    (c51 : ¬ ((aI (G.2.1 (F a 10)) (10 * (aI (G_26.2.1 (F a 15)) (l2_26.toInt - 1)) + 7)) ≤ (aI (G.2.1 (F a 10)) (10 * l1_7.toInt + 7)))) :
    shf (G_7.2.1 (F a 15)) (G67.2.1 (F a 15)) (l2_26.toInt + (-1)).toNat ((G_7.1 a 16).toInt).toNat := by
  have e : l2_26.toInt.toNat = (l2_26.toInt + -1).toNat + 1 := by omega
  have e4 : l2_26.toNatClampNeg = l2_26.toInt.toNat := rfl
  refine shf_s (g := G_26.2.1 (F a 15)) (by rw [← e]; exact ps) ?_ (fun i hi => ?_)
  · rw [cput_j hG67, e4, if_pos e.symm]
    apply Int32.toInt_inj.mp
    rw [hv66]
    show (G_26.2.1 (F a 15) (l2_26.toInt - 1).toNat).toInt = _
    rw [show (l2_26.toInt - 1).toNat = (l2_26.toInt + -1).toNat from by omega]
  · rw [cput_j hG67, e4, if_neg (by omega)]
theorem v_X11_layOrder_71_11 {K : Nat → Nat} {F : Nat → Nat → Nat} (a : Nat) (G : XG) (G_7 : XG) (G_26 : XG) (l2_26 : Int32) (l1_7 : Int32) (N7 : Nat) (x15 : Int32) (N26 : Nat)
    (ha : K a = 13)
    (lo : G_26.2.2.2 = G.2.2.2)
    (ps : shf (G_7.2.1 (F a 15)) (G_26.2.1 (F a 15)) (l2_26.toInt).toNat ((G_7.1 a 16).toInt).toNat)
    (pp : posR (fun j => aI (G.2.1 (F a 10)) (10 * (G_7.2.1 (F a 15) j).toInt + 7)) (aI (G.2.1 (F a 10)) (10 * l1_7.toInt + 7)) (l2_26.toInt).toNat = posR (fun j => aI (G.2.1 (F a 10)) (10 * (G_7.2.1 (F a 15) j).toInt + 7)) (aI (G.2.1 (F a 10)) (10 * l1_7.toInt + 7)) ((G_7.1 a 16).toInt).toNat)
    (I7_0 : 0 ≤ l1_7.toInt ∧ l1_7.toInt ≤ 12)
    (I7_1 : 0 ≤ ((G_7.1 a 16).toInt) ∧ ((G_7.1 a 16).toInt) ≤ l1_7.toInt)
    (I7_2 : (0 : Int) ≤ l1_7.toInt)
    (hm7 : 2147483648 - l1_7.toInt < (((N7) + 1 : Nat) : Int))
    (c10 : ¬ ((12 : Int) ≤ l1_7.toInt))
    (t15 : (x15.toInt = 1 ∧ 0 ≤ l1_7.toInt ∧ l1_7.toInt ≤ 11 ∧ (aI (G.2.1 (F a 10)) (10 * l1_7.toInt + 0)) ≠ -1) ∨ (x15.toInt = 0 ∧ (¬ (0 ≤ l1_7.toInt ∧ l1_7.toInt ≤ 11) ∨ (aI (G.2.1 (F a 10)) (10 * l1_7.toInt + 0)) = -1)))
    (c18 : ¬ (x15.toInt = 0))
    (I26_0 : 0 ≤ l2_26.toInt ∧ l2_26.toInt ≤ ((G_7.1 a 16).toInt))
    (hm26 : l2_26.toInt + 1 < (((N26) + 1 : Nat) : Int))
    (c27 : ¬ (l2_26.toInt ≤ 0))
    (z39 : (0 ≤ (aI (G_26.2.1 (F a 15)) (l2_26.toInt - 1)) ∧ (aI (G_26.2.1 (F a 15)) (l2_26.toInt - 1)) ≤ 11) ∧ (aI (G_26.2.1 (F a 15)) (l2_26.toInt - 1)) = (aI (G_7.2.1 (F a 15)) (l2_26.toInt - 1)))
    (c51 : ¬ ((aI (G.2.1 (F a 10)) (10 * (aI (G_26.2.1 (F a 15)) (l2_26.toInt - 1)) + 7)) ≤ (aI (G.2.1 (F a 10)) (10 * l1_7.toInt + 7)))) :
    posR (fun j => aI (G.2.1 (F a 10)) (10 * (G_7.2.1 (F a 15) j).toInt + 7)) (aI (G.2.1 (F a 10)) (10 * l1_7.toInt + 7)) (l2_26.toInt + (-1)).toNat = posR (fun j => aI (G.2.1 (F a 10)) (10 * (G_7.2.1 (F a 15) j).toInt + 7)) (aI (G.2.1 (F a 10)) (10 * l1_7.toInt + 7)) ((G_7.1 a 16).toInt).toNat := by
  have e : l2_26.toInt.toNat = (l2_26.toInt + -1).toNat + 1 := by omega
  rw [← pp, e, posR_up]
  have e3 : aI (G_7.2.1 (F a 15)) (l2_26.toInt - 1) = (G_7.2.1 (F a 15) (l2_26.toInt + -1).toNat).toInt := by show (G_7.2.1 (F a 15) (l2_26.toInt - 1).toNat).toInt = _; rw [show (l2_26.toInt - 1).toNat = (l2_26.toInt + -1).toNat from by omega]
  rw [← e3, ← z39.2]
  omega
theorem v_X11_layOrder_25_12 (G : XG) (G_7 : XG)
    (lo : G_7.2.2.2 = G.2.2.2) :
    G_7.2.2.2 = G.2.2.2 := by
  exact lo
theorem v_X11_layOrder_25_13 {F : Nat → Nat → Nat} (a : Nat) (G_7 : XG) :
    shf (G_7.2.1 (F a 15)) (G_7.2.1 (F a 15)) (((G_7.1 a 16).toInt)).toNat ((G_7.1 a 16).toInt).toNat := by
  exact shf_0 _ _
theorem v_X11_layOrder_25_14 {F : Nat → Nat → Nat} (a : Nat) (G : XG) (G_7 : XG) (l1_7 : Int32) :
    posR (fun j => aI (G.2.1 (F a 10)) (10 * (G_7.2.1 (F a 15) j).toInt + 7)) (aI (G.2.1 (F a 10)) (10 * l1_7.toInt + 7)) (((G_7.1 a 16).toInt)).toNat = posR (fun j => aI (G.2.1 (F a 10)) (10 * (G_7.2.1 (F a 15) j).toInt + 7)) (aI (G.2.1 (F a 10)) (10 * l1_7.toInt + 7)) ((G_7.1 a 16).toInt).toNat := by
  rfl
theorem v_X11_layOrder_6_15 {F : Nat → Nat → Nat} (a : Nat) (G2 : XG) (G : XG) :
    ORm (G.2.1 (F a 10)) (G2.2.1 (F a 15)) (0 : Int) (0 : Int).toNat := by
  exact ⟨rfl, fun i hi => absurd hi (Nat.not_lt_zero i)⟩
theorem v_X11_layOrder_6_16 (a : Nat) (G2 : XG) (G : XG)
    (hG2 : G2 = dput G a 16 0) :
    G2.2.2.2 = G.2.2.2 := by
  rw [hG2]; rfl
theorem z_X11_copy_1 (a0 : Int) (h0 : 0 ≤ a0 ∧ a0 ≤ 360) : ¬ (2147483648 - a0 < ((0 : Nat) : Int)) := by omega
theorem z_X11_copy_2 (a0 : Int) (a1 : Int) (a2 : Int) (h0 : 0 ≤ a1 ∧ a1 ≤ 2520) (h1 : 0 ≤ a0 ∧ a0 ≤ 360) (h2 : a2 = (a1 + a0) ∨ (a1 + a0) < -2147483648 ∨ 2147483648 ≤ (a1 + a0)) : a2 = (a1 + a0) := by omega
theorem z_X11_copy_4 (a0 : Int) (a1 : Int) (h0 : 0 ≤ a1 ∧ a1 ≤ 2520) (h1 : 0 ≤ a0 ∧ a0 ≤ 360) (h2 : ¬ ((360 : Int) ≤ a0)) : 0 ≤ (a1 + a0) ∧ (a1 + a0) < a1 + 360 := by omega
theorem z_X11_copy_6 (a0 : Int) (a1 : Int) (h0 : 0 ≤ a0 ∧ a0 ≤ 360) (h1 : a1 = (a0 + 1) ∨ (a0 + 1) < -2147483648 ∨ 2147483648 ≤ (a0 + 1)) : a1 = (a0 + 1) := by omega
theorem z_X11_copy_7 (a0 : Int) (h0 : 0 ≤ a0 ∧ a0 ≤ 360) (h1 : ¬ ((360 : Int) ≤ a0)) : 0 ≤ (a0 + 1) ∧ (a0 + 1) ≤ 360 := by omega
theorem z_X11_copy_8 (a0 : Int) (h0 : 0 ≤ a0 ∧ a0 ≤ 360) : (0 : Int) ≤ (a0 + 1) := by omega
theorem z_X11_copy_9 (a0 : Int) (a1 : Nat) (h0 : 2147483648 - a0 < ((a1 + 1 : Nat) : Int)) : 2147483648 - (a0 + 1) < ((a1 : Nat) : Int) := by omega
abbrev rm_X11_copy : Room := { frames := 0, cells := 0, slots := 0, locals := 0 }
set_option maxHeartbeats 4000000 in
set_option maxRecDepth 100000 in
theorem c_X11_copy (l : Launch) (E : XE) (K : Nat → Nat) (F : Nat → Nat → Nat) (G : XG) (p0 : Nat) (p1 : Int32) (p2 : Nat) (p3 : Int32) (hp0 : XO K p0 p1.toInt) (hp2 : XO K p2 p3.toInt) (hne : p0 ≠ p2) : Met l yX11_copy (xw yX11_copy cX11_copy 5 none) rm_X11_copy (va_Pc [.ref p0, .int p1, .ref p2, .int p3] (XP E K F G)) (XQv E (fun (u : XG) => XFr [] [p2] [] G u ∧ (CPd (G.2.1 p0) (G.2.1 p2) (u.2.1 p2) (p1.toInt) (p3.toInt) 360)) (fun u H => TW E K F u H)) 0 0 (xA E) := by
  refine x_enter (by decide) (Nat.le_of_ble_eq_true rfl) ?_
  intro p e s m args below meth c Q S hr hlk hnm hQ hP ls hl
  obtain ⟨hz, hK, hT⟩ := hP
  obtain ⟨hx, hb, -, -, -⟩ := id S
  obtain ⟨H, hT, hS, hgo⟩ : ∃ H : Heap, TW E K F G H ∧ va_S (xA E) s.heap H [] ∧ H = s.heap := ⟨_, hT, va_S.rf, rfl⟩
  rw [← hgo]
  have hl : lv_has ls 5 [(0, .ref p0), (1, .int p1), (2, .ref p2), (3, .int p3)] := hl
  refine lv_iconst (v := 0) hx hb dX11_copy_0 (by decide) ?_
  refine lv_istore (lv' := [(4, .int 0), (0, .ref p0), (1, .int p1), (2, .ref p2), (3, .int p3)]) hx hb dX11_copy_1 hl (by decide) rfl (fun ls hl => ?_)
  have L3 : ∀ (N3 : Nat) (l4_3 : Int32) (G_3 : XG) (H : Heap) (locs : List Loc) (ls : Array Slot), XFr [] [p2] [] G G_3 → CPd (G.2.1 p0) (G.2.1 p2) (G_3.2.1 p2) (p1.toInt) (p3.toInt) l4_3.toInt → 0 ≤ l4_3.toInt ∧ l4_3.toInt ≤ 360 → (0 : Int) ≤ l4_3.toInt → 2147483648 - l4_3.toInt < ((N3 : Nat) : Int) → TW E K F G_3 H → va_S (xA E) s.heap H locs → lv_has ls 5 [(0, .ref p0), (1, .int p1), (2, .ref p2), (3, .int p3), (4, .int l4_3)] → W p l e rm_X11_copy s m args below meth c H locs 0 0 Q (F0 m 3 ls []) := by
    intro N3
    induction N3 with
    | zero =>
      intro l4_3 G_3 H locs ls hF_3 pc I3_0 I3_1 hm3
      exact absurd hm3 (z_X11_copy_1 l4_3.toInt I3_0)
    | succ N3 ih3 =>
      intro l4_3 G_3 H locs ls hF_3 pc I3_0 I3_1 hm3 hT hS hl
      refine lv_iload hx hb dX11_copy_3 (lv_at hl 4 rfl) ?_
      refine lv_sipush (v := 360) hx hb dX11_copy_5 (by decide) ?_
      refine xi_cge (tgt := 29) hx hb (rfl : Int32.toInt l4_3 = l4_3.toInt) ((by decide) : Int32.toInt 360 = (360 : Int)) dX11_copy_8 (by decide) (fun c8 => ?_) (fun c8 => ?_)
      · exact x_rv hx hb hr hlk hQ (Nat.le_of_ble_eq_true rfl) (Nat.le_of_ble_eq_true rfl) hS dX11_copy_29 G_3 ⟨(XFr.call XFr.rf hF_3 xm0 (xm1 0 rfl xm0) xm0), (v_X11_copy_29_1 p2 G G_3 p0 p1 p3 l4_3 N3 hne pc (XO.lim hp0) (XO.lim hp2) I3_0 I3_1 hm3 c8)⟩ hT
      · refine lv_aload_n hx hb dX11_copy_11 rfl (lv_at hl 2 rfl) ?_
        refine lv_iload_n hx hb dX11_copy_12 rfl (lv_at hl 3 rfl) ?_
        refine lv_iload hx hb dX11_copy_13 (lv_at hl 4 rfl) ?_
        refine xi_iadd hx hb (rfl : Int32.toInt p3 = p3.toInt) (rfl : Int32.toInt l4_3 = l4_3.toInt) dX11_copy_15 (fun x15 t15 => ?_)
        have e15 : x15.toInt = (p3.toInt + l4_3.toInt) := (z_X11_copy_2 l4_3.toInt p3.toInt x15.toInt (XO.lim hp2) I3_0 t15)
        refine lv_aload_n hx hb dX11_copy_16 rfl (lv_at hl 0 rfl) ?_
        refine lv_iload_n hx hb dX11_copy_17 rfl (lv_at hl 1 rfl) ?_
        refine lv_iload hx hb dX11_copy_18 (lv_at hl 4 rfl) ?_
        refine xi_iadd hx hb (rfl : Int32.toInt p1 = p1.toInt) (rfl : Int32.toInt l4_3 = l4_3.toInt) dX11_copy_20 (fun x20 t20 => ?_)
        have e20 : x20.toInt = (p1.toInt + l4_3.toInt) := (z_X11_copy_2 l4_3.toInt p1.toInt x20.toInt (XO.lim hp0) I3_0 t20)
        refine ald_of S hK hT hp0 (by rw [(e20 : Int32.toInt x20 = (p1.toInt + l4_3.toInt))]; exact (z_X11_copy_4 l4_3.toInt p1.toInt (XO.lim hp0) I3_0 c8)) dX11_copy_21 (fun x21 hv21 => ?_)
        have hv21 : x21.toInt = (aI (G.2.1 p0) (p1.toInt + l4_3.toInt)) := hv21.trans (by rw [(e20 : Int32.toInt x20 = (p1.toInt + l4_3.toInt)), ((hF_3.2.1 _ (xn1 hne xn0)) : G_3.2.1 p0 = G.2.1 p0)])
        refine ast_o (x := x21) S hK hT hS hp2 (by rw [(e15 : Int32.toInt x15 = (p3.toInt + l4_3.toInt))]; exact (z_X11_copy_4 l4_3.toInt p3.toInt (XO.lim hp2) I3_0 c8)) dX11_copy_22 (fun H locs hT hS => ?_)
        obtain ⟨G22, hG22⟩ : ∃ GG : XG, GG = cput G_3 p2 x15.toNatClampNeg x21 := ⟨_, rfl⟩
        rw [← hG22] at hT
        refine xi_iinc (n := 1) (lv' := fun z9 => [(4, .int z9), (0, .ref p0), (1, .int p1), (2, .ref p2), (3, .int p3)]) (k := 4) hx hb (rfl : Int32.toInt l4_3 = l4_3.toInt) (by decide) dX11_copy_23 hl rfl (by decide) (fun _ => rfl) (fun x23 ls t23 hl => ?_)
        have e23 : x23.toInt = (l4_3.toInt + 1) := (z_X11_copy_6 l4_3.toInt x23.toInt I3_0 t23)
        have hl : lv_has ls 5 [(4, .int x23), (0, .ref p0), (1, .int p1), (2, .ref p2), (3, .int p3)] := hl
        refine lv_goto (tgt := 3) hx hb dX11_copy_26 (by decide) ?_
        exact ih3 x23 G22 _ _ _ (by rw [hG22]; exact XFr.cput (XFr.call XFr.rf hF_3 xm0 (xm1 0 rfl xm0) xm0) (List.mem_of_getElem? (i := 0) rfl)) (by rw [(e23 : Int32.toInt x23 = (l4_3.toInt + 1))] <;> exact (v_X11_copy_26_2 p2 G G_3 G22 x15 x21 p0 p1 p3 l4_3 N3 hG22 hne pc e15 hv21 (XO.lim hp0) (XO.lim hp2) I3_0 I3_1 hm3 c8)) (by rw [(e23 : Int32.toInt x23 = (l4_3.toInt + 1))] <;> exact (z_X11_copy_7 l4_3.toInt I3_0 c8)) (by rw [(e23 : Int32.toInt x23 = (l4_3.toInt + 1))] <;> exact (z_X11_copy_8 l4_3.toInt I3_0)) (by rw [(e23 : Int32.toInt x23 = (l4_3.toInt + 1))] <;> exact (z_X11_copy_9 l4_3.toInt N3 hm3)) hT hS (lv_sub hl [1, 2, 3, 4, 0] rfl)
  exact L3 4294967297 0 G _ _ _ XFr.rf (v_X11_copy_1_3 p0 p2 p1 p3 G hne (XO.lim hp0) (XO.lim hp2)) (by decide) (by decide) (by decide) hT hS (lv_sub hl [1, 2, 3, 4, 0] rfl)

theorem z_X11_layStates_1 (a0 : Int) (h0 : 0 ≤ a0 ∧ a0 ≤ 12) : ¬ (2147483648 - a0 < ((0 : Nat) : Int)) := by omega
theorem z_X11_layStates_2 (a0 : Int) (a1 : Int) (h0 : 0 ≤ a0 ∧ a0 ≤ 12) (h1 : a1 = (a0 + 1) ∨ (a0 + 1) < -2147483648 ∨ 2147483648 ≤ (a0 + 1)) : a1 = (a0 + 1) := by omega
theorem z_X11_layStates_3 (a0 : Int) (h0 : 0 ≤ a0 ∧ a0 ≤ 12) (h1 : ¬ ((12 : Int) ≤ a0)) : 0 ≤ (a0 + 1) ∧ (a0 + 1) ≤ 12 := by omega
theorem z_X11_layStates_4 (a0 : Int) (h0 : 0 ≤ a0 ∧ a0 ≤ 12) : (0 : Int) ≤ (a0 + 1) := by omega
theorem z_X11_layStates_6 (a0 : Int) (h0 : 0 ≤ a0 ∧ a0 ≤ 12) (h1 : ¬ ((12 : Int) ≤ a0)) : 0 ≤ a0 ∧ a0 ≤ 11 := by omega
theorem z_X11_layStates_8 (a0 : Int) (h0 : -2147483648 ≤ a0 ∧ a0 < 2147483648) : ¬ (2147483648 - a0 < ((0 : Nat) : Int)) := by omega
theorem z_X11_layStates_14 (a0 : Int) (a1 : Int) (a2 : Int) (a3 : Int) (a4 : Int) (h0 : 0 ≤ a0 ∧ a0 ≤ 12) (h1 : ¬ ((12 : Int) ≤ a0)) (h2 : ((a2 = 2 ∨ a2 = 4 ∨ a2 = 5) ∧ a3 = 0 ∧ a4 = 29) ∨ (¬ (a2 = 2 ∨ a2 = 4 ∨ a2 = 5) ∧ a3 = -99 ∧ a4 = 99)) (h3 : a3 ≤ a1 ∧ a1 ≤ a4 + 1) (h4 : ¬ (a4 < a1)) : 0 ≤ a0 ∧ a0 ≤ 11 ∧ -99 ≤ a1 ∧ a1 ≤ 99 := by omega
theorem z_X11_layStates_16 (a0 : Int) (a1 : Int) (a2 : Int) (h0 : (a1 = 1 ∧ 0 ≤ a0 ∧ a0 ≤ 11 ∧ a2 ≠ -1) ∨ (a1 = 0 ∧ (¬ (0 ≤ a0 ∧ a0 ≤ 11) ∨ a2 = -1))) (h1 : ¬ (a1 = 0)) : a2 ≠ -1 := by omega
theorem z_X11_layStates_17 (a0 : Int) (a1 : Int) (a2 : Int) (h0 : a1 ≤ a0 ∧ a0 ≤ a2 + 1) (h1 : ¬ (a2 < a0)) : a1 ≤ a0 ∧ a0 ≤ a2 := by omega
theorem z_X11_layStates_18 (a0 : Int) (a1 : Int) (a2 : Int) (a3 : Int) (a4 : Int) (h0 : 0 ≤ a0 ∧ a0 ≤ 12) (h1 : ¬ ((12 : Int) ≤ a0)) (h2 : ((a2 = 2 ∨ a2 = 4 ∨ a2 = 5) ∧ a3 = 0 ∧ a4 = 29) ∨ (¬ (a2 = 2 ∨ a2 = 4 ∨ a2 = 5) ∧ a3 = -99 ∧ a4 = 99)) (h3 : a3 ≤ a1 ∧ a1 ≤ a4 + 1) (h4 : ¬ (a4 < a1)) : 0 ≤ 199 * a0 + a1 + 99 ∧ 199 * a0 + a1 + 99 < ((2388 : Nat) : Int) := by omega
theorem z_X11_layStates_19 (a0 : Int) (a1 : Int) (a2 : Int) (a3 : Int) (a4 : Int) (h0 : ((a2 = 2 ∨ a2 = 4 ∨ a2 = 5) ∧ a3 = 0 ∧ a4 = 29) ∨ (¬ (a2 = 2 ∨ a2 = 4 ∨ a2 = 5) ∧ a3 = -99 ∧ a4 = 99)) (h1 : ¬ (a4 < a0)) (h2 : a1 = (a0 + 1) ∨ (a0 + 1) < -2147483648 ∨ 2147483648 ≤ (a0 + 1)) (h3 : -2147483648 ≤ a0 ∧ a0 < 2147483648) : a1 = (a0 + 1) := by omega
theorem z_X11_layStates_20 (a0 : Int) (a1 : Int) (a2 : Int) (h0 : a1 ≤ a0 ∧ a0 ≤ a2 + 1) (h1 : ¬ (a2 < a0)) : a1 ≤ (a0 + 1) ∧ (a0 + 1) ≤ a2 + 1 := by omega
theorem z_X11_layStates_22 (a0 : Int) (a1 : Int) (a2 : Int) (h0 : ((a0 = 2 ∨ a0 = 4 ∨ a0 = 5) ∧ a1 = 0 ∧ a2 = 29) ∨ (¬ (a0 = 2 ∨ a0 = 4 ∨ a0 = 5) ∧ a1 = -99 ∧ a2 = 99)) : a1 ≤ a1 ∧ a1 ≤ a2 + 1 := by omega
theorem z_X11_layStates_23 (a0 : Int) (a1 : Int) (a2 : Int) (h0 : ((a0 = 2 ∨ a0 = 4 ∨ a0 = 5) ∧ a1 = 0 ∧ a2 = 29) ∨ (¬ (a0 = 2 ∨ a0 = 4 ∨ a0 = 5) ∧ a1 = -99 ∧ a2 = 99)) : 2147483648 - a1 < ((4294967297 : Nat) : Int) := by omega
abbrev rm_X11_layStates : Room := { frames := 3, cells := 0, slots := 0, locals := 77 }
set_option maxHeartbeats 4000000 in
set_option maxRecDepth 100000 in
theorem c_X11_layStates (l : Launch) (E : XE) (K : Nat → Nat) (F : Nat → Nat → Nat) (G : XG) (a : Nat) (p0 : Nat) (p1 : Nat) (p2 : Int32) (ha : K a = 13) (hp0 : K p0 = 38) (hp1 : XO K p1 p2.toInt) (hR : RV (G.2.1 (F a 10))) (hM : RM (G.2.1 p1) (p2.toInt)) : Met l yX11_layStates (xw yX11_layStates cX11_layStates 6 none) rm_X11_layStates (va_Pc [.ref a, .ref p0, .ref p1, .int p2] (XP E K F G)) (XQv E (fun (u : XG) => XFr [] [p0] [] G u ∧ (LSt (G.2.1 (F a 10)) (u.2.1 p0) (mw (G.2.1 p1) (p2.toInt)) 12) ∧ (u.2.2.2 = G.2.2.2)) (fun u H => TW E K F u H)) 0 0 (xA E) := by
  refine x_enter (by decide) (Nat.le_of_ble_eq_true rfl) ?_
  intro p e s m args below meth c Q S hr hlk hnm hQ hP ls hl
  obtain ⟨hz, hK, hT⟩ := hP
  obtain ⟨hx, hb, -, -, -⟩ := id S
  obtain ⟨H, hT, hS, hgo⟩ : ∃ H : Heap, TW E K F G H ∧ va_S (xA E) s.heap H [] ∧ H = s.heap := ⟨_, hT, va_S.rf, rfl⟩
  rw [← hgo]
  have hl : lv_has ls 6 [(0, .ref a), (1, .ref p0), (2, .ref p1), (3, .int p2)] := hl
  obtain ⟨hk9999, hj9999⟩ := fkX11_10 hT ha
  refine lv_iconst (v := 0) hx hb dX11_layStates_0 (by decide) ?_
  refine lv_istore (lv' := [(4, .int 0), (0, .ref a), (1, .ref p0), (2, .ref p1), (3, .int p2)]) hx hb dX11_layStates_1 hl (by decide) rfl (fun ls hl => ?_)
  have L3 : ∀ (N3 : Nat) (l4_3 : Int32) (G_3 : XG) (H : Heap) (locs : List Loc) (ls : Array Slot), XFr [] [p0] [] G G_3 → LSt (G.2.1 (F a 10)) (G_3.2.1 p0) (mw (G.2.1 p1) (p2.toInt)) l4_3.toInt → G_3.2.2.2 = G.2.2.2 → 0 ≤ l4_3.toInt ∧ l4_3.toInt ≤ 12 → (0 : Int) ≤ l4_3.toInt → 2147483648 - l4_3.toInt < ((N3 : Nat) : Int) → TW E K F G_3 H → va_S (xA E) s.heap H locs → lv_has ls 6 [(0, .ref a), (1, .ref p0), (2, .ref p1), (3, .int p2), (4, .int l4_3)] → W p l e rm_X11_layStates s m args below meth c H locs 0 0 Q (F0 m 3 ls []) := by
    intro N3
    induction N3 with
    | zero =>
      intro l4_3 G_3 H locs ls hF_3 pl lo I3_0 I3_1 hm3
      exact absurd hm3 (z_X11_layStates_1 l4_3.toInt I3_0)
    | succ N3 ih3 =>
      intro l4_3 G_3 H locs ls hF_3 pl lo I3_0 I3_1 hm3 hT hS hl
      refine lv_iload hx hb dX11_layStates_3 (lv_at hl 4 rfl) ?_
      refine lv_bipush (v := 12) hx hb dX11_layStates_5 (by decide) ?_
      refine xi_cge (tgt := 69) hx hb (rfl : Int32.toInt l4_3 = l4_3.toInt) ((by decide) : Int32.toInt 12 = (12 : Int)) dX11_layStates_7 (by decide) (fun c7 => ?_) (fun c7 => ?_)
      · exact x_rv hx hb hr hlk hQ (Nat.le_of_ble_eq_true rfl) (Nat.le_of_ble_eq_true rfl) hS dX11_layStates_69 G_3 ⟨(XFr.call XFr.rf hF_3 xm0 (xm1 0 rfl xm0) xm0), (v_X11_layStates_69_1 (K := K) (F := F) a p0 G G_3 p1 p2 l4_3 N3 ha hp0 pl lo (XO.lim hp1) I3_0 I3_1 hm3 c7), (v_X11_layStates_69_2 G G_3 lo)⟩ hT
      · refine lv_aload_n hx hb dX11_layStates_10 rfl (lv_at hl 0 rfl) ?_
        refine lv_iload hx hb dX11_layStates_11 (lv_at hl 4 rfl) ?_
        refine x_clp (x_runV (b := a) (As := [.int l4_3]) (rest := []) S (c_X11_isRule l E K F G_3 H a l4_3 ha) mv_X11_isRule km_X11_162 rfl rfl ⟨Nat.le_of_ble_eq_true rfl, Nat.le_of_ble_eq_true rfl⟩ (rc_13 hK hT ha) hK (fun _ => XPh.blind) (fun U hU hW => XPh.at hK hz hS hT hU hW) rfl hl.1 (Nat.le_of_ble_eq_true rfl) dX11_layStates_13 ⟨Nat.le_of_ble_eq_true rfl, Nat.le_of_ble_eq_true rfl⟩) hS ?_
        rintro _ _ locs ⟨x13, rfl, b13, t13⟩ hS
        have t13 : (x13.toInt = 1 ∧ 0 ≤ l4_3.toInt ∧ l4_3.toInt ≤ 11 ∧ (aI (G.2.1 (F a 10)) (10 * l4_3.toInt + 0)) ≠ -1) ∨ (x13.toInt = 0 ∧ (¬ (0 ≤ l4_3.toInt ∧ l4_3.toInt ≤ 11) ∨ (aI (G.2.1 (F a 10)) (10 * l4_3.toInt + 0)) = -1)) := by rw [(show G_3.2.1 (F a 10) = G.2.1 (F a 10) from (hF_3.2.1 _ (xn1 (xne_k hk9999 hp0 (by decide)) xn0)))] at t13; exact t13
        refine xi_zeq (tgt := 63) hx hb (rfl : Int32.toInt x13 = x13.toInt) dX11_layStates_16 (by decide) (fun c16 => ?_) (fun c16 => ?_)
        · refine xi_iinc (n := 1) (lv' := fun z9 => [(4, .int z9), (0, .ref a), (1, .ref p0), (2, .ref p1), (3, .int p2)]) (k := 4) hx hb (rfl : Int32.toInt l4_3 = l4_3.toInt) (by decide) dX11_layStates_63 hl rfl (by decide) (fun _ => rfl) (fun x63 ls t63 hl => ?_)
          have e63 : x63.toInt = (l4_3.toInt + 1) := (z_X11_layStates_2 l4_3.toInt x63.toInt I3_0 t63)
          have hl : lv_has ls 6 [(4, .int x63), (0, .ref a), (1, .ref p0), (2, .ref p1), (3, .int p2)] := hl
          refine lv_goto (tgt := 3) hx hb dX11_layStates_66 (by decide) ?_
          exact ih3 x63 G_3 _ _ _ (XFr.call XFr.rf hF_3 xm0 (xm1 0 rfl xm0) xm0) (by rw [(e63 : Int32.toInt x63 = (l4_3.toInt + 1))] <;> exact (v_X11_layStates_66_3 (K := K) (F := F) a p0 G G_3 p1 p2 l4_3 N3 x13 ha hp0 pl lo (XO.lim hp1) I3_0 I3_1 hm3 c7 t13 c16)) (v_X11_layStates_66_4 G G_3 lo) (by rw [(e63 : Int32.toInt x63 = (l4_3.toInt + 1))] <;> exact (z_X11_layStates_3 l4_3.toInt I3_0 c7)) (by rw [(e63 : Int32.toInt x63 = (l4_3.toInt + 1))] <;> exact (z_X11_layStates_4 l4_3.toInt I3_0)) (by rw [(e63 : Int32.toInt x63 = (l4_3.toInt + 1))] <;> exact (z_X11_copy_9 l4_3.toInt N3 hm3)) hT hS (lv_sub hl [1, 2, 3, 4, 0] rfl)
        · have z19 : (-1 ≤ (aI (G.2.1 (F a 10)) (10 * l4_3.toInt + 0)) ∧ (aI (G.2.1 (F a 10)) (10 * l4_3.toInt + 0)) ≤ 5) ∧ (0 ≤ (aI (G.2.1 (F a 10)) (10 * l4_3.toInt + 1)) ∧ (aI (G.2.1 (F a 10)) (10 * l4_3.toInt + 1)) ≤ 2) ∧ (0 ≤ (aI (G.2.1 (F a 10)) (10 * l4_3.toInt + 2)) ∧ (aI (G.2.1 (F a 10)) (10 * l4_3.toInt + 2)) ≤ 2) ∧ (-1 ≤ (aI (G.2.1 (F a 10)) (10 * l4_3.toInt + 3)) ∧ (aI (G.2.1 (F a 10)) (10 * l4_3.toInt + 3)) ≤ 2) ∧ ((aI (G.2.1 (F a 10)) (10 * l4_3.toInt + 0)) = 1 ∨ (aI (G.2.1 (F a 10)) (10 * l4_3.toInt + 0)) = 3 ∨ (aI (G.2.1 (F a 10)) (10 * l4_3.toInt + 0)) = 4 → 0 ≤ (aI (G.2.1 (F a 10)) (10 * l4_3.toInt + 3))) := RV.row hR (z_X11_layStates_6 l4_3.toInt I3_0 c7)
          have z19a : (((aI (G.2.1 (F a 10)) (10 * l4_3.toInt + 0)) = 2 ∨ (aI (G.2.1 (F a 10)) (10 * l4_3.toInt + 0)) = 4 ∨ (aI (G.2.1 (F a 10)) (10 * l4_3.toInt + 0)) = 5) ∧ (sF (aI (G.2.1 (F a 10)) (10 * l4_3.toInt + 0))) = 0 ∧ (sL (aI (G.2.1 (F a 10)) (10 * l4_3.toInt + 0))) = 29) ∨ (¬ ((aI (G.2.1 (F a 10)) (10 * l4_3.toInt + 0)) = 2 ∨ (aI (G.2.1 (F a 10)) (10 * l4_3.toInt + 0)) = 4 ∨ (aI (G.2.1 (F a 10)) (10 * l4_3.toInt + 0)) = 5) ∧ (sF (aI (G.2.1 (F a 10)) (10 * l4_3.toInt + 0))) = -99 ∧ (sL (aI (G.2.1 (F a 10)) (10 * l4_3.toInt + 0))) = 99) := sFL _
          refine lv_aload_n hx hb dX11_layStates_19 rfl (lv_at hl 0 rfl) ?_
          refine lv_iload hx hb dX11_layStates_20 (lv_at hl 4 rfl) ?_
          refine x_clp (x_runV (b := a) (As := [.int l4_3]) (rest := []) S (c_X11_firstSubject l E K F G_3 H a l4_3 ha (z_X11_layStates_6 l4_3.toInt I3_0 c7)) mv_X11_firstSubject km_X11_179 rfl rfl ⟨Nat.le_of_ble_eq_true rfl, Nat.le_of_ble_eq_true rfl⟩ (rc_13 hK hT ha) hK (fun _ => XPh.blind) (fun U hU hW => XPh.at hK hz hS hT hU hW) rfl hl.1 (Nat.le_of_ble_eq_true rfl) dX11_layStates_22 ⟨Nat.le_of_ble_eq_true rfl, Nat.le_of_ble_eq_true rfl⟩) hS ?_
          rintro _ _ locs ⟨x22, rfl, t22⟩ hS
          have t22 : x22.toInt = (sF (aI (G.2.1 (F a 10)) (10 * l4_3.toInt + 0))) := by rw [(show G_3.2.1 (F a 10) = G.2.1 (F a 10) from (hF_3.2.1 _ (xn1 (xne_k hk9999 hp0 (by decide)) xn0)))] at t22; exact t22
          refine lv_istore (lv' := [(5, .int x22), (0, .ref a), (1, .ref p0), (2, .ref p1), (3, .int p2), (4, .int l4_3)]) hx hb dX11_layStates_25 hl (by decide) rfl (fun ls hl => ?_)
          have L27 : ∀ (N27 : Nat) (l5_27 : Int32) (G_27 : XG) (H : Heap) (locs : List Loc) (ls : Array Slot), XFr [] [p0] [] G_3 G_27 → G_27.2.2.2 = G.2.2.2 → LSt (G.2.1 (F a 10)) (G_27.2.1 p0) (mw (G.2.1 p1) (p2.toInt)) l4_3.toInt → (∀ s : Int, sF (aI (G.2.1 (F a 10)) (10 * l4_3.toInt + 0)) ≤ s → s < l5_27.toInt → aI (G_27.2.1 p0) (199 * l4_3.toInt + s + 99) = stt (mw (G.2.1 p1) (p2.toInt)) (aI (G.2.1 (F a 10)) (10 * l4_3.toInt + 0)) (aI (G.2.1 (F a 10)) (10 * l4_3.toInt + 1)) (aI (G.2.1 (F a 10)) (10 * l4_3.toInt + 2)) (aI (G.2.1 (F a 10)) (10 * l4_3.toInt + 3)) (s)) → (sF (aI (G.2.1 (F a 10)) (10 * l4_3.toInt + 0))) ≤ l5_27.toInt ∧ l5_27.toInt ≤ (sL (aI (G.2.1 (F a 10)) (10 * l4_3.toInt + 0))) + 1 → 2147483648 - l5_27.toInt < ((N27 : Nat) : Int) → TW E K F G_27 H → va_S (xA E) s.heap H locs → lv_has ls 6 [(0, .ref a), (1, .ref p0), (2, .ref p1), (3, .int p2), (4, .int l4_3), (5, .int l5_27)] → W p l e rm_X11_layStates s m args below meth c H locs 0 0 Q (F0 m 27 ls []) := by
            intro N27
            induction N27 with
            | zero =>
              intro l5_27 G_27 H locs ls hF_27 lo pl pi I27_0 hm27
              exact absurd hm27 (z_X11_layStates_8 l5_27.toInt (xr l5_27))
            | succ N27 ih27 =>
              intro l5_27 G_27 H locs ls hF_27 lo pl pi I27_0 hm27 hT hS hl
              refine lv_iload hx hb dX11_layStates_27 (lv_at hl 5 rfl) ?_
              refine lv_aload_n hx hb dX11_layStates_29 rfl (lv_at hl 0 rfl) ?_
              refine lv_iload hx hb dX11_layStates_30 (lv_at hl 4 rfl) ?_
              refine x_clp (x_runV (b := a) (As := [.int l4_3]) (rest := [.int l5_27]) S (c_X11_lastSubject l E K F G_27 H a l4_3 ha (z_X11_layStates_6 l4_3.toInt I3_0 c7)) mv_X11_lastSubject km_X11_183 rfl rfl ⟨Nat.le_of_ble_eq_true rfl, Nat.le_of_ble_eq_true rfl⟩ (rc_13 hK hT ha) hK (fun _ => XPh.blind) (fun U hU hW => XPh.at hK hz hS hT hU hW) rfl hl.1 (Nat.le_of_ble_eq_true rfl) dX11_layStates_32 ⟨Nat.le_of_ble_eq_true rfl, Nat.le_of_ble_eq_true rfl⟩) hS ?_
              rintro _ _ locs ⟨x32, rfl, t32⟩ hS
              have t32 : x32.toInt = (sL (aI (G.2.1 (F a 10)) (10 * l4_3.toInt + 0))) := by rw [(show G_27.2.1 (F a 10) = G.2.1 (F a 10) from ((hF_27.2.1 _ (xn1 (xne_k hk9999 hp0 (by decide)) xn0)).trans (hF_3.2.1 _ (xn1 (xne_k hk9999 hp0 (by decide)) xn0))))] at t32; exact t32
              refine xi_cgt (tgt := 63) hx hb (rfl : Int32.toInt l5_27 = l5_27.toInt) (t32 : Int32.toInt x32 = (sL (aI (G.2.1 (F a 10)) (10 * l4_3.toInt + 0)))) dX11_layStates_35 (by decide) (fun c35 => ?_) (fun c35 => ?_)
              · refine xi_iinc (n := 1) (lv' := fun z9 => [(4, .int z9), (0, .ref a), (1, .ref p0), (2, .ref p1), (3, .int p2), (5, .int l5_27)]) (k := 4) hx hb (rfl : Int32.toInt l4_3 = l4_3.toInt) (by decide) dX11_layStates_63 hl rfl (by decide) (fun _ => rfl) (fun x63 ls t63 hl => ?_)
                have e63 : x63.toInt = (l4_3.toInt + 1) := (z_X11_layStates_2 l4_3.toInt x63.toInt I3_0 t63)
                have hl : lv_has ls 6 [(4, .int x63), (0, .ref a), (1, .ref p0), (2, .ref p1), (3, .int p2), (5, .int l5_27)] := hl
                refine lv_goto (tgt := 3) hx hb dX11_layStates_66 (by decide) ?_
                exact ih3 x63 G_27 _ _ _ (XFr.call (XFr.call XFr.rf hF_3 xm0 (xm1 0 rfl xm0) xm0) hF_27 xm0 (xm1 0 rfl xm0) xm0) (by rw [(e63 : Int32.toInt x63 = (l4_3.toInt + 1))] <;> exact (v_X11_layStates_66_5 (K := K) (F := F) a p0 G G_27 p1 p2 l4_3 l5_27 N3 x13 N27 ha hp0 lo pl pi (XO.lim hp1) I3_0 I3_1 hm3 c7 t13 c16 z19 z19a I27_0 hm27 c35)) (v_X11_layStates_66_6 G G_27 lo) (by rw [(e63 : Int32.toInt x63 = (l4_3.toInt + 1))] <;> exact (z_X11_layStates_3 l4_3.toInt I3_0 c7)) (by rw [(e63 : Int32.toInt x63 = (l4_3.toInt + 1))] <;> exact (z_X11_layStates_4 l4_3.toInt I3_0)) (by rw [(e63 : Int32.toInt x63 = (l4_3.toInt + 1))] <;> exact (z_X11_copy_9 l4_3.toInt N3 hm3)) hT hS (lv_sub hl [1, 2, 3, 4, 0] rfl)
              · refine lv_aload_n hx hb dX11_layStates_38 rfl (lv_at hl 1 rfl) ?_
                refine lv_iload hx hb dX11_layStates_39 (lv_at hl 4 rfl) ?_
                refine lv_iload hx hb dX11_layStates_41 (lv_at hl 5 rfl) ?_
                refine x_clp (x_runS (As := [.int l4_3, .int l5_27]) (rest := [.ref p0]) S (c_X11_placeOf l E K F G_27 H l4_3 l5_27 (z_X11_layStates_14 l4_3.toInt l5_27.toInt (aI (G.2.1 (F a 10)) (10 * l4_3.toInt + 0)) (sF (aI (G.2.1 (F a 10)) (10 * l4_3.toInt + 0))) (sL (aI (G.2.1 (F a 10)) (10 * l4_3.toInt + 0))) I3_0 c7 z19a I27_0 c35)) ms_X11_placeOf km_X11_186 rfl rfl ⟨Nat.le_of_ble_eq_true rfl, Nat.le_of_ble_eq_true rfl⟩ hK (fun _ => XPh.blind) (fun U hU hW => XPh.at hK hz hS hT hU hW) rfl hl.1 (Nat.le_of_ble_eq_true rfl) dX11_layStates_43 ⟨Nat.le_of_ble_eq_true rfl, Nat.le_of_ble_eq_true rfl⟩) hS ?_
                rintro _ _ locs ⟨x43, rfl, t43⟩ hS
                have t43 : x43.toInt = 199 * l4_3.toInt + l5_27.toInt + 99 := t43
                refine lv_aload_n hx hb dX11_layStates_46 rfl (lv_at hl 0 rfl) ?_
                refine lv_iload hx hb dX11_layStates_47 (lv_at hl 4 rfl) ?_
                refine lv_iload hx hb dX11_layStates_49 (lv_at hl 5 rfl) ?_
                refine lv_aload_n hx hb dX11_layStates_51 rfl (lv_at hl 2 rfl) ?_
                refine lv_iload_n hx hb dX11_layStates_52 rfl (lv_at hl 3 rfl) ?_
                refine x_clp (x_runV (b := a) (As := [.int l4_3, .int l5_27, .ref p1, .int p2]) (rest := [.int x43, .ref p0]) S (c_X11_stateOf l E K F G_27 H a l4_3 l5_27 p1 p2 ha hp1 (z_X11_layStates_6 l4_3.toInt I3_0 c7) (by rw [(show G_27.2.1 (F a 10) = G.2.1 (F a 10) from ((hF_27.2.1 _ (xn1 (xne_k hk9999 hp0 (by decide)) xn0)).trans (hF_3.2.1 _ (xn1 (xne_k hk9999 hp0 (by decide)) xn0))))] <;> exact (z_X11_layStates_16 l4_3.toInt x13.toInt (aI (G.2.1 (F a 10)) (10 * l4_3.toInt + 0)) t13 c16)) (by rw [(show G_27.2.1 (F a 10) = G.2.1 (F a 10) from ((hF_27.2.1 _ (xn1 (xne_k hk9999 hp0 (by decide)) xn0)).trans (hF_3.2.1 _ (xn1 (xne_k hk9999 hp0 (by decide)) xn0))))] <;> exact (z_X11_layStates_17 l5_27.toInt (sF (aI (G.2.1 (F a 10)) (10 * l4_3.toInt + 0))) (sL (aI (G.2.1 (F a 10)) (10 * l4_3.toInt + 0))) I27_0 c35)) (v_X11_layStates_53_7 (F := F) a G G_27 hR ((hF_27.2.1 _ (xn1 (xne_k hk9999 hp0 (by decide)) xn0)).trans (hF_3.2.1 _ (xn1 (xne_k hk9999 hp0 (by decide)) xn0)))) (v_X11_layStates_53_8 G G_27 p1 p2 hM ((hF_27.2.1 _ (xn1 (XO.ne hp1 hp0 (by decide)) xn0)).trans (hF_3.2.1 _ (xn1 (XO.ne hp1 hp0 (by decide)) xn0))))) mv_X11_stateOf km_X11_189 rfl rfl ⟨Nat.le_of_ble_eq_true rfl, Nat.le_of_ble_eq_true rfl⟩ (rc_13 hK hT ha) hK (fun _ => XPh.blind) (fun U hU hW => XPh.at hK hz hS hT hU hW) rfl hl.1 (Nat.le_of_ble_eq_true rfl) dX11_layStates_53 ⟨Nat.le_of_ble_eq_true rfl, Nat.le_of_ble_eq_true rfl⟩) hS ?_
                rintro _ _ locs ⟨x53, rfl, t53⟩ hS
                have t53 : x53.toInt = (stt (mw (G.2.1 p1) (p2.toInt)) (aI (G.2.1 (F a 10)) (10 * l4_3.toInt + 0)) (aI (G.2.1 (F a 10)) (10 * l4_3.toInt + 1)) (aI (G.2.1 (F a 10)) (10 * l4_3.toInt + 2)) (aI (G.2.1 (F a 10)) (10 * l4_3.toInt + 3)) (l5_27.toInt)) := by rw [(show G_27.2.1 p1 = G.2.1 p1 from ((hF_27.2.1 _ (xn1 (XO.ne hp1 hp0 (by decide)) xn0)).trans (hF_3.2.1 _ (xn1 (XO.ne hp1 hp0 (by decide)) xn0))))] at t53; rw [(show G_27.2.1 (F a 10) = G.2.1 (F a 10) from ((hF_27.2.1 _ (xn1 (xne_k hk9999 hp0 (by decide)) xn0)).trans (hF_3.2.1 _ (xn1 (xne_k hk9999 hp0 (by decide)) xn0))))] at t53; exact t53
                refine as_0 (x := x53) S hK hT hS hp0 ar_38 aw_38 (by decide) (by rw [(t43 : Int32.toInt x43 = 199 * l4_3.toInt + l5_27.toInt + 99)]; exact (z_X11_layStates_18 l4_3.toInt l5_27.toInt (aI (G.2.1 (F a 10)) (10 * l4_3.toInt + 0)) (sF (aI (G.2.1 (F a 10)) (10 * l4_3.toInt + 0))) (sL (aI (G.2.1 (F a 10)) (10 * l4_3.toInt + 0))) I3_0 c7 z19a I27_0 c35)) dX11_layStates_56 (fun H locs hT hS => ?_)
                obtain ⟨G56, hG56⟩ : ∃ GG : XG, GG = cput G_27 p0 x43.toNatClampNeg x53 := ⟨_, rfl⟩
                rw [← hG56] at hT
                refine xi_iinc (n := 1) (lv' := fun z9 => [(5, .int z9), (0, .ref a), (1, .ref p0), (2, .ref p1), (3, .int p2), (4, .int l4_3)]) (k := 5) hx hb (rfl : Int32.toInt l5_27 = l5_27.toInt) (by decide) dX11_layStates_57 hl rfl (by decide) (fun _ => rfl) (fun x57 ls t57 hl => ?_)
                have e57 : x57.toInt = (l5_27.toInt + 1) := (z_X11_layStates_19 l5_27.toInt x57.toInt (aI (G.2.1 (F a 10)) (10 * l4_3.toInt + 0)) (sF (aI (G.2.1 (F a 10)) (10 * l4_3.toInt + 0))) (sL (aI (G.2.1 (F a 10)) (10 * l4_3.toInt + 0))) z19a c35 t57 (xr l5_27))
                have hl : lv_has ls 6 [(5, .int x57), (0, .ref a), (1, .ref p0), (2, .ref p1), (3, .int p2), (4, .int l4_3)] := hl
                refine lv_goto (tgt := 27) hx hb dX11_layStates_60 (by decide) ?_
                exact ih27 x57 G56 _ _ _ (by rw [hG56]; exact XFr.cput (XFr.call XFr.rf hF_27 xm0 (xm1 0 rfl xm0) xm0) (List.mem_of_getElem? (i := 0) rfl)) (v_X11_layStates_60_9 p0 G G_27 G56 x43 x53 hG56 lo) (v_X11_layStates_60_10 (K := K) (F := F) a p0 G G_27 G56 x43 x53 p1 p2 l4_3 l5_27 N3 x13 N27 ha hp0 hG56 lo pl t43 t53 (XO.lim hp1) I3_0 I3_1 hm3 c7 t13 c16 z19 z19a I27_0 hm27 c35) (by rw [(e57 : Int32.toInt x57 = (l5_27.toInt + 1))] <;> exact (v_X11_layStates_60_11 (K := K) (F := F) a p0 G G_27 G56 x43 x53 p1 p2 l4_3 l5_27 N3 x13 N27 ha hp0 hk9999 hj9999 hG56 lo pi t43 t53 (XO.lim hp1) I3_0 I3_1 hm3 c7 t13 c16 z19 z19a I27_0 hm27 c35)) (by rw [(e57 : Int32.toInt x57 = (l5_27.toInt + 1))] <;> exact (z_X11_layStates_20 l5_27.toInt (sF (aI (G.2.1 (F a 10)) (10 * l4_3.toInt + 0))) (sL (aI (G.2.1 (F a 10)) (10 * l4_3.toInt + 0))) I27_0 c35)) (by rw [(e57 : Int32.toInt x57 = (l5_27.toInt + 1))] <;> exact (z_X11_copy_9 l5_27.toInt N27 hm27)) hT hS (lv_sub hl [1, 2, 3, 4, 5, 0] rfl)
          exact L27 4294967297 x22 G_3 _ _ _ XFr.rf (v_X11_layStates_25_12 G G_3 lo) (v_X11_layStates_25_13 (F := F) a p0 G G_3 p1 p2 l4_3 pl) (by rw [(t22 : Int32.toInt x22 = (sF (aI (G.2.1 (F a 10)) (10 * l4_3.toInt + 0))))] <;> exact (v_X11_layStates_25_14 (K := K) (F := F) a p0 G G_3 p1 p2 l4_3 N3 x13 ha hp0 hk9999 hj9999 lo (XO.lim hp1) I3_0 I3_1 hm3 c7 t13 c16 z19 z19a)) (by rw [(t22 : Int32.toInt x22 = (sF (aI (G.2.1 (F a 10)) (10 * l4_3.toInt + 0))))] <;> exact (z_X11_layStates_22 (aI (G.2.1 (F a 10)) (10 * l4_3.toInt + 0)) (sF (aI (G.2.1 (F a 10)) (10 * l4_3.toInt + 0))) (sL (aI (G.2.1 (F a 10)) (10 * l4_3.toInt + 0))) z19a)) (by rw [(t22 : Int32.toInt x22 = (sF (aI (G.2.1 (F a 10)) (10 * l4_3.toInt + 0))))] <;> exact (z_X11_layStates_23 (aI (G.2.1 (F a 10)) (10 * l4_3.toInt + 0)) (sF (aI (G.2.1 (F a 10)) (10 * l4_3.toInt + 0))) (sL (aI (G.2.1 (F a 10)) (10 * l4_3.toInt + 0))) z19a)) hT hS (lv_sub hl [1, 2, 3, 4, 5, 0] rfl)
  exact L3 4294967297 0 G _ _ _ XFr.rf (v_X11_layStates_1_15 (K := K) (F := F) a p0 G p1 p2 ha hp0 (XO.lim hp1)) (v_X11_layStates_1_16 G) (by decide) (by decide) (by decide) hT hS (lv_sub hl [1, 2, 3, 4, 0] rfl)

theorem z_X11_layOrder_4 (a0 : Int) (a1 : Int) (h0 : 0 ≤ a1 ∧ a1 ≤ a0) : 0 ≤ a1 ∧ a1 ≤ (a0 + 1) := by omega
theorem z_X11_layOrder_7 (a0 : Int) (a1 : Int) (h0 : 0 ≤ a0 ∧ a0 ≤ a1) : ¬ (a0 + 1 < ((0 : Nat) : Int)) := by omega
theorem z_X11_layOrder_8 (a0 : Int) (a1 : Int) (h0 : 0 ≤ a0 ∧ a0 ≤ a1) (h1 : a0 ≤ 0) : 0 ≤ a0 ∧ a0 < ((12 : Nat) : Int) := by omega
theorem z_X11_layOrder_9 (a0 : Int) (a1 : Int) (a2 : Int) (h0 : 0 ≤ a2 ∧ a2 ≤ a0) (h1 : ¬ ((12 : Int) ≤ a0)) (h2 : a1 = (a2 + (1 : Int)) ∨ (a2 + (1 : Int)) < -2147483648 ∨ 2147483648 ≤ (a2 + (1 : Int))) : a1 = (a2 + (1 : Int)) := by omega
theorem z_X11_layOrder_12 (a0 : Int) (a1 : Int) (h0 : 0 ≤ a1 ∧ a1 ≤ a0) : 0 ≤ (a1 + (1 : Int)) ∧ (a1 + (1 : Int)) ≤ (a0 + 1) := by omega
theorem z_X11_layOrder_15 (a0 : Int) (a1 : Int) (h0 : ¬ (a0 ≤ 0)) (h1 : a1 = (a0 - (1 : Int)) ∨ (a0 - (1 : Int)) < -2147483648 ∨ 2147483648 ≤ (a0 - (1 : Int))) (h2 : -2147483648 ≤ a0 ∧ a0 < 2147483648) : a1 = (a0 - (1 : Int)) := by omega
theorem z_X11_layOrder_16 (a0 : Int) (a1 : Int) (a2 : Int) (h0 : 0 ≤ a2 ∧ a2 ≤ a0) (h1 : ¬ ((12 : Int) ≤ a0)) (h2 : 0 ≤ a1 ∧ a1 ≤ a2) (h3 : ¬ (a1 ≤ 0)) : 0 ≤ (a1 - (1 : Int)) ∧ (a1 - (1 : Int)) < ((12 : Nat) : Int) := by omega
theorem z_X11_layOrder_17 (a0 : Int) (a1 : Int) (a2 : Int) (h0 : 0 ≤ a0 ∧ a0 ≤ 12) (h1 : 0 ≤ a1 ∧ a1 ≤ a2) (h2 : ¬ (a1 ≤ 0)) : 0 ≤ a0 ∧ a0 ≤ 12 ∧ 1 ≤ a1 ∧ a1 ≤ a2 := by omega
theorem z_X11_layOrder_18 (a0 : Int) (a1 : Int) (h0 : (0 ≤ a0 ∧ a0 ≤ 11) ∧ a0 = a1) : 0 ≤ a0 ∧ a0 ≤ 11 := by omega
theorem z_X11_layOrder_20 (a0 : Int) (a1 : Int) (a2 : Int) (h0 : 0 ≤ a2 ∧ a2 ≤ a0) (h1 : ¬ ((12 : Int) ≤ a0)) (h2 : 0 ≤ a1 ∧ a1 ≤ a2) : 0 ≤ a1 ∧ a1 < ((12 : Nat) : Int) := by omega
theorem z_X11_layOrder_30 (a0 : Int) (a1 : Int) (h0 : ¬ (a0 ≤ 0)) (h1 : a1 = (a0 + (-1)) ∨ (a0 + (-1)) < -2147483648 ∨ 2147483648 ≤ (a0 + (-1))) (h2 : -2147483648 ≤ a0 ∧ a0 < 2147483648) : a1 = (a0 + (-1)) := by omega
theorem z_X11_layOrder_31 (a0 : Int) (a1 : Int) (h0 : 0 ≤ a0 ∧ a0 ≤ a1) (h1 : ¬ (a0 ≤ 0)) : 0 ≤ (a0 + (-1)) ∧ (a0 + (-1)) ≤ a1 := by omega
theorem z_X11_layOrder_32 (a0 : Int) (a1 : Nat) (h0 : a0 + 1 < ((a1 + 1 : Nat) : Int)) : (a0 + (-1)) + 1 < ((a1 : Nat) : Int) := by omega
theorem z_X11_layOrder_33 (a0 : Int) (a1 : Int) (h0 : 0 ≤ a1 ∧ a1 ≤ a0) : 0 ≤ a1 ∧ a1 ≤ a1 := by omega
theorem z_X11_layOrder_34 (a0 : Int) (h0 : -2147483648 ≤ a0 ∧ a0 < 2147483648) : a0 + 1 < ((4294967297 : Nat) : Int) := by omega
abbrev rm_X11_layOrder : Room := { frames := 2, cells := 0, slots := 0, locals := 46 }
set_option maxHeartbeats 4000000 in
set_option maxRecDepth 100000 in
theorem c_X11_layOrder (l : Launch) (E : XE) (K : Nat → Nat) (F : Nat → Nat → Nat) (G : XG) (a : Nat) (ha : K a = 13) (hR : RV (G.2.1 (F a 10))) : Met l yX11_layOrder (xw yX11_layOrder cX11_layOrder 3 none) rm_X11_layOrder (va_Pc [.ref a] (XP E K F G)) (XQv E (fun (u : XG) => XFr [(a, 16)] [F a 15] [] G u ∧ (ORm (G.2.1 (F a 10)) (u.2.1 (F a 15)) ((u.1 a 16).toInt) 12) ∧ (u.2.2.2 = G.2.2.2)) (fun u H => TW E K F u H)) 0 0 (xA E) := by
  refine x_enter (by decide) (Nat.le_of_ble_eq_true rfl) ?_
  intro p e s m args below meth c Q S hr hlk hnm hQ hP ls hl
  obtain ⟨hz, hK, hT⟩ := hP
  obtain ⟨hx, hb, -, -, -⟩ := id S
  obtain ⟨H, hT, hS, hgo⟩ : ∃ H : Heap, TW E K F G H ∧ va_S (xA E) s.heap H [] ∧ H = s.heap := ⟨_, hT, va_S.rf, rfl⟩
  rw [← hgo]
  have hl : lv_has ls 3 [(0, .ref a)] := hl
  obtain ⟨hk9999, hj9999⟩ := fkX11_15 hT ha
  obtain ⟨hk9999a, hj9999a⟩ := fkX11_10 hT ha
  refine lv_aload_n hx hb dX11_layOrder_0 rfl (lv_at hl 0 rfl) ?_
  refine lv_iconst (v := 0) hx hb dX11_layOrder_1 (by decide) ?_
  refine pX11_16 (v := 0) S hK hT hS ha kf_X11_197 dX11_layOrder_2 (fun H locs hT hS => ?_)
  obtain ⟨G2, hG2⟩ : ∃ GG : XG, GG = dput G a 16 0 := ⟨_, rfl⟩
  rw [← hG2] at hT
  refine lv_iconst (v := 0) hx hb dX11_layOrder_5 (by decide) ?_
  refine lv_istore_n (lv' := [(1, .int 0), (0, .ref a)]) hx hb dX11_layOrder_6 rfl hl (by decide) rfl (fun ls hl => ?_)
  have L7 : ∀ (N7 : Nat) (l1_7 : Int32) (G_7 : XG) (H : Heap) (locs : List Loc) (ls : Array Slot), XFr [(a, 16)] [F a 15] [] G2 G_7 → ORm (G.2.1 (F a 10)) (G_7.2.1 (F a 15)) ((G_7.1 a 16).toInt) (l1_7.toInt).toNat → G_7.2.2.2 = G.2.2.2 → 0 ≤ l1_7.toInt ∧ l1_7.toInt ≤ 12 → 0 ≤ ((G_7.1 a 16).toInt) ∧ ((G_7.1 a 16).toInt) ≤ l1_7.toInt → (0 : Int) ≤ l1_7.toInt → 2147483648 - l1_7.toInt < ((N7 : Nat) : Int) → TW E K F G_7 H → va_S (xA E) s.heap H locs → lv_has ls 3 [(0, .ref a), (1, .int l1_7)] → W p l e rm_X11_layOrder s m args below meth c H locs 0 0 Q (F0 m 7 ls []) := by
    intro N7
    induction N7 with
    | zero =>
      intro l1_7 G_7 H locs ls hF_7 po lo I7_0 I7_1 I7_2 hm7
      exact absurd hm7 (z_X11_layStates_1 l1_7.toInt I7_0)
    | succ N7 ih7 =>
      intro l1_7 G_7 H locs ls hF_7 po lo I7_0 I7_1 I7_2 hm7 hT hS hl
      refine lv_iload_n hx hb dX11_layOrder_7 rfl (lv_at hl 1 rfl) ?_
      refine lv_bipush (v := 12) hx hb dX11_layOrder_8 (by decide) ?_
      refine xi_cge (tgt := 97) hx hb (rfl : Int32.toInt l1_7 = l1_7.toInt) ((by decide) : Int32.toInt 12 = (12 : Int)) dX11_layOrder_10 (by decide) (fun c10 => ?_) (fun c10 => ?_)
      · exact x_rv hx hb hr hlk hQ (Nat.le_of_ble_eq_true rfl) (Nat.le_of_ble_eq_true rfl) hS dX11_layOrder_97 G_7 ⟨(XFr.call (by rw [hG2]; exact XFr.dput XFr.rf (List.mem_of_getElem? (i := 0) rfl)) hF_7 (xm1 0 rfl xm0) (xm1 0 rfl xm0) xm0), (v_X11_layOrder_97_1 (K := K) (F := F) a G G_7 l1_7 N7 ha po lo I7_0 I7_1 I7_2 hm7 c10), (v_X11_layOrder_97_2 G G_7 lo)⟩ hT
      · refine lv_aload_n hx hb dX11_layOrder_13 rfl (lv_at hl 0 rfl) ?_
        refine lv_iload_n hx hb dX11_layOrder_14 rfl (lv_at hl 1 rfl) ?_
        refine x_clp (x_runV (b := a) (As := [.int l1_7]) (rest := []) S (c_X11_isRule l E K F G_7 H a l1_7 ha) mv_X11_isRule km_X11_162 rfl rfl ⟨Nat.le_of_ble_eq_true rfl, Nat.le_of_ble_eq_true rfl⟩ (rc_13 hK hT ha) hK (fun _ => XPh.blind) (fun U hU hW => XPh.at hK hz hS hT hU hW) rfl hl.1 (Nat.le_of_ble_eq_true rfl) dX11_layOrder_15 ⟨Nat.le_of_ble_eq_true rfl, Nat.le_of_ble_eq_true rfl⟩) hS ?_
        rintro _ _ locs ⟨x15, rfl, b15, t15⟩ hS
        have t15 : (x15.toInt = 1 ∧ 0 ≤ l1_7.toInt ∧ l1_7.toInt ≤ 11 ∧ (aI (G.2.1 (F a 10)) (10 * l1_7.toInt + 0)) ≠ -1) ∨ (x15.toInt = 0 ∧ (¬ (0 ≤ l1_7.toInt ∧ l1_7.toInt ≤ 11) ∨ (aI (G.2.1 (F a 10)) (10 * l1_7.toInt + 0)) = -1)) := by rw [(show G_7.2.1 (F a 10) = G.2.1 (F a 10) from ((hF_7.2.1 _ (xn1 (xne_k hk9999a hk9999 (by decide)) xn0)).trans (ld_c hG2)))] at t15; exact t15
        refine xi_zeq (tgt := 91) hx hb (rfl : Int32.toInt x15 = x15.toInt) dX11_layOrder_18 (by decide) (fun c18 => ?_) (fun c18 => ?_)
        · refine xi_iinc (n := 1) (lv' := fun z9 => [(1, .int z9), (0, .ref a)]) (k := 1) hx hb (rfl : Int32.toInt l1_7 = l1_7.toInt) (by decide) dX11_layOrder_91 hl rfl (by decide) (fun _ => rfl) (fun x91 ls t91 hl => ?_)
          have e91 : x91.toInt = (l1_7.toInt + 1) := (z_X11_layStates_2 l1_7.toInt x91.toInt I7_0 t91)
          have hl : lv_has ls 3 [(1, .int x91), (0, .ref a)] := hl
          refine lv_goto (tgt := 7) hx hb dX11_layOrder_94 (by decide) ?_
          exact ih7 x91 G_7 _ _ _ (XFr.call XFr.rf hF_7 (xm1 0 rfl xm0) (xm1 0 rfl xm0) xm0) (by rw [(e91 : Int32.toInt x91 = (l1_7.toInt + 1))] <;> exact (v_X11_layOrder_94_3 (K := K) (F := F) a G G_7 l1_7 N7 x15 ha po lo I7_0 I7_1 I7_2 hm7 c10 t15 c18)) (v_X11_layOrder_94_4 G G_7 lo) (by rw [(e91 : Int32.toInt x91 = (l1_7.toInt + 1))] <;> exact (z_X11_layStates_3 l1_7.toInt I7_0 c10)) (by rw [(e91 : Int32.toInt x91 = (l1_7.toInt + 1))] <;> exact (z_X11_layOrder_4 l1_7.toInt ((G_7.1 a 16).toInt) I7_1)) (by rw [(e91 : Int32.toInt x91 = (l1_7.toInt + 1))] <;> exact (z_X11_layStates_4 l1_7.toInt I7_0)) (by rw [(e91 : Int32.toInt x91 = (l1_7.toInt + 1))] <;> exact (z_X11_copy_9 l1_7.toInt N7 hm7)) hT hS (lv_sub hl [1, 0] rfl)
        · refine lv_aload_n hx hb dX11_layOrder_21 rfl (lv_at hl 0 rfl) ?_
          refine gX11_16 S hK hT ha kf_X11_197 dX11_layOrder_22 (v := (G_7.1 a 16)) rfl (?_)
          refine lv_istore_n (lv' := [(2, .int (G_7.1 a 16)), (0, .ref a), (1, .int l1_7)]) hx hb dX11_layOrder_25 rfl hl (by decide) rfl (fun ls hl => ?_)
          have L26 : ∀ (N26 : Nat) (l2_26 : Int32) (G_26 : XG) (H : Heap) (locs : List Loc) (ls : Array Slot), XFr [] [F a 15] [] G_7 G_26 → G_26.2.2.2 = G.2.2.2 → shf (G_7.2.1 (F a 15)) (G_26.2.1 (F a 15)) (l2_26.toInt).toNat ((G_7.1 a 16).toInt).toNat → posR (fun j => aI (G.2.1 (F a 10)) (10 * (G_7.2.1 (F a 15) j).toInt + 7)) (aI (G.2.1 (F a 10)) (10 * l1_7.toInt + 7)) (l2_26.toInt).toNat = posR (fun j => aI (G.2.1 (F a 10)) (10 * (G_7.2.1 (F a 15) j).toInt + 7)) (aI (G.2.1 (F a 10)) (10 * l1_7.toInt + 7)) ((G_7.1 a 16).toInt).toNat → 0 ≤ l2_26.toInt ∧ l2_26.toInt ≤ ((G_7.1 a 16).toInt) → l2_26.toInt + 1 < ((N26 : Nat) : Int) → TW E K F G_26 H → va_S (xA E) s.heap H locs → lv_has ls 3 [(0, .ref a), (1, .int l1_7), (2, .int l2_26)] → W p l e rm_X11_layOrder s m args below meth c H locs 0 0 Q (F0 m 26 ls []) := by
            intro N26
            induction N26 with
            | zero =>
              intro l2_26 G_26 H locs ls hF_26 lo ps pp I26_0 hm26
              exact absurd hm26 (z_X11_layOrder_7 l2_26.toInt ((G_7.1 a 16).toInt) I26_0)
            | succ N26 ih26 =>
              intro l2_26 G_26 H locs ls hF_26 lo ps pp I26_0 hm26 hT hS hl
              refine lv_iload_n hx hb dX11_layOrder_26 rfl (lv_at hl 2 rfl) ?_
              refine xi_zle (tgt := 74) hx hb (rfl : Int32.toInt l2_26 = l2_26.toInt) dX11_layOrder_27 (by decide) (fun c27 => ?_) (fun c27 => ?_)
              · refine lv_aload_n hx hb dX11_layOrder_74 rfl (lv_at hl 0 rfl) ?_
                refine gX11_15 S hK hT ha kf_X11_48 dX11_layOrder_75 (fun _ _ => ?_)
                refine lv_iload_n hx hb dX11_layOrder_78 rfl (lv_at hl 2 rfl) ?_
                refine lv_iload_n hx hb dX11_layOrder_79 rfl (lv_at hl 1 rfl) ?_
                refine as_0 (x := l1_7) S hK hT hS hk9999 ar_42 aw_42 (by decide) (z_X11_layOrder_8 l2_26.toInt ((G_7.1 a 16).toInt) I26_0 c27) dX11_layOrder_80 (fun H locs hT hS => ?_)
                obtain ⟨G80, hG80⟩ : ∃ GG : XG, GG = cput G_26 (F a 15) l2_26.toNatClampNeg l1_7 := ⟨_, rfl⟩
                rw [← hG80] at hT
                refine lv_aload_n hx hb dX11_layOrder_81 rfl (lv_at hl 0 rfl) ?_
                refine lv_dup hx hb dX11_layOrder_82 rfl ?_
                refine gX11_16 S hK hT ha kf_X11_197 dX11_layOrder_83 (v := (G_7.1 a 16)) ((lc_d hG80).trans (hF_26.1 _ _ xn0)) (?_)
                refine lv_iconst (v := 1) hx hb dX11_layOrder_86 (by decide) ?_
                refine xi_iadd hx hb (rfl : Int32.toInt (G_7.1 a 16) = ((G_7.1 a 16).toInt)) ((by decide) : Int32.toInt 1 = (1 : Int)) dX11_layOrder_87 (fun x87 t87 => ?_)
                have e87 : x87.toInt = (((G_7.1 a 16).toInt) + (1 : Int)) := (z_X11_layOrder_9 l1_7.toInt x87.toInt ((G_7.1 a 16).toInt) I7_1 c10 t87)
                refine pX11_16 (v := x87) S hK hT hS ha kf_X11_197 dX11_layOrder_88 (fun H locs hT hS => ?_)
                obtain ⟨G88, hG88⟩ : ∃ GG : XG, GG = dput G80 a 16 x87 := ⟨_, rfl⟩
                rw [← hG88] at hT
                refine xi_iinc (n := 1) (lv' := fun z9 => [(1, .int z9), (0, .ref a), (2, .int l2_26)]) (k := 1) hx hb (rfl : Int32.toInt l1_7 = l1_7.toInt) (by decide) dX11_layOrder_91 hl rfl (by decide) (fun _ => rfl) (fun x91 ls t91 hl => ?_)
                have e91 : x91.toInt = (l1_7.toInt + 1) := (z_X11_layStates_2 l1_7.toInt x91.toInt I7_0 t91)
                have hl : lv_has ls 3 [(1, .int x91), (0, .ref a), (2, .int l2_26)] := hl
                refine lv_goto (tgt := 7) hx hb dX11_layOrder_94 (by decide) ?_
                exact ih7 x91 G88 _ _ _ (by rw [hG88]; exact XFr.dput (by rw [hG80]; exact XFr.cput (XFr.call (XFr.call XFr.rf hF_7 (xm1 0 rfl xm0) (xm1 0 rfl xm0) xm0) hF_26 xm0 (xm1 0 rfl xm0) xm0) (List.mem_of_getElem? (i := 0) rfl)) (List.mem_of_getElem? (i := 0) rfl)) (by rw [(e91 : Int32.toInt x91 = (l1_7.toInt + 1)), (show (G88.1 a 16).toInt = (((G_7.1 a 16).toInt) + (1 : Int)) from (congrArg Int32.toInt (ld_at hG88)).trans (e87 : Int32.toInt x87 = (((G_7.1 a 16).toInt) + (1 : Int))))] <;> exact (v_X11_layOrder_94_5 (K := K) (F := F) a G G_7 G_26 G80 l2_26 l1_7 G88 N7 x15 N26 ha hG80 po lo ps pp I7_0 I7_1 I7_2 hm7 c10 t15 c18 I26_0 hm26 c27 (ld_c hG88))) (v_X11_layOrder_94_6 (F := F) a G G_26 G80 l2_26 l1_7 G88 x87 hG80 hG88 lo) (by rw [(e91 : Int32.toInt x91 = (l1_7.toInt + 1))] <;> exact (z_X11_layStates_3 l1_7.toInt I7_0 c10)) (by rw [(e91 : Int32.toInt x91 = (l1_7.toInt + 1)), (show (G88.1 a 16).toInt = (((G_7.1 a 16).toInt) + (1 : Int)) from (congrArg Int32.toInt (ld_at hG88)).trans (e87 : Int32.toInt x87 = (((G_7.1 a 16).toInt) + (1 : Int))))] <;> exact (z_X11_layOrder_12 l1_7.toInt ((G_7.1 a 16).toInt) I7_1)) (by rw [(e91 : Int32.toInt x91 = (l1_7.toInt + 1))] <;> exact (z_X11_layStates_4 l1_7.toInt I7_0)) (by rw [(e91 : Int32.toInt x91 = (l1_7.toInt + 1))] <;> exact (z_X11_copy_9 l1_7.toInt N7 hm7)) hT hS (lv_sub hl [1, 0] rfl)
              · refine lv_aload_n hx hb dX11_layOrder_30 rfl (lv_at hl 0 rfl) ?_
                refine lv_aload_n hx hb dX11_layOrder_31 rfl (lv_at hl 0 rfl) ?_
                refine gX11_15 S hK hT ha kf_X11_48 dX11_layOrder_32 (fun _ _ => ?_)
                refine lv_iload_n hx hb dX11_layOrder_35 rfl (lv_at hl 2 rfl) ?_
                refine lv_iconst (v := 1) hx hb dX11_layOrder_36 (by decide) ?_
                refine xi_isub hx hb (rfl : Int32.toInt l2_26 = l2_26.toInt) ((by decide) : Int32.toInt 1 = (1 : Int)) dX11_layOrder_37 (fun x37 t37 => ?_)
                have e37 : x37.toInt = (l2_26.toInt - (1 : Int)) := (z_X11_layOrder_15 l2_26.toInt x37.toInt c27 t37 (xr l2_26))
                refine al_0 S hK hT hk9999 ar_42 (by decide) (by rw [(e37 : Int32.toInt x37 = (l2_26.toInt - (1 : Int)))]; exact (z_X11_layOrder_16 l1_7.toInt l2_26.toInt ((G_7.1 a 16).toInt) I7_1 c10 I26_0 c27)) dX11_layOrder_38 (fun x38 hv38 o38 => ?_)
                have hv38 : x38.toInt = (aI (G_26.2.1 (F a 15)) (l2_26.toInt - 1)) := hv38.trans (by rw [(e37 : Int32.toInt x37 = (l2_26.toInt - (1 : Int)))])
                have z39 : (0 ≤ (aI (G_26.2.1 (F a 15)) (l2_26.toInt - 1)) ∧ (aI (G_26.2.1 (F a 15)) (l2_26.toInt - 1)) ≤ 11) ∧ (aI (G_26.2.1 (F a 15)) (l2_26.toInt - 1)) = (aI (G_7.2.1 (F a 15)) (l2_26.toInt - 1)) := lo_ent po ps (z_X11_layOrder_17 l1_7.toInt l2_26.toInt ((G_7.1 a 16).toInt) I7_0 I26_0 c27)
                refine lv_bipush (v := 7) hx hb dX11_layOrder_39 (by decide) ?_
                refine x_clp (x_runV (b := a) (As := [.int x38, .int 7]) (rest := []) S (c_X11_of l E K F G_26 H a x38 7 ha (by rw [(hv38 : Int32.toInt x38 = (aI (G_26.2.1 (F a 15)) (l2_26.toInt - 1)))] <;> exact (z_X11_layOrder_18 (aI (G_26.2.1 (F a 15)) (l2_26.toInt - 1)) (aI (G_7.2.1 (F a 15)) (l2_26.toInt - 1)) z39)) (by decide)) mv_X11_of km_X11_165 rfl rfl ⟨Nat.le_of_ble_eq_true rfl, Nat.le_of_ble_eq_true rfl⟩ (rc_13 hK hT ha) hK (fun _ => XPh.blind) (fun U hU hW => XPh.at hK hz hS hT hU hW) rfl hl.1 (Nat.le_of_ble_eq_true rfl) dX11_layOrder_41 ⟨Nat.le_of_ble_eq_true rfl, Nat.le_of_ble_eq_true rfl⟩) hS ?_
                rintro _ _ locs ⟨x41, rfl, t41⟩ hS
                have t41 : x41.toInt = (aI (G.2.1 (F a 10)) (10 * (aI (G_26.2.1 (F a 15)) (l2_26.toInt - 1)) + 7)) := by rw [(hv38 : Int32.toInt x38 = (aI (G_26.2.1 (F a 15)) (l2_26.toInt - 1)))] at t41; rw [(show G_26.2.1 (F a 10) = G.2.1 (F a 10) from ((hF_26.2.1 _ (xn1 (xne_k hk9999a hk9999 (by decide)) xn0)).trans ((hF_7.2.1 _ (xn1 (xne_k hk9999a hk9999 (by decide)) xn0)).trans (ld_c hG2))))] at t41; exact t41
                refine lv_aload_n hx hb dX11_layOrder_44 rfl (lv_at hl 0 rfl) ?_
                refine lv_iload_n hx hb dX11_layOrder_45 rfl (lv_at hl 1 rfl) ?_
                refine lv_bipush (v := 7) hx hb dX11_layOrder_46 (by decide) ?_
                refine x_clp (x_runV (b := a) (As := [.int l1_7, .int 7]) (rest := [.int x41]) S (c_X11_of l E K F G_26 H a l1_7 7 ha (z_X11_layStates_6 l1_7.toInt I7_0 c10) (by decide)) mv_X11_of km_X11_165 rfl rfl ⟨Nat.le_of_ble_eq_true rfl, Nat.le_of_ble_eq_true rfl⟩ (rc_13 hK hT ha) hK (fun _ => XPh.blind) (fun U hU hW => XPh.at hK hz hS hT hU hW) rfl hl.1 (Nat.le_of_ble_eq_true rfl) dX11_layOrder_48 ⟨Nat.le_of_ble_eq_true rfl, Nat.le_of_ble_eq_true rfl⟩) hS ?_
                rintro _ _ locs ⟨x48, rfl, t48⟩ hS
                have t48 : x48.toInt = (aI (G.2.1 (F a 10)) (10 * l1_7.toInt + 7)) := by rw [(show G_26.2.1 (F a 10) = G.2.1 (F a 10) from ((hF_26.2.1 _ (xn1 (xne_k hk9999a hk9999 (by decide)) xn0)).trans ((hF_7.2.1 _ (xn1 (xne_k hk9999a hk9999 (by decide)) xn0)).trans (ld_c hG2))))] at t48; exact t48
                refine xi_cle (tgt := 74) hx hb (t41 : Int32.toInt x41 = (aI (G.2.1 (F a 10)) (10 * (aI (G_26.2.1 (F a 15)) (l2_26.toInt - 1)) + 7))) (t48 : Int32.toInt x48 = (aI (G.2.1 (F a 10)) (10 * l1_7.toInt + 7))) dX11_layOrder_51 (by decide) (fun c51 => ?_) (fun c51 => ?_)
                · refine lv_aload_n hx hb dX11_layOrder_74 rfl (lv_at hl 0 rfl) ?_
                  refine gX11_15 S hK hT ha kf_X11_48 dX11_layOrder_75 (fun _ _ => ?_)
                  refine lv_iload_n hx hb dX11_layOrder_78 rfl (lv_at hl 2 rfl) ?_
                  refine lv_iload_n hx hb dX11_layOrder_79 rfl (lv_at hl 1 rfl) ?_
                  refine as_0 (x := l1_7) S hK hT hS hk9999 ar_42 aw_42 (by decide) (z_X11_layOrder_20 l1_7.toInt l2_26.toInt ((G_7.1 a 16).toInt) I7_1 c10 I26_0) dX11_layOrder_80 (fun H locs hT hS => ?_)
                  obtain ⟨G80, hG80⟩ : ∃ GG : XG, GG = cput G_26 (F a 15) l2_26.toNatClampNeg l1_7 := ⟨_, rfl⟩
                  rw [← hG80] at hT
                  refine lv_aload_n hx hb dX11_layOrder_81 rfl (lv_at hl 0 rfl) ?_
                  refine lv_dup hx hb dX11_layOrder_82 rfl ?_
                  refine gX11_16 S hK hT ha kf_X11_197 dX11_layOrder_83 (v := (G_7.1 a 16)) ((lc_d hG80).trans (hF_26.1 _ _ xn0)) (?_)
                  refine lv_iconst (v := 1) hx hb dX11_layOrder_86 (by decide) ?_
                  refine xi_iadd hx hb (rfl : Int32.toInt (G_7.1 a 16) = ((G_7.1 a 16).toInt)) ((by decide) : Int32.toInt 1 = (1 : Int)) dX11_layOrder_87 (fun x87 t87 => ?_)
                  have e87 : x87.toInt = (((G_7.1 a 16).toInt) + (1 : Int)) := (z_X11_layOrder_9 l1_7.toInt x87.toInt ((G_7.1 a 16).toInt) I7_1 c10 t87)
                  refine pX11_16 (v := x87) S hK hT hS ha kf_X11_197 dX11_layOrder_88 (fun H locs hT hS => ?_)
                  obtain ⟨G88, hG88⟩ : ∃ GG : XG, GG = dput G80 a 16 x87 := ⟨_, rfl⟩
                  rw [← hG88] at hT
                  refine xi_iinc (n := 1) (lv' := fun z9 => [(1, .int z9), (0, .ref a), (2, .int l2_26)]) (k := 1) hx hb (rfl : Int32.toInt l1_7 = l1_7.toInt) (by decide) dX11_layOrder_91 hl rfl (by decide) (fun _ => rfl) (fun x91 ls t91 hl => ?_)
                  have e91 : x91.toInt = (l1_7.toInt + 1) := (z_X11_layStates_2 l1_7.toInt x91.toInt I7_0 t91)
                  have hl : lv_has ls 3 [(1, .int x91), (0, .ref a), (2, .int l2_26)] := hl
                  refine lv_goto (tgt := 7) hx hb dX11_layOrder_94 (by decide) ?_
                  exact ih7 x91 G88 _ _ _ (by rw [hG88]; exact XFr.dput (by rw [hG80]; exact XFr.cput (XFr.call (XFr.call XFr.rf hF_7 (xm1 0 rfl xm0) (xm1 0 rfl xm0) xm0) hF_26 xm0 (xm1 0 rfl xm0) xm0) (List.mem_of_getElem? (i := 0) rfl)) (List.mem_of_getElem? (i := 0) rfl)) (by rw [(e91 : Int32.toInt x91 = (l1_7.toInt + 1)), (show (G88.1 a 16).toInt = (((G_7.1 a 16).toInt) + (1 : Int)) from (congrArg Int32.toInt (ld_at hG88)).trans (e87 : Int32.toInt x87 = (((G_7.1 a 16).toInt) + (1 : Int))))] <;> exact (v_X11_layOrder_94_7 (K := K) (F := F) a G G_7 G_26 G80 l2_26 l1_7 G88 N7 x15 N26 ha hG80 po lo ps pp I7_0 I7_1 I7_2 hm7 c10 t15 c18 I26_0 hm26 c27 z39 c51 (ld_c hG88))) (v_X11_layOrder_94_8 (F := F) a G G_26 G80 l2_26 l1_7 G88 x87 hG80 hG88 lo) (by rw [(e91 : Int32.toInt x91 = (l1_7.toInt + 1))] <;> exact (z_X11_layStates_3 l1_7.toInt I7_0 c10)) (by rw [(e91 : Int32.toInt x91 = (l1_7.toInt + 1)), (show (G88.1 a 16).toInt = (((G_7.1 a 16).toInt) + (1 : Int)) from (congrArg Int32.toInt (ld_at hG88)).trans (e87 : Int32.toInt x87 = (((G_7.1 a 16).toInt) + (1 : Int))))] <;> exact (z_X11_layOrder_12 l1_7.toInt ((G_7.1 a 16).toInt) I7_1)) (by rw [(e91 : Int32.toInt x91 = (l1_7.toInt + 1))] <;> exact (z_X11_layStates_4 l1_7.toInt I7_0)) (by rw [(e91 : Int32.toInt x91 = (l1_7.toInt + 1))] <;> exact (z_X11_copy_9 l1_7.toInt N7 hm7)) hT hS (lv_sub hl [1, 0] rfl)
                · refine lv_aload_n hx hb dX11_layOrder_54 rfl (lv_at hl 0 rfl) ?_
                  refine gX11_15 S hK hT ha kf_X11_48 dX11_layOrder_55 (fun _ _ => ?_)
                  refine lv_iload_n hx hb dX11_layOrder_58 rfl (lv_at hl 2 rfl) ?_
                  refine lv_aload_n hx hb dX11_layOrder_59 rfl (lv_at hl 0 rfl) ?_
                  refine gX11_15 S hK hT ha kf_X11_48 dX11_layOrder_60 (fun _ _ => ?_)
                  refine lv_iload_n hx hb dX11_layOrder_63 rfl (lv_at hl 2 rfl) ?_
                  refine lv_iconst (v := 1) hx hb dX11_layOrder_64 (by decide) ?_
                  refine xi_isub hx hb (rfl : Int32.toInt l2_26 = l2_26.toInt) ((by decide) : Int32.toInt 1 = (1 : Int)) dX11_layOrder_65 (fun x65 t65 => ?_)
                  have e65 : x65.toInt = (l2_26.toInt - (1 : Int)) := (z_X11_layOrder_15 l2_26.toInt x65.toInt c27 t65 (xr l2_26))
                  refine al_0 S hK hT hk9999 ar_42 (by decide) (by rw [(e65 : Int32.toInt x65 = (l2_26.toInt - (1 : Int)))]; exact (z_X11_layOrder_16 l1_7.toInt l2_26.toInt ((G_7.1 a 16).toInt) I7_1 c10 I26_0 c27)) dX11_layOrder_66 (fun x66 hv66 o66 => ?_)
                  have hv66 : x66.toInt = (aI (G_26.2.1 (F a 15)) (l2_26.toInt - 1)) := hv66.trans (by rw [(e65 : Int32.toInt x65 = (l2_26.toInt - (1 : Int)))])
                  refine as_0 (x := x66) S hK hT hS hk9999 ar_42 aw_42 (by decide) (z_X11_layOrder_20 l1_7.toInt l2_26.toInt ((G_7.1 a 16).toInt) I7_1 c10 I26_0) dX11_layOrder_67 (fun H locs hT hS => ?_)
                  obtain ⟨G67, hG67⟩ : ∃ GG : XG, GG = cput G_26 (F a 15) l2_26.toNatClampNeg x66 := ⟨_, rfl⟩
                  rw [← hG67] at hT
                  refine xi_iinc (n := (-1)) (lv' := fun z9 => [(2, .int z9), (0, .ref a), (1, .int l1_7)]) (k := 2) hx hb (rfl : Int32.toInt l2_26 = l2_26.toInt) (by decide) dX11_layOrder_68 hl rfl (by decide) (fun _ => rfl) (fun x68 ls t68 hl => ?_)
                  have e68 : x68.toInt = (l2_26.toInt + (-1)) := (z_X11_layOrder_30 l2_26.toInt x68.toInt c27 t68 (xr l2_26))
                  have hl : lv_has ls 3 [(2, .int x68), (0, .ref a), (1, .int l1_7)] := hl
                  refine lv_goto (tgt := 26) hx hb dX11_layOrder_71 (by decide) ?_
                  exact ih26 x68 G67 _ _ _ (by rw [hG67]; exact XFr.cput (XFr.call XFr.rf hF_26 xm0 (xm1 0 rfl xm0) xm0) (List.mem_of_getElem? (i := 0) rfl)) (v_X11_layOrder_71_9 (F := F) a G G_26 G67 l2_26 x66 hG67 lo) (by rw [(e68 : Int32.toInt x68 = (l2_26.toInt + (-1)))] <;> exact (v_X11_layOrder_71_10 (K := K) (F := F) a G G_7 G_26 G67 l2_26 x66 l1_7 N7 x15 N26 ha hG67 lo ps pp hv66 I7_0 I7_1 I7_2 hm7 c10 t15 c18 I26_0 hm26 c27 z39 c51)) (by rw [(e68 : Int32.toInt x68 = (l2_26.toInt + (-1)))] <;> exact (v_X11_layOrder_71_11 (K := K) (F := F) a G G_7 G_26 l2_26 l1_7 N7 x15 N26 ha lo ps pp I7_0 I7_1 I7_2 hm7 c10 t15 c18 I26_0 hm26 c27 z39 c51)) (by rw [(e68 : Int32.toInt x68 = (l2_26.toInt + (-1)))] <;> exact (z_X11_layOrder_31 l2_26.toInt ((G_7.1 a 16).toInt) I26_0 c27)) (by rw [(e68 : Int32.toInt x68 = (l2_26.toInt + (-1)))] <;> exact (z_X11_layOrder_32 l2_26.toInt N26 hm26)) hT hS (lv_sub hl [1, 2, 0] rfl)
          exact L26 4294967297 (G_7.1 a 16) G_7 _ _ _ XFr.rf (v_X11_layOrder_25_12 G G_7 lo) (v_X11_layOrder_25_13 (F := F) a G_7) (v_X11_layOrder_25_14 (F := F) a G G_7 l1_7) (z_X11_layOrder_33 l1_7.toInt ((G_7.1 a 16).toInt) I7_1) (z_X11_layOrder_34 ((G_7.1 a 16).toInt) (xr (G_7.1 a 16))) hT hS (lv_sub hl [1, 2, 0] rfl)
  exact L7 4294967297 0 G2 _ _ _ XFr.rf (by rw [(show (G2.1 a 16).toInt = (0 : Int) from (congrArg Int32.toInt (ld_at hG2)).trans ((by decide) : Int32.toInt 0 = (0 : Int)))] <;> exact (v_X11_layOrder_6_15 (F := F) a G2 G)) (v_X11_layOrder_6_16 a G2 G hG2) (by decide) (by rw [(show (G2.1 a 16).toInt = (0 : Int) from (congrArg Int32.toInt (ld_at hG2)).trans ((by decide) : Int32.toInt 0 = (0 : Int)))] <;> exact (by decide)) (by decide) (by decide) hT hS (lv_sub hl [1, 0] rfl)
