theorem v_X11_least_45_33 {F : Nat → Nat → Nat} (G : XG) (a : Nat) (p0 : Int32) (p1 : Int32) (x8 : Int32)
    (hM : RM (G.2.1 (F a 1)) (0))
    (z5 : ¬ (0 ≤ p0.toInt ∧ p0.toInt < 3 ∧ 0 ≤ p1.toInt ∧ p1.toInt < 30) → (cel (mw (G.2.1 (F a 1)) 0) (p0.toInt) (p1.toInt) 0) = -2000)
    (t8 : (x8.toInt = 1 ∧ (cel (mw (G.2.1 (F a 1)) 0) (p0.toInt) (p1.toInt) 0) ≠ -2000) ∨ (x8.toInt = 0 ∧ (cel (mw (G.2.1 (F a 1)) 0) (p0.toInt) (p1.toInt) 0) = -2000))
    (c11 : ¬ (x8.toInt = 0)) :
    aI (G.2.1 (F a 1)) (0 + 4 * (30 * p0.toInt + p1.toInt)) = 1 := by
  rcases hM.flag (t := p0.toInt) (k := p1.toInt) (by omega) with h | h
  · exact absurd h.2 (by omega)
  · exact h.1
theorem v_X11_least_45_34 {K : Nat → Nat} {F : Nat → Nat → Nat} (a : Nat) (G : XG) (p0 : Int32) (p1 : Int32) (x8 : Int32) (x15 : Int32) (p2 : Int32) (x30 : Int32)
    (ha : K a = 13)
    (z5 : ¬ (0 ≤ p0.toInt ∧ p0.toInt < 3 ∧ 0 ≤ p1.toInt ∧ p1.toInt < 30) → (cel (mw (G.2.1 (F a 1)) 0) (p0.toInt) (p1.toInt) 0) = -2000)
    (t8 : (x8.toInt = 1 ∧ (cel (mw (G.2.1 (F a 1)) 0) (p0.toInt) (p1.toInt) 0) ≠ -2000) ∨ (x8.toInt = 0 ∧ (cel (mw (G.2.1 (F a 1)) 0) (p0.toInt) (p1.toInt) 0) = -2000))
    (c11 : ¬ (x8.toInt = 0))
    (t15 : (x15.toInt = 1 ∧ 0 ≤ p2.toInt ∧ p2.toInt ≤ 2) ∨ (x15.toInt = 0 ∧ (p2.toInt < 0 ∨ 2 < p2.toInt)))
    (c18 : x15.toInt ≠ 0)
    (t30 : 0 ≤ p0.toInt ∧ p0.toInt ≤ 2 ∧ 0 ≤ p1.toInt ∧ p1.toInt ≤ 29 → x30.toInt = 4 * (30 * p0.toInt + p1.toInt)) :
    ((-2147483648 : Int) = -2147483648 ∧ ∀ v : Int, -99 ≤ v → v < (-99 : Int) → v ≠ (cel (mw (G.2.1 (F a 1)) 0) p0.toInt p1.toInt p2.toInt) → ffP (G.2.1 (F a 10)) (rset (mw (G.2.1 (F a 1)) 0) (90 * p0.toInt + 30 * p2.toInt + p1.toInt) v) (fuO (G.2.1 (F a 10)) (mw (G.2.1 (F a 1)) 0) (rset (mw (G.2.1 (F a 1)) 0) (90 * p0.toInt + 30 * p2.toInt + p1.toInt) v) 2) ≠ -1) ∨ ((-2147483648 : Int) ≠ -2147483648 ∧ LsS (fun v => ffP (G.2.1 (F a 10)) (rset (mw (G.2.1 (F a 1)) 0) (90 * p0.toInt + 30 * p2.toInt + p1.toInt) v) (fuO (G.2.1 (F a 10)) (mw (G.2.1 (F a 1)) 0) (rset (mw (G.2.1 (F a 1)) 0) (90 * p0.toInt + 30 * p2.toInt + p1.toInt) v) 2) = -1) (cel (mw (G.2.1 (F a 1)) 0) p0.toInt p1.toInt p2.toInt) (-2147483648 : Int)) := by
  exact Or.inl ⟨rfl, fun v a1 a2 => absurd a2 (by omega)⟩
theorem v_X11_least_23_35 {F : Nat → Nat → Nat} (G2 : XG) (a : Nat) (G : XG)
    (c_G2_F_a_1 : G2.2.1 (F a 1) = G.2.1 (F a 1)) :
    mw (G2.2.1 (F a 1)) 0 = mw (G.2.1 (F a 1)) 0 := by
  rw [c_G2_F_a_1]
theorem v_X11_least_23_36 {F : Nat → Nat → Nat} (G : XG) (a : Nat) (G2 : XG)
    (hM : RM (G.2.1 (F a 1)) (0))
    (c_G2_F_a_1 : G2.2.1 (F a 1) = G.2.1 (F a 1)) :
    RM (G2.2.1 (F a 1)) 0 := by
  rw [c_G2_F_a_1]; exact hM
theorem v_X11_least_23_37 {K : Nat → Nat} {F : Nat → Nat → Nat} (a : Nat) (G : XG) (p0 : Int32) (p1 : Int32) (x8 : Int32) (x15 : Int32) (p2 : Int32)
    (ha : K a = 13)
    (z5 : ¬ (0 ≤ p0.toInt ∧ p0.toInt < 3 ∧ 0 ≤ p1.toInt ∧ p1.toInt < 30) → (cel (mw (G.2.1 (F a 1)) 0) (p0.toInt) (p1.toInt) 0) = -2000)
    (t8 : (x8.toInt = 1 ∧ (cel (mw (G.2.1 (F a 1)) 0) (p0.toInt) (p1.toInt) 0) ≠ -2000) ∨ (x8.toInt = 0 ∧ (cel (mw (G.2.1 (F a 1)) 0) (p0.toInt) (p1.toInt) 0) = -2000))
    (c11 : ¬ (x8.toInt = 0))
    (t15 : (x15.toInt = 1 ∧ 0 ≤ p2.toInt ∧ p2.toInt ≤ 2) ∨ (x15.toInt = 0 ∧ (p2.toInt < 0 ∨ 2 < p2.toInt)))
    (c18 : ¬ (x15.toInt ≠ 0)) :
    (¬ (cel (mw (G.2.1 (F a 1)) 0) p0.toInt p1.toInt 0 ≠ -2000 ∧ 0 ≤ p2.toInt ∧ p2.toInt < 3) ∧ (-2147483648 : Int) = -2147483648) ∨ ((cel (mw (G.2.1 (F a 1)) 0) p0.toInt p1.toInt 0 ≠ -2000 ∧ 0 ≤ p2.toInt ∧ p2.toInt < 3) ∧ LsS (fun v => ffP (G.2.1 (F a 10)) (rset (mw (G.2.1 (F a 1)) 0) (90 * p0.toInt + 30 * p2.toInt + p1.toInt) v) (fuO (G.2.1 (F a 10)) (mw (G.2.1 (F a 1)) 0) (rset (mw (G.2.1 (F a 1)) 0) (90 * p0.toInt + 30 * p2.toInt + p1.toInt) v) 2) = -1) (cel (mw (G.2.1 (F a 1)) 0) p0.toInt p1.toInt p2.toInt) (-2147483648 : Int)) := by
  exact Or.inl ⟨by omega, rfl⟩
theorem z_X11_leans_1 (a0 : Int) (h0 : 0 ≤ a0 ∧ a0 ≤ 90) : ¬ (2147483648 - a0 < ((0 : Nat) : Int)) := by omega
theorem z_X11_leans_2 (a0 : Int) (a1 : Int) (h0 : (a0 = 0 ∨ a0 = 1)) (h1 : 0 ≤ a1 ∧ a1 ≤ 90) : ¬ (2 * a1 + a0 < ((0 : Nat) : Int)) := by omega
theorem z_X11_leans_4 (a0 : Int) (h0 : 0 ≤ a0 ∧ a0 ≤ 90) : 0 ≤ a0 := by omega
theorem z_X11_leans_5 (a0 : Int) (h0 : 0 ≤ a0 ∧ a0 ≤ 90) (h1 : ¬ ((90 : Int) ≤ a0)) : 0 ≤ a0 ∧ a0 < ((90 : Nat) : Int) := by omega
theorem z_X11_leans_6 (a0 : Int) (a1 : Int) (h0 : a1 = (a0 + (0 : Int)) ∨ (a0 + (0 : Int)) < -2147483648 ∨ 2147483648 ≤ (a0 + (0 : Int))) (h1 : -2147483648 ≤ a0 ∧ a0 < 2147483648) : a1 = (a0 + (0 : Int)) := by omega
theorem z_X11_leans_7 (a0 : Int) (a1 : Int) (h0 : 0 ≤ a0 ∧ a0 ≤ 90) (h1 : a1 = (a0 + 1) ∨ (a0 + 1) < -2147483648 ∨ 2147483648 ≤ (a0 + 1)) : a1 = (a0 + 1) := by omega
theorem z_X11_leans_8 (a0 : Int) (h0 : 0 ≤ a0 ∧ a0 ≤ 90) (h1 : ¬ ((90 : Int) ≤ a0)) : 0 ≤ (a0 + 1) ∧ (a0 + 1) ≤ 90 := by omega
theorem z_X11_leans_9 (a0 : Int) (a1 : Int) (a2 : Int) (a3 : Int) (a4 : Int) (a5 : Int) (a6 : Int) (a7 : Int) (h0 : a0 = a6) (h1 : a5 = a6 + a7) (h2 : ¬ (a4 = 1 ∧ a1 ≠ 30 * a2 + a3) → a7 = 0) (h3 : a4 = 0) : (a0 + (0 : Int)) = a5 := by omega
theorem z_X11_leans_10 (a0 : Int) (a1 : Int) (h0 : 0 ≤ a0 ∧ a0 ≤ a1) : 0 ≤ (a0 + (0 : Int)) ∧ (a0 + (0 : Int)) ≤ (a1 + 1) := by omega
theorem z_X11_leans_11 (a0 : Int) (a1 : Nat) (h0 : 2147483648 - a0 < ((a1 + 1 : Nat) : Int)) : 2147483648 - (a0 + 1) < ((a1 : Nat) : Int) := by omega
theorem z_X11_leans_15 (a0 : Int) (a1 : Int) (a2 : Int) (a3 : Int) (a4 : Int) (a5 : Int) (a6 : Int) (a7 : Int) (a8 : Int) (a9 : Int) (a10 : Int) (a11 : Int) (h0 : ¬ (0 ≤ a2 ∧ a2 < 3 ∧ 0 ≤ a3 ∧ a3 < 30) → a10 = -2000) (h1 : (a6 = 1 ∧ a10 ≠ -2000) ∨ (a6 = 0 ∧ a10 = -2000)) (h2 : ¬ (a6 = 0)) (h3 : a0 = a9) (h4 : a8 = a9 + a11) (h5 : ¬ (a7 = 1 ∧ a1 ≠ 30 * a2 + a3) → a11 = 0) (h6 : a4 = (30 : Int) * a2 ∨ (30 : Int) * a2 < -2147483648 ∨ 2147483648 ≤ (30 : Int) * a2) (h7 : a5 = a4 + a3 ∨ a4 + a3 < -2147483648 ∨ 2147483648 ≤ a4 + a3) (h8 : a1 = a5) : (a0 + (0 : Int)) = a8 := by omega
theorem z_X11_leans_18 (a0 : Int) (a1 : Int) (a2 : Int) (h0 : 0 ≤ a0 ∧ a0 ≤ a1) (h1 : ¬ ((90 : Int) ≤ a1)) (h2 : a2 = (a0 + (1 : Int)) ∨ (a0 + (1 : Int)) < -2147483648 ∨ 2147483648 ≤ (a0 + (1 : Int))) : a2 = (a0 + (1 : Int)) := by omega
theorem z_X11_leans_21 (a0 : Int) (a1 : Int) (a2 : Int) (a3 : Int) (a4 : Int) (a5 : Int) (a6 : Int) (a7 : Int) (a8 : Int) (a9 : Int) (a10 : Int) (a11 : Int) (h0 : ¬ (0 ≤ a2 ∧ a2 < 3 ∧ 0 ≤ a3 ∧ a3 < 30) → a10 = -2000) (h1 : (a6 = 1 ∧ a10 ≠ -2000) ∨ (a6 = 0 ∧ a10 = -2000)) (h2 : ¬ (a6 = 0)) (h3 : a0 = a9) (h4 : a8 = a9 + a11) (h5 : a7 = 1 ∧ a1 ≠ 30 * a2 + a3 → a11 = 1) (h6 : a7 = 0 ∨ a7 = 1) (h7 : ¬ (a7 = 0)) (h8 : a4 = (30 : Int) * a2 ∨ (30 : Int) * a2 < -2147483648 ∨ 2147483648 ≤ (30 : Int) * a2) (h9 : a5 = a4 + a3 ∨ a4 + a3 < -2147483648 ∨ 2147483648 ≤ a4 + a3) (h10 : ¬ (a1 = a5)) : (a0 + (1 : Int)) = a8 := by omega
theorem z_X11_leans_22 (a0 : Int) (a1 : Int) (h0 : 0 ≤ a0 ∧ a0 ≤ a1) : 0 ≤ (a0 + (1 : Int)) ∧ (a0 + (1 : Int)) ≤ (a1 + 1) := by omega
theorem z_X11_leans_24 (a0 : Int) (h0 : a0 = 0) : (0 : Int) = a0 := by omega
theorem z_X11_leans_25 (a0 : Int) (h0 : 0 ≤ a0 ∧ a0 ≤ 90) : ¬ (100 - a0 < ((0 : Nat) : Int)) := by omega
theorem z_X11_leans_26 (a0 : Int) (h0 : a0 = 0 ∨ a0 = 1) : (a0 = 0 ∨ a0 = 1) := by omega
theorem z_X11_leans_28 (a0 : Int) (a1 : Int) (a2 : Nat) (a3 : Int) (a4 : Int) (h0 : (a1 = 0 ∨ a1 = 1)) (h1 : 2 * a4 + a1 < ((a2 + 1 : Nat) : Int)) (h2 : ¬ (a1 = 0)) (h3 : a0 = 0 ∨ a0 = 1) (h4 : a3 ≤ a4) (h5 : a0 = 1 → a3 + 1 ≤ a4) : 2 * a3 + a0 < ((a2 : Nat) : Int) := by omega
theorem z_X11_leans_32 (a0 : Int) (a1 : Int) (a2 : Int) (h0 : a0 = 0 ∨ a0 = 1) (h1 : a1 ≤ a2) (h2 : a0 = 1 → a1 + 1 ≤ a2) : (a0 = 0 ∨ a0 = 1) ∧ a1 ≤ a2 ∧ (a0 = 1 → a1 + 1 ≤ a2) := by omega
theorem z_X11_leans_33 (a0 : Int) (a1 : Nat) (h0 : 100 - a0 < ((a1 + 1 : Nat) : Int)) : 100 - (a0 + 1) < ((a1 : Nat) : Int) := by omega
theorem z_X11_leans_44 (a0 : Int) (a1 : Int) (a2 : Int) (h0 : 0 ≤ a0 ∧ a0 ≤ 90) (h1 : ¬ ((90 : Int) ≤ a0)) (h2 : 0 ≤ a0 → a1 = a0 / (30 : Int)) (h3 : 0 ≤ a0 → a2 = a0 % (30 : Int)) : 0 ≤ a1 ∧ a1 < 3 ∧ 0 ≤ a2 ∧ a2 < 30 := by omega
theorem z_X11_leans_45 (a0 : Int) (a1 : Int) (h0 : 0 ≤ a0 ∧ a0 ≤ 90) (h1 : 0 ≤ a0 → a1 = a0 % (30 : Int)) : 0 ≤ a1 ∧ a1 < 30 := by omega
theorem z_X11_leans_53 (a0 : Int) (a1 : Int) (a2 : Int) (h0 : a1 ≤ a2) (h1 : a0 + 1 = a1) : ((1 : Int) = 0 ∨ (1 : Int) = 1) ∧ a0 ≤ a2 ∧ ((1 : Int) = 1 → a0 + 1 ≤ a2) := by omega
theorem z_X11_leans_56 (a0 : Int) : ((0 : Int) = 0 ∨ (0 : Int) = 1) ∧ a0 ≤ a0 ∧ ((0 : Int) = 1 → a0 + 1 ≤ a0) := by omega
theorem z_X11_leans_58 (a0 : Int) (h0 : 0 ≤ a0 ∧ a0 ≤ 90) : 2 * a0 + (1 : Int) < ((4294967297 : Nat) : Int) := by omega
theorem z_X11_leans_59 (a0 : Int) (a1 : Int) (a2 : Int) (a3 : Int) (h0 : 0 ≤ a0 ∧ a0 ≤ a1) (h1 : ¬ ((90 : Int) ≤ a1)) (h2 : 0 ≤ a1 → a2 = a1 / (30 : Int)) (h3 : 0 ≤ a1 → a3 = a1 % (30 : Int)) : 0 ≤ a2 ∧ a2 < 3 ∧ 0 ≤ a3 ∧ a3 < 30 := by omega
theorem z_X11_leans_60 (a0 : Int) (a1 : Int) (a2 : Int) (a3 : Int) (h0 : ¬ (0 ≤ a0 ∧ a0 < 3 ∧ 0 ≤ a1 ∧ a1 < 30) → a3 = -2000) (h1 : (a2 = 1 ∧ a3 ≠ -2000) ∨ (a2 = 0 ∧ a3 = -2000)) (h2 : ¬ (a2 = 0)) : 0 ≤ a1 ∧ a1 < 30 := by omega
theorem z_X11_leans_69 (a0 : Int) (a1 : Int) (a2 : Int) (a3 : Int) (a4 : Int) (a5 : Int) (a6 : Int) (h0 : a0 = a5) (h1 : a2 = 0 → a6 = 0) (h2 : a4 = a5 + a6) (h3 : a1 = a1 → a3 = a2) (h4 : a3 = 0) : (a0 + (0 : Int)) = a4 := by omega
theorem z_X11_leans_75 (a0 : Int) (a1 : Int) (a2 : Int) (a3 : Int) (a4 : Int) (a5 : Int) (a6 : Int) (h0 : a0 = a5) (h1 : a2 = 1 → a6 = 1) (h2 : a4 = a5 + a6) (h3 : a1 = a1 → a3 = a2) (h4 : a3 = 0 ∨ a3 = 1) (h5 : ¬ (a3 = 0)) : (a0 + (1 : Int)) = a4 := by omega
abbrev rm_X11_leans : Room := { frames := 4, cells := 0, slots := 0, locals := 93 }
set_option maxHeartbeats 4000000 in
set_option maxRecDepth 100000 in
theorem c_X11_leans (l : Launch) (E : XE) (K : Nat → Nat) (F : Nat → Nat → Nat) (G : XG) (a : Nat) (p0 : Int32) (p1 : Int32) (p2 : Int32) (ha : K a = 13) (hR : RV (G.2.1 (F a 10))) (hM : RM (G.2.1 (F a 1)) (0)) : Met l yX11_leans (xw yX11_leans cX11_leans 8 (some .int)) rm_X11_leans (va_Pc [.ref a, .int p0, .int p1, .int p2] (XP E K F G)) (XQ E (fun v (u : XG) => ∃ r : Int32, v = .int r ∧ XFr [(a, 0)] [F a 51] [] G u ∧ ((¬ (cel (mw (G.2.1 (F a 1)) 0) p0.toInt p1.toInt 0 ≠ -2000 ∧ 0 ≤ p2.toInt ∧ p2.toInt ≤ 1) ∧ r.toInt = -1) ∨ ((cel (mw (G.2.1 (F a 1)) 0) p0.toInt p1.toInt 0 ≠ -2000 ∧ 0 ≤ p2.toInt ∧ p2.toInt ≤ 1) ∧ ((p2.toInt = 0 ∧ r.toInt = bsI (lnI (G.2.1 (F a 10)) (mw (G.2.1 (F a 1)) 0) p0.toInt p1.toInt) 90) ∨ (p2.toInt = 1 ∧ ∃ g : Int → Int, r.toInt = bsI (lnK g (30 * p0.toInt + p1.toInt)) 90 ∧ ∀ z : Int, 0 ≤ z → z < 90 → (g z = 1 ↔ RC1 (lnM (G.2.1 (F a 10)) (mw (G.2.1 (F a 1)) 0) 12) p0.toInt p1.toInt (z / 30) (z % 30))))))) (fun u H => TW E K F u H)) 0 0 (xA E) := by
  refine x_enter (by decide) (Nat.le_of_ble_eq_true rfl) ?_
  intro p e s m args below meth c Q S hr hlk hnm hQ hP ls hl
  obtain ⟨hz, hK, hT⟩ := hP
  obtain ⟨hx, hb, -, -, -⟩ := id S
  obtain ⟨H, hT, hS, hgo⟩ : ∃ H : Heap, TW E K F G H ∧ va_S (xA E) s.heap H [] ∧ H = s.heap := ⟨_, hT, va_S.rf, rfl⟩
  rw [← hgo]
  have hl : lv_has ls 8 [(0, .ref a), (1, .int p0), (2, .int p1), (3, .int p2)] := hl
  obtain ⟨hk9999, hj9999⟩ := fkX11_51 hT ha
  obtain ⟨hk9999a, hj9999a⟩ := fkX11_10 hT ha
  obtain ⟨hk9999b, hj9999b⟩ := fkX11_1 hT ha
  refine lv_aload_n hx hb dX11_leans_0 rfl (lv_at hl 0 rfl) ?_
  refine lv_iconst (v := 0) hx hb dX11_leans_1 (by decide) ?_
  refine pX11_0 (v := 0) S hK hT hS ha kf_X11_134 dX11_leans_2 (fun H locs hT hS => ?_)
  obtain ⟨G2, hG2⟩ : ∃ GG : XG, GG = dput G a 0 0 := ⟨_, rfl⟩
  rw [← hG2] at hT
  have z5 : ¬ (0 ≤ p0.toInt ∧ p0.toInt < 3 ∧ 0 ≤ p1.toInt ∧ p1.toInt < 30) → (cel (mw (G.2.1 (F a 1)) 0) (p0.toInt) (p1.toInt) 0) = -2000 := fun h9 => cel_out (by omega)
  refine lv_aload_n hx hb dX11_leans_5 rfl (lv_at hl 0 rfl) ?_
  refine lv_iload_n hx hb dX11_leans_6 rfl (lv_at hl 1 rfl) ?_
  refine lv_iload_n hx hb dX11_leans_7 rfl (lv_at hl 2 rfl) ?_
  refine x_clp (x_runV (b := a) (As := [.int p0, .int p1]) (rest := []) S (c_X11_isRow l E K F G2 H a p0 p1 ha (v_X11_leans_8_1 (F := F) a G2 G hM (ld_c hG2))) mv_X11_isRow km_X11_346 rfl rfl ⟨Nat.le_of_ble_eq_true rfl, Nat.le_of_ble_eq_true rfl⟩ (rc_13 hK hT ha) hK (fun _ => XPh.blind) (fun U hU hW => XPh.at hK hz hS hT hU hW) rfl hl.1 (Nat.le_of_ble_eq_true rfl) dX11_leans_8 ⟨Nat.le_of_ble_eq_true rfl, Nat.le_of_ble_eq_true rfl⟩) hS ?_
  rintro _ _ locs ⟨x8, rfl, b8, t8⟩ hS
  have t8 : (x8.toInt = 1 ∧ (cel (mw (G.2.1 (F a 1)) 0) (p0.toInt) (p1.toInt) 0) ≠ -2000) ∨ (x8.toInt = 0 ∧ (cel (mw (G.2.1 (F a 1)) 0) (p0.toInt) (p1.toInt) 0) = -2000) := by rw [(show G2.2.1 (F a 1) = G.2.1 (F a 1) from (ld_c hG2))] at t8; exact t8
  refine xi_zeq (tgt := 24) hx hb (rfl : Int32.toInt x8 = x8.toInt) dX11_leans_11 (by decide) (fun c11 => ?_) (fun c11 => ?_)
  · refine lv_iconst (v := (-1)) hx hb dX11_leans_24 (by decide) ?_
    exact x_ri hx hb hr hlk hQ (Nat.le_of_ble_eq_true rfl) (Nat.le_of_ble_eq_true rfl) hS dX11_leans_25 G2 ⟨_, rfl, (by rw [hG2]; exact XFr.dput XFr.rf (List.mem_of_getElem? (i := 0) rfl)), (by rw [((by decide) : Int32.toInt (-1) = (-1 : Int))] <;> exact (v_X11_leans_25_2 (K := K) (F := F) a G p0 p1 x8 p2 ha z5 t8 c11))⟩ hT
  · refine lv_iload_n hx hb dX11_leans_14 rfl (lv_at hl 3 rfl) ?_
    refine lv_i2l (v := p2.toInt64) hx hb dX11_leans_15 rfl ?_
    refine lv_lconst (v := (0 : Int64)) hx hb dX11_leans_16 (by decide) ?_
    refine lv_lconst (v := (1 : Int64)) hx hb dX11_leans_17 (by decide) ?_
    refine x_clp (x_runS (As := [.long p2.toInt64, .long (0 : Int64), .long (1 : Int64)]) (rest := []) S (c_X11_in l E K F G2 H p2.toInt64 p2.toInt (0 : Int64) (0 : Int) (1 : Int64) (1 : Int) (xl_i2l (rfl : Int32.toInt p2 = p2.toInt)) (by decide) (by decide)) ms_X11_in km_X11_139 rfl rfl ⟨Nat.le_of_ble_eq_true rfl, Nat.le_of_ble_eq_true rfl⟩ hK (fun _ => XPh.blind) (fun U hU hW => XPh.at hK hz hS hT hU hW) rfl hl.1 (Nat.le_of_ble_eq_true rfl) dX11_leans_18 ⟨Nat.le_of_ble_eq_true rfl, Nat.le_of_ble_eq_true rfl⟩) hS ?_
    rintro _ _ locs ⟨x18, rfl, b18, t18⟩ hS
    have t18 : (x18.toInt = 1 ∧ (0 : Int) ≤ p2.toInt ∧ p2.toInt ≤ (1 : Int)) ∨ (x18.toInt = 0 ∧ (p2.toInt < (0 : Int) ∨ (1 : Int) < p2.toInt)) := t18
    refine xi_zne (tgt := 26) hx hb (rfl : Int32.toInt x18 = x18.toInt) dX11_leans_21 (by decide) (fun c21 => ?_) (fun c21 => ?_)
    · refine lv_iconst (v := 0) hx hb dX11_leans_26 (by decide) ?_
      refine lv_istore (lv' := [(4, .int 0), (0, .ref a), (1, .int p0), (2, .int p1), (3, .int p2)]) hx hb dX11_leans_27 hl (by decide) rfl (fun ls hl => ?_)
      have z29 : (bsI (lnI (G.2.1 (F a 10)) (mw (G.2.1 (F a 1)) 0) p0.toInt p1.toInt) 0) = 0 := bsI_0 _
      refine lv_iconst (v := 0) hx hb dX11_leans_29 (by decide) ?_
      refine lv_istore (lv' := [(5, .int 0), (4, .int 0), (0, .ref a), (1, .int p0), (2, .int p1), (3, .int p2)]) hx hb dX11_leans_30 hl (by decide) rfl (fun ls hl => ?_)
      have L32 : ∀ (N32 : Nat) (l4_32 : Int32) (l5_32 : Int32) (G_32 : XG) (H : Heap) (locs : List Loc) (ls : Array Slot), XFr [] [F a 51] [] G2 G_32 → (∀ z : Int, 0 ≤ z → z < l5_32.toInt → ((aI (G_32.2.1 (F a 51))) z = 1 ∧ lnM (G.2.1 (F a 10)) (mw (G.2.1 (F a 1)) 0) 12 (z / 30) (z % 30) p0.toInt p1.toInt) ∨ ((aI (G_32.2.1 (F a 51))) z = 0 ∧ ¬ lnM (G.2.1 (F a 10)) (mw (G.2.1 (F a 1)) 0) 12 (z / 30) (z % 30) p0.toInt p1.toInt)) → 0 ≤ l5_32.toInt ∧ l5_32.toInt ≤ 90 → l4_32.toInt = (bsI (lnI (G.2.1 (F a 10)) (mw (G.2.1 (F a 1)) 0) p0.toInt p1.toInt) (l5_32.toInt)) → 0 ≤ l4_32.toInt ∧ l4_32.toInt ≤ l5_32.toInt → 2147483648 - l5_32.toInt < ((N32 : Nat) : Int) → TW E K F G_32 H → va_S (xA E) s.heap H locs → lv_has ls 8 [(0, .ref a), (1, .int p0), (2, .int p1), (3, .int p2), (4, .int l4_32), (5, .int l5_32)] → W p l e rm_X11_leans s m args below meth c H locs 0 0 Q (F0 m 32 ls []) := by
        intro N32
        induction N32 with
        | zero =>
          intro l4_32 l5_32 G_32 H locs ls hF_32 ps I32_0 I32_1 I32_2 hm32
          exact absurd hm32 (z_X11_leans_1 l5_32.toInt I32_0)
        | succ N32 ih32 =>
          intro l4_32 l5_32 G_32 H locs ls hF_32 ps I32_0 I32_1 I32_2 hm32 hT hS hl
          refine lv_iload hx hb dX11_leans_32 (lv_at hl 5 rfl) ?_
          refine lv_bipush (v := 90) hx hb dX11_leans_34 (by decide) ?_
          refine xi_cge (tgt := 88) hx hb (rfl : Int32.toInt l5_32 = l5_32.toInt) ((by decide) : Int32.toInt 90 = (90 : Int)) dX11_leans_36 (by decide) (fun c36 => ?_) (fun c36 => ?_)
          · have z88 : 0 ≤ (czI (G_32.2.1 (F a 51))) ∧ (czI (G_32.2.1 (F a 51))) ≤ 90 := czI_b _
            have z88a : l5_32.toInt = 90 → (bsI (lnI (G.2.1 (F a 10)) (mw (G.2.1 (F a 1)) 0) p0.toInt p1.toInt) (l5_32.toInt)) = (bsI (lnI (G.2.1 (F a 10)) (mw (G.2.1 (F a 1)) 0) p0.toInt p1.toInt) 90) := fun h9 => by rw [h9]
            refine lv_iconst (v := 1) hx hb dX11_leans_88 (by decide) ?_
            refine lv_istore (lv' := [(5, .int 1), (0, .ref a), (1, .int p0), (2, .int p1), (3, .int p2), (4, .int l4_32)]) hx hb dX11_leans_89 hl (by decide) rfl (fun ls hl => ?_)
            have L91 : ∀ (N91 : Nat) (l5_91 : Int32) (G_91 : XG) (H : Heap) (locs : List Loc) (ls : Array Slot), XFr [] [F a 51] [] G_32 G_91 → LQ (G.2.1 (F a 10)) (mw (G.2.1 (F a 1)) 0) p0.toInt p1.toInt (aI (G_91.2.1 (F a 51))) → (l5_91.toInt = 0 → LZ (G.2.1 (F a 10)) (mw (G.2.1 (F a 1)) 0) (aI (G_91.2.1 (F a 51))) 90 0) → (l5_91.toInt = 0 ∨ l5_91.toInt = 1) → 0 ≤ (czI (G_91.2.1 (F a 51))) ∧ (czI (G_91.2.1 (F a 51))) ≤ 90 → 2 * (czI (G_91.2.1 (F a 51))) + l5_91.toInt < ((N91 : Nat) : Int) → TW E K F G_91 H → va_S (xA E) s.heap H locs → lv_has ls 8 [(0, .ref a), (1, .int p0), (2, .int p1), (3, .int p2), (4, .int l4_32), (5, .int l5_91)] → W p l e rm_X11_leans s m args below meth c H locs 0 0 Q (F0 m 91 ls []) := by
              intro N91
              induction N91 with
              | zero =>
                intro l5_91 G_91 H locs ls hF_91 lq lz I91_0 I91_1 hm91
                exact absurd hm91 (z_X11_leans_2 l5_91.toInt (czI (G_91.2.1 (F a 51))) I91_0 I91_1)
              | succ N91 ih91 =>
                intro l5_91 G_91 H locs ls hF_91 lq lz I91_0 I91_1 hm91 hT hS hl
                refine lv_iload hx hb dX11_leans_91 (lv_at hl 5 rfl) ?_
                refine xi_zeq (tgt := 192) hx hb (rfl : Int32.toInt l5_91 = l5_91.toInt) dX11_leans_93 (by decide) (fun c93 => ?_) (fun c93 => ?_)
                · refine lv_iconst (v := 0) hx hb dX11_leans_192 (by decide) ?_
                  refine lv_istore (lv' := [(6, .int 0), (0, .ref a), (1, .int p0), (2, .int p1), (3, .int p2), (4, .int l4_32), (5, .int l5_91)]) hx hb dX11_leans_193 hl (by decide) rfl (fun ls hl => ?_)
                  have z195 : (bsI (lnK (aI (G_91.2.1 (F a 51))) (30 * p0.toInt + p1.toInt)) 0) = 0 := bsI_0 _
                  refine lv_iconst (v := 0) hx hb dX11_leans_195 (by decide) ?_
                  refine lv_istore (lv' := [(7, .int 0), (6, .int 0), (0, .ref a), (1, .int p0), (2, .int p1), (3, .int p2), (4, .int l4_32), (5, .int l5_91)]) hx hb dX11_leans_196 hl (by decide) rfl (fun ls hl => ?_)
                  have L198 : ∀ (N198 : Nat) (l6_198 : Int32) (l7_198 : Int32) (H : Heap) (locs : List Loc) (ls : Array Slot), 0 ≤ l7_198.toInt ∧ l7_198.toInt ≤ 90 → l6_198.toInt = (bsI (lnK (aI (G_91.2.1 (F a 51))) (30 * p0.toInt + p1.toInt)) (l7_198.toInt)) → 0 ≤ l6_198.toInt ∧ l6_198.toInt ≤ l7_198.toInt → 2147483648 - l7_198.toInt < ((N198 : Nat) : Int) → TW E K F G_91 H → va_S (xA E) s.heap H locs → lv_has ls 8 [(0, .ref a), (1, .int p0), (2, .int p1), (3, .int p2), (4, .int l4_32), (6, .int l6_198), (7, .int l7_198)] → W p l e rm_X11_leans s m args below meth c H locs 0 0 Q (F0 m 198 ls []) := by
                    intro N198
                    induction N198 with
                    | zero =>
                      intro l6_198 l7_198 H locs ls I198_0 I198_1 I198_2 hm198
                      exact absurd hm198 (z_X11_leans_1 l7_198.toInt I198_0)
                    | succ N198 ih198 =>
                      intro l6_198 l7_198 H locs ls I198_0 I198_1 I198_2 hm198 hT hS hl
                      refine lv_iload hx hb dX11_leans_198 (lv_at hl 6 rfl) ?_
                      refine lv_bipush (v := 90) hx hb dX11_leans_200 (by decide) ?_
                      refine xi_cge (tgt := 242) hx hb (rfl : Int32.toInt l7_198 = l7_198.toInt) ((by decide) : Int32.toInt 90 = (90 : Int)) dX11_leans_202 (by decide) (fun c202 => ?_) (fun c202 => ?_)
                      · have z242 : l7_198.toInt = 90 → (bsI (lnK (aI (G_91.2.1 (F a 51))) (30 * p0.toInt + p1.toInt)) (l7_198.toInt)) = (bsI (lnK (aI (G_91.2.1 (F a 51))) (30 * p0.toInt + p1.toInt)) 90) := fun h9 => by rw [h9]
                        refine lv_iload_n hx hb dX11_leans_242 rfl (lv_at hl 3 rfl) ?_
                        refine xi_zne (tgt := 251) hx hb (rfl : Int32.toInt p2 = p2.toInt) dX11_leans_243 (by decide) (fun c243 => ?_) (fun c243 => ?_)
                        · refine lv_iload hx hb dX11_leans_251 (lv_at hl 5 rfl) ?_
                          exact x_ri hx hb hr hlk hQ (Nat.le_of_ble_eq_true rfl) (Nat.le_of_ble_eq_true rfl) hS dX11_leans_253 G_91 ⟨_, rfl, (XFr.call (XFr.call (by rw [hG2]; exact XFr.dput XFr.rf (List.mem_of_getElem? (i := 0) rfl)) hF_32 xm0 (xm1 0 rfl xm0) xm0) hF_91 xm0 (xm1 0 rfl xm0) xm0), (v_X11_leans_253_3 (K := K) (F := F) a G G_32 G_91 l5_32 p0 p1 l5_91 x8 x18 p2 l4_32 N32 N91 l7_198 l6_198 N198 ha lq lz z5 t8 c11 t18 c21 z29 I32_0 I32_1 I32_2 hm32 c36 z88 z88a I91_0 I91_1 hm91 c93 z195 I198_0 I198_1 I198_2 hm198 c202 z242 c243)⟩ hT
                        · refine lv_iload hx hb dX11_leans_246 (lv_at hl 4 rfl) ?_
                          refine lv_goto (tgt := 253) hx hb dX11_leans_248 (by decide) ?_
                          exact x_ri hx hb hr hlk hQ (Nat.le_of_ble_eq_true rfl) (Nat.le_of_ble_eq_true rfl) hS dX11_leans_253 G_91 ⟨_, rfl, (XFr.call (XFr.call (by rw [hG2]; exact XFr.dput XFr.rf (List.mem_of_getElem? (i := 0) rfl)) hF_32 xm0 (xm1 0 rfl xm0) xm0) hF_91 xm0 (xm1 0 rfl xm0) xm0), (v_X11_leans_253_4 (K := K) (F := F) a G G_32 G_91 l5_32 p0 p1 l5_91 x8 x18 p2 l4_32 N32 N91 l7_198 l6_198 N198 ha lq lz z5 t8 c11 t18 c21 z29 I32_0 I32_1 I32_2 hm32 c36 z88 z88a I91_0 I91_1 hm91 c93 z195 I198_0 I198_1 I198_2 hm198 c202 z242 c243)⟩ hT
                      · have z205 : (bsI (lnK (aI (G_91.2.1 (F a 51))) (30 * p0.toInt + p1.toInt)) (l7_198.toInt + 1)) = (bsI (lnK (aI (G_91.2.1 (F a 51))) (30 * p0.toInt + p1.toInt)) (l7_198.toInt)) + (lnK (aI (G_91.2.1 (F a 51))) (30 * p0.toInt + p1.toInt) (l7_198.toInt)) := bsI_s _ (z_X11_leans_4 l7_198.toInt I198_0)
                        have z205a : ((aI (G_91.2.1 (F a 51)) (l7_198.toInt)) = 1 ∧ l7_198.toInt ≠ 30 * p0.toInt + p1.toInt → (lnK (aI (G_91.2.1 (F a 51))) (30 * p0.toInt + p1.toInt) (l7_198.toInt)) = 1) ∧ (¬ ((aI (G_91.2.1 (F a 51)) (l7_198.toInt)) = 1 ∧ l7_198.toInt ≠ 30 * p0.toInt + p1.toInt) → (lnK (aI (G_91.2.1 (F a 51))) (30 * p0.toInt + p1.toInt) (l7_198.toInt)) = 0) := lnK_st _ _ _
                        refine lv_iload hx hb dX11_leans_205 (lv_at hl 5 rfl) ?_
                        refine lv_aload_n hx hb dX11_leans_207 rfl (lv_at hl 0 rfl) ?_
                        refine gX11_51 S hK hT ha kf_X11_130 dX11_leans_208 (fun _ _ => ?_)
                        refine lv_iload hx hb dX11_leans_211 (lv_at hl 6 rfl) ?_
                        refine al_3 S hK hT hk9999 ar_59 (by decide) (z_X11_leans_5 l7_198.toInt I198_0 c202) dX11_leans_213 (fun x213 hv213 o213 => ?_)
                        have hv213 : x213.toInt = (aI (G_91.2.1 (F a 51)) (l7_198.toInt)) := hv213.trans (by rw [(rfl : Int32.toInt l7_198 = l7_198.toInt)])
                        refine xi_zeq (tgt := 232) hx hb (hv213 : Int32.toInt x213 = (aI (G_91.2.1 (F a 51)) (l7_198.toInt))) dX11_leans_214 (by decide) (fun c214 => ?_) (fun c214 => ?_)
                        · refine lv_iconst (v := 0) hx hb dX11_leans_232 (by decide) ?_
                          refine xi_iadd hx hb (rfl : Int32.toInt l6_198 = l6_198.toInt) ((by decide) : Int32.toInt 0 = (0 : Int)) dX11_leans_233 (fun x233 t233 => ?_)
                          have e233 : x233.toInt = (l6_198.toInt + (0 : Int)) := (z_X11_leans_6 l6_198.toInt x233.toInt t233 (xr l6_198))
                          refine lv_istore (lv' := [(6, .int x233), (0, .ref a), (1, .int p0), (2, .int p1), (3, .int p2), (4, .int l4_32), (7, .int l7_198)]) hx hb dX11_leans_234 hl (by decide) rfl (fun ls hl => ?_)
                          refine xi_iinc (n := 1) (lv' := fun z9 => [(7, .int z9), (6, .int x233), (0, .ref a), (1, .int p0), (2, .int p1), (3, .int p2), (4, .int l4_32)]) (k := 6) hx hb (rfl : Int32.toInt l7_198 = l7_198.toInt) (by decide) dX11_leans_236 hl rfl (by decide) (fun _ => rfl) (fun x236 ls t236 hl => ?_)
                          have e236 : x236.toInt = (l7_198.toInt + 1) := (z_X11_leans_7 l7_198.toInt x236.toInt I198_0 t236)
                          have hl : lv_has ls 8 [(7, .int x236), (6, .int x233), (0, .ref a), (1, .int p0), (2, .int p1), (3, .int p2), (4, .int l4_32)] := hl
                          refine lv_goto (tgt := 198) hx hb dX11_leans_239 (by decide) ?_
                          exact ih198 x233 x236 _ _ _ (by rw [(e236 : Int32.toInt x236 = (l7_198.toInt + 1))] <;> exact (z_X11_leans_8 l7_198.toInt I198_0 c202)) (by rw [(e233 : Int32.toInt x233 = (l6_198.toInt + (0 : Int))), (e236 : Int32.toInt x236 = (l7_198.toInt + 1))] <;> exact (z_X11_leans_9 l6_198.toInt l7_198.toInt p0.toInt p1.toInt (aI (G_91.2.1 (F a 51)) (l7_198.toInt)) (bsI (lnK (aI (G_91.2.1 (F a 51))) (30 * p0.toInt + p1.toInt)) (l7_198.toInt + 1)) (bsI (lnK (aI (G_91.2.1 (F a 51))) (30 * p0.toInt + p1.toInt)) (l7_198.toInt)) (lnK (aI (G_91.2.1 (F a 51))) (30 * p0.toInt + p1.toInt) (l7_198.toInt)) I198_1 z205 (z205a).2 c214)) (by rw [(e233 : Int32.toInt x233 = (l6_198.toInt + (0 : Int))), (e236 : Int32.toInt x236 = (l7_198.toInt + 1))] <;> exact (z_X11_leans_10 l6_198.toInt l7_198.toInt I198_2)) (by rw [(e236 : Int32.toInt x236 = (l7_198.toInt + 1))] <;> exact (z_X11_leans_11 l7_198.toInt N198 hm198)) hT hS (lv_sub hl [2, 3, 4, 5, 6, 1, 0] rfl)
                        · refine lv_iload hx hb dX11_leans_217 (lv_at hl 6 rfl) ?_
                          refine lv_bipush (v := 30) hx hb dX11_leans_219 (by decide) ?_
                          refine lv_iload_n hx hb dX11_leans_221 rfl (lv_at hl 1 rfl) ?_
                          refine xi_imul hx hb ((by decide) : Int32.toInt 30 = (30 : Int)) (rfl : Int32.toInt p0 = p0.toInt) dX11_leans_222 (fun x222 t222 => ?_)
                          refine lv_iload_n hx hb dX11_leans_223 rfl (lv_at hl 2 rfl) ?_
                          refine xi_iadd hx hb (rfl : Int32.toInt x222 = x222.toInt) (rfl : Int32.toInt p1 = p1.toInt) dX11_leans_224 (fun x224 t224 => ?_)
                          refine xi_ceq (tgt := 232) hx hb (rfl : Int32.toInt l7_198 = l7_198.toInt) (rfl : Int32.toInt x224 = x224.toInt) dX11_leans_225 (by decide) (fun c225 => ?_) (fun c225 => ?_)
                          · refine lv_iconst (v := 0) hx hb dX11_leans_232 (by decide) ?_
                            refine xi_iadd hx hb (rfl : Int32.toInt l6_198 = l6_198.toInt) ((by decide) : Int32.toInt 0 = (0 : Int)) dX11_leans_233 (fun x233 t233 => ?_)
                            have e233 : x233.toInt = (l6_198.toInt + (0 : Int)) := (z_X11_leans_6 l6_198.toInt x233.toInt t233 (xr l6_198))
                            refine lv_istore (lv' := [(6, .int x233), (0, .ref a), (1, .int p0), (2, .int p1), (3, .int p2), (4, .int l4_32), (7, .int l7_198)]) hx hb dX11_leans_234 hl (by decide) rfl (fun ls hl => ?_)
                            refine xi_iinc (n := 1) (lv' := fun z9 => [(7, .int z9), (6, .int x233), (0, .ref a), (1, .int p0), (2, .int p1), (3, .int p2), (4, .int l4_32)]) (k := 6) hx hb (rfl : Int32.toInt l7_198 = l7_198.toInt) (by decide) dX11_leans_236 hl rfl (by decide) (fun _ => rfl) (fun x236 ls t236 hl => ?_)
                            have e236 : x236.toInt = (l7_198.toInt + 1) := (z_X11_leans_7 l7_198.toInt x236.toInt I198_0 t236)
                            have hl : lv_has ls 8 [(7, .int x236), (6, .int x233), (0, .ref a), (1, .int p0), (2, .int p1), (3, .int p2), (4, .int l4_32)] := hl
                            refine lv_goto (tgt := 198) hx hb dX11_leans_239 (by decide) ?_
                            exact ih198 x233 x236 _ _ _ (by rw [(e236 : Int32.toInt x236 = (l7_198.toInt + 1))] <;> exact (z_X11_leans_8 l7_198.toInt I198_0 c202)) (by rw [(e233 : Int32.toInt x233 = (l6_198.toInt + (0 : Int))), (e236 : Int32.toInt x236 = (l7_198.toInt + 1))] <;> exact (z_X11_leans_15 l6_198.toInt l7_198.toInt p0.toInt p1.toInt x222.toInt x224.toInt x8.toInt (aI (G_91.2.1 (F a 51)) (l7_198.toInt)) (bsI (lnK (aI (G_91.2.1 (F a 51))) (30 * p0.toInt + p1.toInt)) (l7_198.toInt + 1)) (bsI (lnK (aI (G_91.2.1 (F a 51))) (30 * p0.toInt + p1.toInt)) (l7_198.toInt)) (cel (mw (G.2.1 (F a 1)) 0) (p0.toInt) (p1.toInt) 0) (lnK (aI (G_91.2.1 (F a 51))) (30 * p0.toInt + p1.toInt) (l7_198.toInt)) z5 t8 c11 I198_1 z205 (z205a).2 t222 t224 c225)) (by rw [(e233 : Int32.toInt x233 = (l6_198.toInt + (0 : Int))), (e236 : Int32.toInt x236 = (l7_198.toInt + 1))] <;> exact (z_X11_leans_10 l6_198.toInt l7_198.toInt I198_2)) (by rw [(e236 : Int32.toInt x236 = (l7_198.toInt + 1))] <;> exact (z_X11_leans_11 l7_198.toInt N198 hm198)) hT hS (lv_sub hl [2, 3, 4, 5, 6, 1, 0] rfl)
                          · refine lv_iconst (v := 1) hx hb dX11_leans_228 (by decide) ?_
                            refine lv_goto (tgt := 233) hx hb dX11_leans_229 (by decide) ?_
                            refine xi_iadd hx hb (rfl : Int32.toInt l6_198 = l6_198.toInt) ((by decide) : Int32.toInt 1 = (1 : Int)) dX11_leans_233 (fun x233 t233 => ?_)
                            have e233 : x233.toInt = (l6_198.toInt + (1 : Int)) := (z_X11_leans_18 l6_198.toInt l7_198.toInt x233.toInt I198_2 c202 t233)
                            refine lv_istore (lv' := [(6, .int x233), (0, .ref a), (1, .int p0), (2, .int p1), (3, .int p2), (4, .int l4_32), (7, .int l7_198)]) hx hb dX11_leans_234 hl (by decide) rfl (fun ls hl => ?_)
                            refine xi_iinc (n := 1) (lv' := fun z9 => [(7, .int z9), (6, .int x233), (0, .ref a), (1, .int p0), (2, .int p1), (3, .int p2), (4, .int l4_32)]) (k := 6) hx hb (rfl : Int32.toInt l7_198 = l7_198.toInt) (by decide) dX11_leans_236 hl rfl (by decide) (fun _ => rfl) (fun x236 ls t236 hl => ?_)
                            have e236 : x236.toInt = (l7_198.toInt + 1) := (z_X11_leans_7 l7_198.toInt x236.toInt I198_0 t236)
                            have hl : lv_has ls 8 [(7, .int x236), (6, .int x233), (0, .ref a), (1, .int p0), (2, .int p1), (3, .int p2), (4, .int l4_32)] := hl
                            refine lv_goto (tgt := 198) hx hb dX11_leans_239 (by decide) ?_
                            exact ih198 x233 x236 _ _ _ (by rw [(e236 : Int32.toInt x236 = (l7_198.toInt + 1))] <;> exact (z_X11_leans_8 l7_198.toInt I198_0 c202)) (by rw [(e233 : Int32.toInt x233 = (l6_198.toInt + (1 : Int))), (e236 : Int32.toInt x236 = (l7_198.toInt + 1))] <;> exact (z_X11_leans_21 l6_198.toInt l7_198.toInt p0.toInt p1.toInt x222.toInt x224.toInt x8.toInt (aI (G_91.2.1 (F a 51)) (l7_198.toInt)) (bsI (lnK (aI (G_91.2.1 (F a 51))) (30 * p0.toInt + p1.toInt)) (l7_198.toInt + 1)) (bsI (lnK (aI (G_91.2.1 (F a 51))) (30 * p0.toInt + p1.toInt)) (l7_198.toInt)) (cel (mw (G.2.1 (F a 1)) 0) (p0.toInt) (p1.toInt) 0) (lnK (aI (G_91.2.1 (F a 51))) (30 * p0.toInt + p1.toInt) (l7_198.toInt)) z5 t8 c11 I198_1 z205 (z205a).1 (xz01 o213 hv213) c214 t222 t224 c225)) (by rw [(e233 : Int32.toInt x233 = (l6_198.toInt + (1 : Int))), (e236 : Int32.toInt x236 = (l7_198.toInt + 1))] <;> exact (z_X11_leans_22 l6_198.toInt l7_198.toInt I198_2)) (by rw [(e236 : Int32.toInt x236 = (l7_198.toInt + 1))] <;> exact (z_X11_leans_11 l7_198.toInt N198 hm198)) hT hS (lv_sub hl [2, 3, 4, 5, 6, 1, 0] rfl)
                  exact L198 4294967297 0 0 _ _ _ (by decide) (z_X11_leans_24 (bsI (lnK (aI (G_91.2.1 (F a 51))) (30 * p0.toInt + p1.toInt)) 0) z195) (by decide) (by decide) hT hS (lv_sub hl [2, 3, 4, 5, 6, 1, 0] rfl)
                · refine lv_iconst (v := 0) hx hb dX11_leans_96 (by decide) ?_
                  refine lv_istore (lv' := [(5, .int 0), (0, .ref a), (1, .int p0), (2, .int p1), (3, .int p2), (4, .int l4_32)]) hx hb dX11_leans_97 hl (by decide) rfl (fun ls hl => ?_)
                  refine lv_iconst (v := 0) hx hb dX11_leans_99 (by decide) ?_
                  refine lv_istore (lv' := [(6, .int 0), (5, .int 0), (0, .ref a), (1, .int p0), (2, .int p1), (3, .int p2), (4, .int l4_32)]) hx hb dX11_leans_100 hl (by decide) rfl (fun ls hl => ?_)
                  have L102 : ∀ (N102 : Nat) (l5_102 : Int32) (l6_102 : Int32) (G_102 : XG) (H : Heap) (locs : List Loc) (ls : Array Slot), XFr [] [F a 51] [] G_91 G_102 → LQ (G.2.1 (F a 10)) (mw (G.2.1 (F a 1)) 0) p0.toInt p1.toInt (aI (G_102.2.1 (F a 51))) → (l5_102.toInt = 0 → LZ (G.2.1 (F a 10)) (mw (G.2.1 (F a 1)) 0) (aI (G_102.2.1 (F a 51))) l6_102.toInt 0) → 0 ≤ l6_102.toInt ∧ l6_102.toInt ≤ 90 → ((l5_102.toInt = 0 ∨ l5_102.toInt = 1) ∧ (czI (G_102.2.1 (F a 51))) ≤ (czI (G_91.2.1 (F a 51))) ∧ (l5_102.toInt = 1 → (czI (G_102.2.1 (F a 51))) + 1 ≤ (czI (G_91.2.1 (F a 51))))) → 100 - l6_102.toInt < ((N102 : Nat) : Int) → TW E K F G_102 H → va_S (xA E) s.heap H locs → lv_has ls 8 [(0, .ref a), (1, .int p0), (2, .int p1), (3, .int p2), (4, .int l4_32), (5, .int l5_102), (6, .int l6_102)] → W p l e rm_X11_leans s m args below meth c H locs 0 0 Q (F0 m 102 ls []) := by
                    intro N102
                    induction N102 with
                    | zero =>
                      intro l5_102 l6_102 G_102 H locs ls hF_102 lq lz I102_0 I102_1 hm102
                      exact absurd hm102 (z_X11_leans_25 l6_102.toInt I102_0)
                    | succ N102 ih102 =>
                      intro l5_102 l6_102 G_102 H locs ls hF_102 lq lz I102_0 I102_1 hm102 hT hS hl
                      refine lv_iload hx hb dX11_leans_102 (lv_at hl 6 rfl) ?_
                      refine lv_bipush (v := 90) hx hb dX11_leans_104 (by decide) ?_
                      refine xi_cge (tgt := 189) hx hb (rfl : Int32.toInt l6_102 = l6_102.toInt) ((by decide) : Int32.toInt 90 = (90 : Int)) dX11_leans_106 (by decide) (fun c106 => ?_) (fun c106 => ?_)
                      · have z189 : 0 ≤ (czI (G_102.2.1 (F a 51))) ∧ (czI (G_102.2.1 (F a 51))) ≤ 90 := czI_b _
                        refine lv_goto (tgt := 91) hx hb dX11_leans_189 (by decide) ?_
                        exact ih91 l5_102 G_102 _ _ _ (XFr.call (XFr.call XFr.rf hF_91 xm0 (xm1 0 rfl xm0) xm0) hF_102 xm0 (xm1 0 rfl xm0) xm0) (v_X11_leans_189_5 (F := F) a G G_102 p0 p1 lq) (v_X11_leans_189_6 (K := K) (F := F) a G G_32 G_91 G_102 l5_32 p0 p1 l5_102 l6_102 x8 x18 p2 l4_32 N32 l5_91 N91 N102 ha lq lz z5 t8 c11 t18 c21 z29 I32_0 I32_1 I32_2 hm32 c36 z88 z88a I91_0 I91_1 hm91 c93 I102_0 I102_1 hm102 c106 z189) (z_X11_leans_26 l5_102.toInt (I102_1).1) (z189) (z_X11_leans_28 l5_102.toInt l5_91.toInt N91 (czI (G_102.2.1 (F a 51))) (czI (G_91.2.1 (F a 51))) I91_0 hm91 c93 (I102_1).1 (I102_1).2.1 (I102_1).2.2) hT hS (lv_sub hl [0, 1, 2, 3, 4, 5] rfl)
                      · refine lv_iconst (v := 0) hx hb dX11_leans_109 (by decide) ?_
                        refine lv_istore (lv' := [(7, .int 0), (0, .ref a), (1, .int p0), (2, .int p1), (3, .int p2), (4, .int l4_32), (5, .int l5_102), (6, .int l6_102)]) hx hb dX11_leans_110 hl (by decide) rfl (fun ls hl => ?_)
                        have L112 : ∀ (N112 : Nat) (l5_112 : Int32) (l7_112 : Int32) (G_112 : XG) (H : Heap) (locs : List Loc) (ls : Array Slot), XFr [] [F a 51] [] G_102 G_112 → LQ (G.2.1 (F a 10)) (mw (G.2.1 (F a 1)) 0) p0.toInt p1.toInt (aI (G_112.2.1 (F a 51))) → (l5_112.toInt = 0 → LZ (G.2.1 (F a 10)) (mw (G.2.1 (F a 1)) 0) (aI (G_112.2.1 (F a 51))) l6_102.toInt l7_112.toInt) → 0 ≤ l7_112.toInt ∧ l7_112.toInt ≤ 90 → ((l5_112.toInt = 0 ∨ l5_112.toInt = 1) ∧ (czI (G_112.2.1 (F a 51))) ≤ (czI (G_91.2.1 (F a 51))) ∧ (l5_112.toInt = 1 → (czI (G_112.2.1 (F a 51))) + 1 ≤ (czI (G_91.2.1 (F a 51))))) → 100 - l7_112.toInt < ((N112 : Nat) : Int) → TW E K F G_112 H → va_S (xA E) s.heap H locs → lv_has ls 8 [(0, .ref a), (1, .int p0), (2, .int p1), (3, .int p2), (4, .int l4_32), (5, .int l5_112), (6, .int l6_102), (7, .int l7_112)] → W p l e rm_X11_leans s m args below meth c H locs 0 0 Q (F0 m 112 ls []) := by
                          intro N112
                          induction N112 with
                          | zero =>
                            intro l5_112 l7_112 G_112 H locs ls hF_112 lq lz I112_0 I112_1 hm112
                            exact absurd hm112 (z_X11_leans_25 l7_112.toInt I112_0)
                          | succ N112 ih112 =>
                            intro l5_112 l7_112 G_112 H locs ls hF_112 lq lz I112_0 I112_1 hm112 hT hS hl
                            refine lv_iload hx hb dX11_leans_112 (lv_at hl 7 rfl) ?_
                            refine lv_bipush (v := 90) hx hb dX11_leans_114 (by decide) ?_
                            refine xi_cge (tgt := 183) hx hb (rfl : Int32.toInt l7_112 = l7_112.toInt) ((by decide) : Int32.toInt 90 = (90 : Int)) dX11_leans_116 (by decide) (fun c116 => ?_) (fun c116 => ?_)
                            · refine xi_iinc (n := 1) (lv' := fun z9 => [(6, .int z9), (0, .ref a), (1, .int p0), (2, .int p1), (3, .int p2), (4, .int l4_32), (5, .int l5_112), (7, .int l7_112)]) (k := 6) hx hb (rfl : Int32.toInt l6_102 = l6_102.toInt) (by decide) dX11_leans_183 hl rfl (by decide) (fun _ => rfl) (fun x183 ls t183 hl => ?_)
                              have e183 : x183.toInt = (l6_102.toInt + 1) := (z_X11_leans_7 l6_102.toInt x183.toInt I102_0 t183)
                              have hl : lv_has ls 8 [(6, .int x183), (0, .ref a), (1, .int p0), (2, .int p1), (3, .int p2), (4, .int l4_32), (5, .int l5_112), (7, .int l7_112)] := hl
                              refine lv_goto (tgt := 102) hx hb dX11_leans_186 (by decide) ?_
                              exact ih102 l5_112 x183 G_112 _ _ _ (XFr.call (XFr.call XFr.rf hF_102 xm0 (xm1 0 rfl xm0) xm0) hF_112 xm0 (xm1 0 rfl xm0) xm0) (v_X11_leans_186_7 (F := F) a G G_112 p0 p1 lq) (by rw [(e183 : Int32.toInt x183 = (l6_102.toInt + 1))] <;> exact (v_X11_leans_186_8 (K := K) (F := F) a G G_32 G_91 G_102 G_112 l5_32 p0 p1 l5_112 l6_102 l7_112 x8 x18 p2 l4_32 N32 l5_91 N91 l5_102 N102 N112 ha lq lz z5 t8 c11 t18 c21 z29 I32_0 I32_1 I32_2 hm32 c36 z88 z88a I91_0 I91_1 hm91 c93 I102_0 I102_1 hm102 c106 I112_0 I112_1 hm112 c116)) (by rw [(e183 : Int32.toInt x183 = (l6_102.toInt + 1))] <;> exact (z_X11_leans_8 l6_102.toInt I102_0 c106)) (z_X11_leans_32 l5_112.toInt (czI (G_112.2.1 (F a 51))) (czI (G_91.2.1 (F a 51))) (I112_1).1 (I112_1).2.1 (I112_1).2.2) (by rw [(e183 : Int32.toInt x183 = (l6_102.toInt + 1))] <;> exact (z_X11_leans_33 l6_102.toInt N102 hm102)) hT hS (lv_sub hl [1, 2, 3, 4, 5, 6, 0] rfl)
                            · refine lv_aload_n hx hb dX11_leans_119 rfl (lv_at hl 0 rfl) ?_
                              refine gX11_51 S hK hT ha kf_X11_130 dX11_leans_120 (fun _ _ => ?_)
                              refine lv_iload hx hb dX11_leans_123 (lv_at hl 6 rfl) ?_
                              refine al_3 S hK hT hk9999 ar_59 (by decide) (z_X11_leans_5 l6_102.toInt I102_0 c106) dX11_leans_125 (fun x125 hv125 o125 => ?_)
                              have hv125 : x125.toInt = (aI (G_112.2.1 (F a 51)) (l6_102.toInt)) := hv125.trans (by rw [(rfl : Int32.toInt l6_102 = l6_102.toInt)])
                              refine xi_zne (tgt := 183) hx hb (hv125 : Int32.toInt x125 = (aI (G_112.2.1 (F a 51)) (l6_102.toInt))) dX11_leans_126 (by decide) (fun c126 => ?_) (fun c126 => ?_)
                              · refine xi_iinc (n := 1) (lv' := fun z9 => [(6, .int z9), (0, .ref a), (1, .int p0), (2, .int p1), (3, .int p2), (4, .int l4_32), (5, .int l5_112), (7, .int l7_112)]) (k := 6) hx hb (rfl : Int32.toInt l6_102 = l6_102.toInt) (by decide) dX11_leans_183 hl rfl (by decide) (fun _ => rfl) (fun x183 ls t183 hl => ?_)
                                have e183 : x183.toInt = (l6_102.toInt + 1) := (z_X11_leans_7 l6_102.toInt x183.toInt I102_0 t183)
                                have hl : lv_has ls 8 [(6, .int x183), (0, .ref a), (1, .int p0), (2, .int p1), (3, .int p2), (4, .int l4_32), (5, .int l5_112), (7, .int l7_112)] := hl
                                refine lv_goto (tgt := 102) hx hb dX11_leans_186 (by decide) ?_
                                exact ih102 l5_112 x183 G_112 _ _ _ (XFr.call (XFr.call XFr.rf hF_102 xm0 (xm1 0 rfl xm0) xm0) hF_112 xm0 (xm1 0 rfl xm0) xm0) (v_X11_leans_186_9 (F := F) a G G_112 p0 p1 lq) (by rw [(e183 : Int32.toInt x183 = (l6_102.toInt + 1))] <;> exact (v_X11_leans_186_10 (K := K) (F := F) a G G_32 G_91 G_102 G_112 l5_32 p0 p1 l5_112 l6_102 l7_112 x8 x18 p2 l4_32 N32 l5_91 N91 l5_102 N102 N112 ha lq lz z5 t8 c11 t18 c21 z29 I32_0 I32_1 I32_2 hm32 c36 z88 z88a I91_0 I91_1 hm91 c93 I102_0 I102_1 hm102 c106 I112_0 I112_1 hm112 c116 (xz01 o125 hv125) c126)) (by rw [(e183 : Int32.toInt x183 = (l6_102.toInt + 1))] <;> exact (z_X11_leans_8 l6_102.toInt I102_0 c106)) (z_X11_leans_32 l5_112.toInt (czI (G_112.2.1 (F a 51))) (czI (G_91.2.1 (F a 51))) (I112_1).1 (I112_1).2.1 (I112_1).2.2) (by rw [(e183 : Int32.toInt x183 = (l6_102.toInt + 1))] <;> exact (z_X11_leans_33 l6_102.toInt N102 hm102)) hT hS (lv_sub hl [1, 2, 3, 4, 5, 6, 0] rfl)
                              · refine lv_aload_n hx hb dX11_leans_129 rfl (lv_at hl 0 rfl) ?_
                                refine gX11_51 S hK hT ha kf_X11_130 dX11_leans_130 (fun _ _ => ?_)
                                refine lv_iload hx hb dX11_leans_133 (lv_at hl 7 rfl) ?_
                                refine al_3 S hK hT hk9999 ar_59 (by decide) (z_X11_leans_5 l7_112.toInt I112_0 c116) dX11_leans_135 (fun x135 hv135 o135 => ?_)
                                have hv135 : x135.toInt = (aI (G_112.2.1 (F a 51)) (l7_112.toInt)) := hv135.trans (by rw [(rfl : Int32.toInt l7_112 = l7_112.toInt)])
                                refine xi_zeq (tgt := 177) hx hb (hv135 : Int32.toInt x135 = (aI (G_112.2.1 (F a 51)) (l7_112.toInt))) dX11_leans_136 (by decide) (fun c136 => ?_) (fun c136 => ?_)
                                · refine xi_iinc (n := 1) (lv' := fun z9 => [(7, .int z9), (0, .ref a), (1, .int p0), (2, .int p1), (3, .int p2), (4, .int l4_32), (5, .int l5_112), (6, .int l6_102)]) (k := 7) hx hb (rfl : Int32.toInt l7_112 = l7_112.toInt) (by decide) dX11_leans_177 hl rfl (by decide) (fun _ => rfl) (fun x177 ls t177 hl => ?_)
                                  have e177 : x177.toInt = (l7_112.toInt + 1) := (z_X11_leans_7 l7_112.toInt x177.toInt I112_0 t177)
                                  have hl : lv_has ls 8 [(7, .int x177), (0, .ref a), (1, .int p0), (2, .int p1), (3, .int p2), (4, .int l4_32), (5, .int l5_112), (6, .int l6_102)] := hl
                                  refine lv_goto (tgt := 112) hx hb dX11_leans_180 (by decide) ?_
                                  exact ih112 l5_112 x177 G_112 _ _ _ (XFr.call XFr.rf hF_112 xm0 (xm1 0 rfl xm0) xm0) (v_X11_leans_180_11 (K := K) (F := F) a G G_32 G_91 G_102 G_112 l5_32 p0 p1 l5_112 l6_102 l7_112 x8 x18 p2 l4_32 N32 l5_91 N91 l5_102 N102 N112 ha lq lz z5 t8 c11 t18 c21 z29 I32_0 I32_1 I32_2 hm32 c36 z88 z88a I91_0 I91_1 hm91 c93 I102_0 I102_1 hm102 c106 I112_0 I112_1 hm112 c116 (xz01 o125 hv125) c126 (xz01 o135 hv135) c136) (by rw [(e177 : Int32.toInt x177 = (l7_112.toInt + 1))] <;> exact (v_X11_leans_180_12 (K := K) (F := F) a G G_32 G_91 G_102 G_112 l5_32 p0 p1 l5_112 l6_102 l7_112 x8 x18 p2 l4_32 N32 l5_91 N91 l5_102 N102 N112 ha lq lz z5 t8 c11 t18 c21 z29 I32_0 I32_1 I32_2 hm32 c36 z88 z88a I91_0 I91_1 hm91 c93 I102_0 I102_1 hm102 c106 I112_0 I112_1 hm112 c116 (xz01 o125 hv125) c126 (xz01 o135 hv135) c136)) (by rw [(e177 : Int32.toInt x177 = (l7_112.toInt + 1))] <;> exact (z_X11_leans_8 l7_112.toInt I112_0 c116)) (z_X11_leans_32 l5_112.toInt (czI (G_112.2.1 (F a 51))) (czI (G_91.2.1 (F a 51))) (I112_1).1 (I112_1).2.1 (I112_1).2.2) (by rw [(e177 : Int32.toInt x177 = (l7_112.toInt + 1))] <;> exact (z_X11_leans_33 l7_112.toInt N112 hm112)) hT hS (lv_sub hl [1, 2, 3, 4, 5, 6, 7, 0] rfl)
                                · refine lv_aload_n hx hb dX11_leans_139 rfl (lv_at hl 0 rfl) ?_
                                  refine lv_iload hx hb dX11_leans_140 (lv_at hl 6 rfl) ?_
                                  refine lv_bipush (v := 30) hx hb dX11_leans_142 (by decide) ?_
                                  refine xi_idiv hx hb (rfl : Int32.toInt l6_102 = l6_102.toInt) ((by decide) : Int32.toInt 30 = (30 : Int)) (by decide) dX11_leans_144 (fun x144 t144 => ?_)
                                  refine lv_iload hx hb dX11_leans_145 (lv_at hl 6 rfl) ?_
                                  refine lv_bipush (v := 30) hx hb dX11_leans_147 (by decide) ?_
                                  refine xi_irem hx hb (rfl : Int32.toInt l6_102 = l6_102.toInt) ((by decide) : Int32.toInt 30 = (30 : Int)) (by decide) dX11_leans_149 (fun x149 t149 => ?_)
                                  refine lv_iload hx hb dX11_leans_150 (lv_at hl 7 rfl) ?_
                                  refine lv_bipush (v := 30) hx hb dX11_leans_152 (by decide) ?_
                                  refine xi_idiv hx hb (rfl : Int32.toInt l7_112 = l7_112.toInt) ((by decide) : Int32.toInt 30 = (30 : Int)) (by decide) dX11_leans_154 (fun x154 t154 => ?_)
                                  refine lv_iload hx hb dX11_leans_155 (lv_at hl 7 rfl) ?_
                                  refine lv_bipush (v := 30) hx hb dX11_leans_157 (by decide) ?_
                                  refine xi_irem hx hb (rfl : Int32.toInt l7_112 = l7_112.toInt) ((by decide) : Int32.toInt 30 = (30 : Int)) (by decide) dX11_leans_159 (fun x159 t159 => ?_)
                                  refine x_clp (x_runV (b := a) (As := [.int x144, .int x149, .int x154, .int x159]) (rest := []) S (c_X11_leansOn l E K F G_112 H a x144 x149 x154 x159 ha (z_X11_leans_44 l6_102.toInt x144.toInt x149.toInt I102_0 c106 t144 t149) (z_X11_leans_45 l7_112.toInt x159.toInt I112_0 t159) (v_X11_leans_160_13 (F := F) a G G_112 hR ((hF_112.2.1 _ (xn1 (xne_k hk9999a hk9999 (by decide)) xn0)).trans ((hF_102.2.1 _ (xn1 (xne_k hk9999a hk9999 (by decide)) xn0)).trans ((hF_91.2.1 _ (xn1 (xne_k hk9999a hk9999 (by decide)) xn0)).trans ((hF_32.2.1 _ (xn1 (xne_k hk9999a hk9999 (by decide)) xn0)).trans (ld_c hG2)))))) (v_X11_leans_160_14 (F := F) a G G_112 hM ((hF_112.2.1 _ (xn1 (xne_k hk9999b hk9999 (by decide)) xn0)).trans ((hF_102.2.1 _ (xn1 (xne_k hk9999b hk9999 (by decide)) xn0)).trans ((hF_91.2.1 _ (xn1 (xne_k hk9999b hk9999 (by decide)) xn0)).trans ((hF_32.2.1 _ (xn1 (xne_k hk9999b hk9999 (by decide)) xn0)).trans (ld_c hG2))))))) mv_X11_leansOn km_X11_392 rfl rfl ⟨Nat.le_of_ble_eq_true rfl, Nat.le_of_ble_eq_true rfl⟩ (rc_13 hK hT ha) hK (fun _ => XPh.blind) (fun U hU hW => XPh.at hK hz hS hT hU hW) rfl hl.1 (Nat.le_of_ble_eq_true rfl) dX11_leans_160 ⟨Nat.le_of_ble_eq_true rfl, Nat.le_of_ble_eq_true rfl⟩) hS ?_
                                  rintro _ _ locs ⟨x160, rfl, b160, oq160⟩ hS
                                  have oq160 : (x160.toInt = 1 ∧ lnM (G.2.1 (F a 10)) (mw (G.2.1 (F a 1)) 0) 12 x144.toInt x149.toInt x154.toInt x159.toInt) ∨ (x160.toInt = 0 ∧ ¬ lnM (G.2.1 (F a 10)) (mw (G.2.1 (F a 1)) 0) 12 x144.toInt x149.toInt x154.toInt x159.toInt) := by simp only [(show G_112.2.1 (F a 10) = G.2.1 (F a 10) from ((hF_112.2.1 _ (xn1 (xne_k hk9999a hk9999 (by decide)) xn0)).trans ((hF_102.2.1 _ (xn1 (xne_k hk9999a hk9999 (by decide)) xn0)).trans ((hF_91.2.1 _ (xn1 (xne_k hk9999a hk9999 (by decide)) xn0)).trans ((hF_32.2.1 _ (xn1 (xne_k hk9999a hk9999 (by decide)) xn0)).trans (ld_c hG2)))))), (show G_112.2.1 (F a 1) = G.2.1 (F a 1) from ((hF_112.2.1 _ (xn1 (xne_k hk9999b hk9999 (by decide)) xn0)).trans ((hF_102.2.1 _ (xn1 (xne_k hk9999b hk9999 (by decide)) xn0)).trans ((hF_91.2.1 _ (xn1 (xne_k hk9999b hk9999 (by decide)) xn0)).trans ((hF_32.2.1 _ (xn1 (xne_k hk9999b hk9999 (by decide)) xn0)).trans (ld_c hG2))))))] at oq160; exact oq160
                                  refine xi_zeq (tgt := 177) hx hb (rfl : Int32.toInt x160 = x160.toInt) dX11_leans_163 (by decide) (fun c163 => ?_) (fun c163 => ?_)
                                  · refine xi_iinc (n := 1) (lv' := fun z9 => [(7, .int z9), (0, .ref a), (1, .int p0), (2, .int p1), (3, .int p2), (4, .int l4_32), (5, .int l5_112), (6, .int l6_102)]) (k := 7) hx hb (rfl : Int32.toInt l7_112 = l7_112.toInt) (by decide) dX11_leans_177 hl rfl (by decide) (fun _ => rfl) (fun x177 ls t177 hl => ?_)
                                    have e177 : x177.toInt = (l7_112.toInt + 1) := (z_X11_leans_7 l7_112.toInt x177.toInt I112_0 t177)
                                    have hl : lv_has ls 8 [(7, .int x177), (0, .ref a), (1, .int p0), (2, .int p1), (3, .int p2), (4, .int l4_32), (5, .int l5_112), (6, .int l6_102)] := hl
                                    refine lv_goto (tgt := 112) hx hb dX11_leans_180 (by decide) ?_
                                    exact ih112 l5_112 x177 G_112 _ _ _ (XFr.call XFr.rf hF_112 xm0 (xm1 0 rfl xm0) xm0) (v_X11_leans_180_15 (K := K) (F := F) a G G_32 G_91 G_102 G_112 l5_32 p0 p1 l5_112 l6_102 l7_112 x160 x144 x149 x154 x159 x8 x18 p2 l4_32 N32 l5_91 N91 l5_102 N102 N112 ha lq lz oq160 z5 t8 c11 t18 c21 z29 I32_0 I32_1 I32_2 hm32 c36 z88 z88a I91_0 I91_1 hm91 c93 I102_0 I102_1 hm102 c106 I112_0 I112_1 hm112 c116 (xz01 o125 hv125) c126 (xz01 o135 hv135) c136 t144 t149 t154 t159 c163) (by rw [(e177 : Int32.toInt x177 = (l7_112.toInt + 1))] <;> exact (v_X11_leans_180_16 (K := K) (F := F) a G G_32 G_91 G_102 G_112 l5_32 p0 p1 l5_112 l6_102 l7_112 x160 x144 x149 x154 x159 x8 x18 p2 l4_32 N32 l5_91 N91 l5_102 N102 N112 ha lq lz oq160 z5 t8 c11 t18 c21 z29 I32_0 I32_1 I32_2 hm32 c36 z88 z88a I91_0 I91_1 hm91 c93 I102_0 I102_1 hm102 c106 I112_0 I112_1 hm112 c116 (xz01 o125 hv125) c126 (xz01 o135 hv135) c136 t144 t149 t154 t159 c163)) (by rw [(e177 : Int32.toInt x177 = (l7_112.toInt + 1))] <;> exact (z_X11_leans_8 l7_112.toInt I112_0 c116)) (z_X11_leans_32 l5_112.toInt (czI (G_112.2.1 (F a 51))) (czI (G_91.2.1 (F a 51))) (I112_1).1 (I112_1).2.1 (I112_1).2.2) (by rw [(e177 : Int32.toInt x177 = (l7_112.toInt + 1))] <;> exact (z_X11_leans_33 l7_112.toInt N112 hm112)) hT hS (lv_sub hl [1, 2, 3, 4, 5, 6, 7, 0] rfl)
                                  · refine lv_aload_n hx hb dX11_leans_166 rfl (lv_at hl 0 rfl) ?_
                                    refine gX11_51 S hK hT ha kf_X11_130 dX11_leans_167 (fun _ _ => ?_)
                                    refine lv_iload hx hb dX11_leans_170 (lv_at hl 6 rfl) ?_
                                    refine lv_iconst (v := 1) hx hb dX11_leans_172 (by decide) ?_
                                    refine as_3 (x := 1) S hK hT hS hk9999 ar_59 aw_59 (by decide) (z_X11_leans_5 l6_102.toInt I102_0 c106) dX11_leans_173 (fun H locs hT hS => ?_)
                                    rw [(xnar3 (Or.inr rfl))] at hT
                                    obtain ⟨G173, hG173⟩ : ∃ GG : XG, GG = cput G_112 (F a 51) l6_102.toNatClampNeg 1 := ⟨_, rfl⟩
                                    rw [← hG173] at hT
                                    have cz173 : (czI (G173.2.1 (F a 51))) + 1 = (czI (G_112.2.1 (F a 51))) := (v_X11_leans_174_17 (F := F) G173 G_112 a l6_102 hG173 I102_0 c106 c126)
                                    refine lv_iconst (v := 1) hx hb dX11_leans_174 (by decide) ?_
                                    refine lv_istore (lv' := [(5, .int 1), (0, .ref a), (1, .int p0), (2, .int p1), (3, .int p2), (4, .int l4_32), (6, .int l6_102), (7, .int l7_112)]) hx hb dX11_leans_175 hl (by decide) rfl (fun ls hl => ?_)
                                    refine xi_iinc (n := 1) (lv' := fun z9 => [(7, .int z9), (5, .int 1), (0, .ref a), (1, .int p0), (2, .int p1), (3, .int p2), (4, .int l4_32), (6, .int l6_102)]) (k := 7) hx hb (rfl : Int32.toInt l7_112 = l7_112.toInt) (by decide) dX11_leans_177 hl rfl (by decide) (fun _ => rfl) (fun x177 ls t177 hl => ?_)
                                    have e177 : x177.toInt = (l7_112.toInt + 1) := (z_X11_leans_7 l7_112.toInt x177.toInt I112_0 t177)
                                    have hl : lv_has ls 8 [(7, .int x177), (5, .int 1), (0, .ref a), (1, .int p0), (2, .int p1), (3, .int p2), (4, .int l4_32), (6, .int l6_102)] := hl
                                    refine lv_goto (tgt := 112) hx hb dX11_leans_180 (by decide) ?_
                                    exact ih112 1 x177 G173 _ _ _ (by rw [hG173]; exact XFr.cput (XFr.call XFr.rf hF_112 xm0 (xm1 0 rfl xm0) xm0) (List.mem_of_getElem? (i := 0) rfl)) (v_X11_leans_180_18 (K := K) (F := F) a G G_32 G_91 G_102 G_112 G173 l6_102 l5_32 p0 p1 l5_112 l7_112 x160 x144 x149 x154 x159 x8 x18 p2 l4_32 N32 l5_91 N91 l5_102 N102 N112 ha hG173 lq lz oq160 z5 t8 c11 t18 c21 z29 I32_0 I32_1 I32_2 hm32 c36 z88 z88a I91_0 I91_1 hm91 c93 I102_0 I102_1 hm102 c106 I112_0 I112_1 hm112 c116 (xz01 o125 hv125) c126 (xz01 o135 hv135) c136 t144 t149 t154 t159 c163 cz173) (by rw [(e177 : Int32.toInt x177 = (l7_112.toInt + 1))] <;> exact (v_X11_leans_180_19 (K := K) (F := F) a G G_32 G_91 G_102 G_112 G173 l6_102 l5_32 p0 p1 l5_112 l7_112 x160 x144 x149 x154 x159 x8 x18 p2 l4_32 N32 l5_91 N91 l5_102 N102 N112 ha lq lz oq160 z5 t8 c11 t18 c21 z29 I32_0 I32_1 I32_2 hm32 c36 z88 z88a I91_0 I91_1 hm91 c93 I102_0 I102_1 hm102 c106 I112_0 I112_1 hm112 c116 (xz01 o125 hv125) c126 (xz01 o135 hv135) c136 t144 t149 t154 t159 c163 cz173)) (by rw [(e177 : Int32.toInt x177 = (l7_112.toInt + 1))] <;> exact (z_X11_leans_8 l7_112.toInt I112_0 c116)) (z_X11_leans_53 (czI (G173.2.1 (F a 51))) (czI (G_112.2.1 (F a 51))) (czI (G_91.2.1 (F a 51))) (I112_1).2.1 cz173) (by rw [(e177 : Int32.toInt x177 = (l7_112.toInt + 1))] <;> exact (z_X11_leans_33 l7_112.toInt N112 hm112)) hT hS (lv_sub hl [2, 3, 4, 5, 6, 1, 7, 0] rfl)
                        exact L112 4294967297 l5_102 0 G_102 _ _ _ XFr.rf (v_X11_leans_110_20 (F := F) a G G_102 p0 p1 lq) (v_X11_leans_110_21 (K := K) (F := F) a G G_32 G_91 G_102 l5_32 p0 p1 l5_102 l6_102 x8 x18 p2 l4_32 N32 l5_91 N91 N102 ha lq lz z5 t8 c11 t18 c21 z29 I32_0 I32_1 I32_2 hm32 c36 z88 z88a I91_0 I91_1 hm91 c93 I102_0 I102_1 hm102 c106) (by decide) (z_X11_leans_32 l5_102.toInt (czI (G_102.2.1 (F a 51))) (czI (G_91.2.1 (F a 51))) (I102_1).1 (I102_1).2.1 (I102_1).2.2) (by decide) hT hS (lv_sub hl [1, 2, 3, 4, 5, 6, 7, 0] rfl)
                  exact L102 4294967297 0 0 G_91 _ _ _ XFr.rf (v_X11_leans_100_22 (F := F) a G G_91 p0 p1 lq) (v_X11_leans_100_23 (F := F) a G G_91) (by decide) (z_X11_leans_56 (czI (G_91.2.1 (F a 51)))) (by decide) hT hS (lv_sub hl [2, 3, 4, 5, 6, 1, 0] rfl)
            exact L91 4294967297 1 G_32 _ _ _ XFr.rf (v_X11_leans_89_24 (K := K) (F := F) a G G_32 l5_32 p0 p1 x8 x18 p2 l4_32 N32 ha ps z5 t8 c11 t18 c21 z29 I32_0 I32_1 I32_2 hm32 c36 z88 z88a) (v_X11_leans_89_25 (F := F) a G G_32) (by decide) (z88) (z_X11_leans_58 (czI (G_32.2.1 (F a 51))) z88) hT hS (lv_sub hl [1, 2, 3, 4, 5, 0] rfl)
          · refine lv_aload_n hx hb dX11_leans_39 rfl (lv_at hl 0 rfl) ?_
            refine gX11_51 S hK hT ha kf_X11_130 dX11_leans_40 (fun _ _ => ?_)
            refine lv_iload hx hb dX11_leans_43 (lv_at hl 5 rfl) ?_
            refine lv_aload_n hx hb dX11_leans_45 rfl (lv_at hl 0 rfl) ?_
            refine lv_iload hx hb dX11_leans_46 (lv_at hl 5 rfl) ?_
            refine lv_bipush (v := 30) hx hb dX11_leans_48 (by decide) ?_
            refine xi_idiv hx hb (rfl : Int32.toInt l5_32 = l5_32.toInt) ((by decide) : Int32.toInt 30 = (30 : Int)) (by decide) dX11_leans_50 (fun x50 t50 => ?_)
            refine lv_iload hx hb dX11_leans_51 (lv_at hl 5 rfl) ?_
            refine lv_bipush (v := 30) hx hb dX11_leans_53 (by decide) ?_
            refine xi_irem hx hb (rfl : Int32.toInt l5_32 = l5_32.toInt) ((by decide) : Int32.toInt 30 = (30 : Int)) (by decide) dX11_leans_55 (fun x55 t55 => ?_)
            refine lv_iload_n hx hb dX11_leans_56 rfl (lv_at hl 1 rfl) ?_
            refine lv_iload_n hx hb dX11_leans_57 rfl (lv_at hl 2 rfl) ?_
            refine x_clp (x_runV (b := a) (As := [.int x50, .int x55, .int p0, .int p1]) (rest := [.int l5_32, .ref (F a 51)]) S (c_X11_leansOn l E K F G_32 H a x50 x55 p0 p1 ha (z_X11_leans_59 l4_32.toInt l5_32.toInt x50.toInt x55.toInt I32_2 c36 t50 t55) (z_X11_leans_60 p0.toInt p1.toInt x8.toInt (cel (mw (G.2.1 (F a 1)) 0) (p0.toInt) (p1.toInt) 0) z5 t8 c11) (v_X11_leans_58_26 (F := F) a G G_32 hR ((hF_32.2.1 _ (xn1 (xne_k hk9999a hk9999 (by decide)) xn0)).trans (ld_c hG2))) (v_X11_leans_58_27 (F := F) a G G_32 hM ((hF_32.2.1 _ (xn1 (xne_k hk9999b hk9999 (by decide)) xn0)).trans (ld_c hG2)))) mv_X11_leansOn km_X11_392 rfl rfl ⟨Nat.le_of_ble_eq_true rfl, Nat.le_of_ble_eq_true rfl⟩ (rc_13 hK hT ha) hK (fun _ => XPh.blind) (fun U hU hW => XPh.at hK hz hS hT hU hW) rfl hl.1 (Nat.le_of_ble_eq_true rfl) dX11_leans_58 ⟨Nat.le_of_ble_eq_true rfl, Nat.le_of_ble_eq_true rfl⟩) hS ?_
            rintro _ _ locs ⟨x58, rfl, b58, oq58⟩ hS
            have oq58 : (x58.toInt = 1 ∧ lnM (G.2.1 (F a 10)) (mw (G.2.1 (F a 1)) 0) 12 x50.toInt x55.toInt p0.toInt p1.toInt) ∨ (x58.toInt = 0 ∧ ¬ lnM (G.2.1 (F a 10)) (mw (G.2.1 (F a 1)) 0) 12 x50.toInt x55.toInt p0.toInt p1.toInt) := by simp only [(show G_32.2.1 (F a 10) = G.2.1 (F a 10) from ((hF_32.2.1 _ (xn1 (xne_k hk9999a hk9999 (by decide)) xn0)).trans (ld_c hG2))), (show G_32.2.1 (F a 1) = G.2.1 (F a 1) from ((hF_32.2.1 _ (xn1 (xne_k hk9999b hk9999 (by decide)) xn0)).trans (ld_c hG2)))] at oq58; exact oq58
            refine as_3 (x := x58) S hK hT hS hk9999 ar_59 aw_59 (by decide) (z_X11_leans_5 l5_32.toInt I32_0 c36) dX11_leans_61 (fun H locs hT hS => ?_)
            rw [(xnar3 b58)] at hT
            obtain ⟨G61, hG61⟩ : ∃ GG : XG, GG = cput G_32 (F a 51) l5_32.toNatClampNeg x58 := ⟨_, rfl⟩
            rw [← hG61] at hT
            have lni62 : (x58.toInt = 1 → (lnI (G.2.1 (F a 10)) (mw (G.2.1 (F a 1)) 0) p0.toInt p1.toInt (l5_32.toInt)) = 1) ∧ (x58.toInt = 0 → (lnI (G.2.1 (F a 10)) (mw (G.2.1 (F a 1)) 0) p0.toInt p1.toInt (l5_32.toInt)) = 0) := (v_X11_leans_62_28 (K := K) (F := F) a G l5_32 x58 p0 p1 x50 x55 x8 x18 p2 l4_32 N32 ha oq58 z5 t8 c11 t18 c21 z29 I32_0 I32_1 I32_2 hm32 c36 t50 t55)
            have z62 : (bsI (lnI (G.2.1 (F a 10)) (mw (G.2.1 (F a 1)) 0) p0.toInt p1.toInt) (l5_32.toInt + 1)) = (bsI (lnI (G.2.1 (F a 10)) (mw (G.2.1 (F a 1)) 0) p0.toInt p1.toInt) (l5_32.toInt)) + (lnI (G.2.1 (F a 10)) (mw (G.2.1 (F a 1)) 0) p0.toInt p1.toInt (l5_32.toInt)) := bsI_s _ (z_X11_leans_4 l5_32.toInt I32_0)
            refine lv_iload hx hb dX11_leans_62 (lv_at hl 4 rfl) ?_
            refine lv_aload_n hx hb dX11_leans_64 rfl (lv_at hl 0 rfl) ?_
            refine gX11_51 S hK hT ha kf_X11_130 dX11_leans_65 (fun _ _ => ?_)
            refine lv_iload hx hb dX11_leans_68 (lv_at hl 5 rfl) ?_
            refine al_3 S hK hT hk9999 ar_59 (by decide) (z_X11_leans_5 l5_32.toInt I32_0 c36) dX11_leans_70 (fun x70 hv70 o70 => ?_)
            have hv70 : x70.toInt = (aI (G61.2.1 (F a 51)) (l5_32.toInt)) := hv70.trans (by rw [(rfl : Int32.toInt l5_32 = l5_32.toInt)])
            have hc70 : (l5_32.toInt = l5_32.toInt → (aI (G61.2.1 (F a 51)) (l5_32.toInt)) = x58.toInt) ∧ (l5_32.toInt ≠ l5_32.toInt → (aI (G61.2.1 (F a 51)) (l5_32.toInt)) = (aI (G_32.2.1 (F a 51)) (l5_32.toInt))) := xlk hG61 rfl (rfl : Int32.toInt l5_32 = l5_32.toInt) (rfl : Int32.toInt x58 = x58.toInt) (z_X11_leans_4 l5_32.toInt I32_0) (z_X11_leans_4 l5_32.toInt I32_0)
            refine xi_zeq (tgt := 78) hx hb (hv70 : Int32.toInt x70 = (aI (G61.2.1 (F a 51)) (l5_32.toInt))) dX11_leans_71 (by decide) (fun c71 => ?_) (fun c71 => ?_)
            · refine lv_iconst (v := 0) hx hb dX11_leans_78 (by decide) ?_
              refine xi_iadd hx hb (rfl : Int32.toInt l4_32 = l4_32.toInt) ((by decide) : Int32.toInt 0 = (0 : Int)) dX11_leans_79 (fun x79 t79 => ?_)
              have e79 : x79.toInt = (l4_32.toInt + (0 : Int)) := (z_X11_leans_6 l4_32.toInt x79.toInt t79 (xr l4_32))
              refine lv_istore (lv' := [(4, .int x79), (0, .ref a), (1, .int p0), (2, .int p1), (3, .int p2), (5, .int l5_32)]) hx hb dX11_leans_80 hl (by decide) rfl (fun ls hl => ?_)
              refine xi_iinc (n := 1) (lv' := fun z9 => [(5, .int z9), (4, .int x79), (0, .ref a), (1, .int p0), (2, .int p1), (3, .int p2)]) (k := 5) hx hb (rfl : Int32.toInt l5_32 = l5_32.toInt) (by decide) dX11_leans_82 hl rfl (by decide) (fun _ => rfl) (fun x82 ls t82 hl => ?_)
              have e82 : x82.toInt = (l5_32.toInt + 1) := (z_X11_leans_7 l5_32.toInt x82.toInt I32_0 t82)
              have hl : lv_has ls 8 [(5, .int x82), (4, .int x79), (0, .ref a), (1, .int p0), (2, .int p1), (3, .int p2)] := hl
              refine lv_goto (tgt := 32) hx hb dX11_leans_85 (by decide) ?_
              exact ih32 x79 x82 G61 _ _ _ (by rw [hG61]; exact XFr.cput (XFr.call XFr.rf hF_32 xm0 (xm1 0 rfl xm0) xm0) (List.mem_of_getElem? (i := 0) rfl)) (by rw [(e82 : Int32.toInt x82 = (l5_32.toInt + 1))] <;> exact (v_X11_leans_85_29 (K := K) (F := F) a G G_32 G61 l5_32 x58 p0 p1 x50 x55 l4_32 x8 x18 p2 N32 ha hG61 ps oq58 z5 t8 c11 t18 c21 z29 I32_0 I32_1 I32_2 hm32 c36 t50 t55 lni62 z62 hc70 (xz01 o70 hv70) c71)) (by rw [(e82 : Int32.toInt x82 = (l5_32.toInt + 1))] <;> exact (z_X11_leans_8 l5_32.toInt I32_0 c36)) (by rw [(e79 : Int32.toInt x79 = (l4_32.toInt + (0 : Int))), (e82 : Int32.toInt x82 = (l5_32.toInt + 1))] <;> exact (z_X11_leans_69 l4_32.toInt l5_32.toInt x58.toInt (aI (G61.2.1 (F a 51)) (l5_32.toInt)) (bsI (lnI (G.2.1 (F a 10)) (mw (G.2.1 (F a 1)) 0) p0.toInt p1.toInt) (l5_32.toInt + 1)) (bsI (lnI (G.2.1 (F a 10)) (mw (G.2.1 (F a 1)) 0) p0.toInt p1.toInt) (l5_32.toInt)) (lnI (G.2.1 (F a 10)) (mw (G.2.1 (F a 1)) 0) p0.toInt p1.toInt (l5_32.toInt)) I32_1 (lni62).2 z62 (hc70).1 c71)) (by rw [(e79 : Int32.toInt x79 = (l4_32.toInt + (0 : Int))), (e82 : Int32.toInt x82 = (l5_32.toInt + 1))] <;> exact (z_X11_leans_10 l4_32.toInt l5_32.toInt I32_2)) (by rw [(e82 : Int32.toInt x82 = (l5_32.toInt + 1))] <;> exact (z_X11_leans_11 l5_32.toInt N32 hm32)) hT hS (lv_sub hl [2, 3, 4, 5, 1, 0] rfl)
            · refine lv_iconst (v := 1) hx hb dX11_leans_74 (by decide) ?_
              refine lv_goto (tgt := 79) hx hb dX11_leans_75 (by decide) ?_
              refine xi_iadd hx hb (rfl : Int32.toInt l4_32 = l4_32.toInt) ((by decide) : Int32.toInt 1 = (1 : Int)) dX11_leans_79 (fun x79 t79 => ?_)
              have e79 : x79.toInt = (l4_32.toInt + (1 : Int)) := (z_X11_leans_18 l4_32.toInt l5_32.toInt x79.toInt I32_2 c36 t79)
              refine lv_istore (lv' := [(4, .int x79), (0, .ref a), (1, .int p0), (2, .int p1), (3, .int p2), (5, .int l5_32)]) hx hb dX11_leans_80 hl (by decide) rfl (fun ls hl => ?_)
              refine xi_iinc (n := 1) (lv' := fun z9 => [(5, .int z9), (4, .int x79), (0, .ref a), (1, .int p0), (2, .int p1), (3, .int p2)]) (k := 5) hx hb (rfl : Int32.toInt l5_32 = l5_32.toInt) (by decide) dX11_leans_82 hl rfl (by decide) (fun _ => rfl) (fun x82 ls t82 hl => ?_)
              have e82 : x82.toInt = (l5_32.toInt + 1) := (z_X11_leans_7 l5_32.toInt x82.toInt I32_0 t82)
              have hl : lv_has ls 8 [(5, .int x82), (4, .int x79), (0, .ref a), (1, .int p0), (2, .int p1), (3, .int p2)] := hl
              refine lv_goto (tgt := 32) hx hb dX11_leans_85 (by decide) ?_
              exact ih32 x79 x82 G61 _ _ _ (by rw [hG61]; exact XFr.cput (XFr.call XFr.rf hF_32 xm0 (xm1 0 rfl xm0) xm0) (List.mem_of_getElem? (i := 0) rfl)) (by rw [(e82 : Int32.toInt x82 = (l5_32.toInt + 1))] <;> exact (v_X11_leans_85_30 (K := K) (F := F) a G G_32 G61 l5_32 x58 p0 p1 x50 x55 l4_32 x8 x18 p2 N32 ha hG61 ps oq58 z5 t8 c11 t18 c21 z29 I32_0 I32_1 I32_2 hm32 c36 t50 t55 lni62 z62 hc70 (xz01 o70 hv70) c71)) (by rw [(e82 : Int32.toInt x82 = (l5_32.toInt + 1))] <;> exact (z_X11_leans_8 l5_32.toInt I32_0 c36)) (by rw [(e79 : Int32.toInt x79 = (l4_32.toInt + (1 : Int))), (e82 : Int32.toInt x82 = (l5_32.toInt + 1))] <;> exact (z_X11_leans_75 l4_32.toInt l5_32.toInt x58.toInt (aI (G61.2.1 (F a 51)) (l5_32.toInt)) (bsI (lnI (G.2.1 (F a 10)) (mw (G.2.1 (F a 1)) 0) p0.toInt p1.toInt) (l5_32.toInt + 1)) (bsI (lnI (G.2.1 (F a 10)) (mw (G.2.1 (F a 1)) 0) p0.toInt p1.toInt) (l5_32.toInt)) (lnI (G.2.1 (F a 10)) (mw (G.2.1 (F a 1)) 0) p0.toInt p1.toInt (l5_32.toInt)) I32_1 (lni62).1 z62 (hc70).1 (xz01 o70 hv70) c71)) (by rw [(e79 : Int32.toInt x79 = (l4_32.toInt + (1 : Int))), (e82 : Int32.toInt x82 = (l5_32.toInt + 1))] <;> exact (z_X11_leans_22 l4_32.toInt l5_32.toInt I32_2)) (by rw [(e82 : Int32.toInt x82 = (l5_32.toInt + 1))] <;> exact (z_X11_leans_11 l5_32.toInt N32 hm32)) hT hS (lv_sub hl [2, 3, 4, 5, 1, 0] rfl)
      exact L32 4294967297 0 0 G2 _ _ _ XFr.rf (by rw [(show G2.2.1 (F a 51) = G.2.1 (F a 51) from (ld_c hG2))] <;> exact (v_X11_leans_30_31 (K := K) (F := F) a G p0 p1 x8 x18 p2 ha z5 t8 c11 t18 c21 z29)) (by decide) (z_X11_leans_24 (bsI (lnI (G.2.1 (F a 10)) (mw (G.2.1 (F a 1)) 0) p0.toInt p1.toInt) 0) z29) (by decide) (by decide) hT hS (lv_sub hl [2, 3, 4, 5, 1, 0] rfl)
    · refine lv_iconst (v := (-1)) hx hb dX11_leans_24 (by decide) ?_
      exact x_ri hx hb hr hlk hQ (Nat.le_of_ble_eq_true rfl) (Nat.le_of_ble_eq_true rfl) hS dX11_leans_25 G2 ⟨_, rfl, (by rw [hG2]; exact XFr.dput XFr.rf (List.mem_of_getElem? (i := 0) rfl)), (by rw [((by decide) : Int32.toInt (-1) = (-1 : Int))] <;> exact (v_X11_leans_25_32 (K := K) (F := F) a G p0 p1 x8 x18 p2 ha z5 t8 c11 t18 c21))⟩ hT

theorem z_X11_least_1 (a0 : Int) (h0 : -99 ≤ a0 ∧ a0 ≤ 100) : ¬ (200 - a0 < ((0 : Nat) : Int)) := by omega
theorem z_X11_least_2 (a0 : Int) (a1 : Int) (a2 : Int) (a3 : Int) (a4 : Int) (a5 : Int) (a6 : Int) (a7 : Int) (a8 : Int) (h0 : ¬ (0 ≤ a0 ∧ a0 < 3 ∧ 0 ≤ a1 ∧ a1 < 30) → a8 = -2000) (h1 : (a7 = 1 ∧ a8 ≠ -2000) ∨ (a7 = 0 ∧ a8 = -2000)) (h2 : ¬ (a7 = 0)) (h3 : (a3 = 1 ∧ 0 ≤ a2 ∧ a2 ≤ 2) ∨ (a3 = 0 ∧ (a2 < 0 ∨ 2 < a2))) (h4 : a3 ≠ 0) (h5 : 0 ≤ a0 ∧ a0 ≤ 2 ∧ 0 ≤ a1 ∧ a1 ≤ 29 → a4 = 4 * (30 * a0 + a1)) (h6 : a5 = a4 + (1 : Int) ∨ a4 + (1 : Int) < -2147483648 ∨ 2147483648 ≤ a4 + (1 : Int)) (h7 : a6 = a5 + a2 ∨ a5 + a2 < -2147483648 ∨ 2147483648 ≤ a5 + a2) : 0 ≤ a6 ∧ a6 < ((360 : Nat) : Int) := by omega
theorem z_X11_least_7 (a0 : Int) (a1 : Int) (h0 : -99 ≤ a0 ∧ a0 ≤ 100) (h1 : a1 = (a0 + 1) ∨ (a0 + 1) < -2147483648 ∨ 2147483648 ≤ (a0 + 1)) : a1 = (a0 + 1) := by omega
theorem z_X11_least_8 (a0 : Int) (h0 : -99 ≤ a0 ∧ a0 ≤ 100) (h1 : ¬ ((99 : Int) < a0)) : -99 ≤ (a0 + 1) ∧ (a0 + 1) ≤ 100 := by omega
theorem z_X11_least_9 (a0 : Int) (a1 : Nat) (h0 : 200 - a0 < ((a1 + 1 : Nat) : Int)) : 200 - (a0 + 1) < ((a1 : Nat) : Int) := by omega
abbrev rm_X11_least : Room := { frames := 6, cells := 0, slots := 0, locals := 146 }
set_option maxHeartbeats 4000000 in
set_option maxRecDepth 100000 in
theorem c_X11_least (l : Launch) (E : XE) (K : Nat → Nat) (F : Nat → Nat → Nat) (G : XG) (a : Nat) (p0 : Int32) (p1 : Int32) (p2 : Int32) (ha : K a = 13) (hR : RV (G.2.1 (F a 10))) (hM : RM (G.2.1 (F a 1)) (0)) : Met l yX11_least (xw yX11_least cX11_least 7 (some .int)) rm_X11_least (va_Pc [.ref a, .int p0, .int p1, .int p2] (XP E K F G)) (XQ E (fun v (u : XG) => ∃ r : Int32, v = .int r ∧ XFr [(a, 0), (a, 16), (a, 19)] [F a 15, F a 17, F a 18, F a 11, F a 1, F a 4, F a 12] [] G u ∧ (mw (u.2.1 (F a 1)) 0 = mw (G.2.1 (F a 1)) 0) ∧ (RM (u.2.1 (F a 1)) 0) ∧ ((¬ (cel (mw (G.2.1 (F a 1)) 0) p0.toInt p1.toInt 0 ≠ -2000 ∧ 0 ≤ p2.toInt ∧ p2.toInt < 3) ∧ r.toInt = -2147483648) ∨ ((cel (mw (G.2.1 (F a 1)) 0) p0.toInt p1.toInt 0 ≠ -2000 ∧ 0 ≤ p2.toInt ∧ p2.toInt < 3) ∧ LsS (fun v => ffP (G.2.1 (F a 10)) (rset (mw (G.2.1 (F a 1)) 0) (90 * p0.toInt + 30 * p2.toInt + p1.toInt) v) (fuO (G.2.1 (F a 10)) (mw (G.2.1 (F a 1)) 0) (rset (mw (G.2.1 (F a 1)) 0) (90 * p0.toInt + 30 * p2.toInt + p1.toInt) v) 2) = -1) (cel (mw (G.2.1 (F a 1)) 0) p0.toInt p1.toInt p2.toInt) r.toInt))) (fun u H => TW E K F u H)) 0 0 (xA E) := by
  refine x_enter (by decide) (Nat.le_of_ble_eq_true rfl) ?_
  intro p e s m args below meth c Q S hr hlk hnm hQ hP ls hl
  obtain ⟨hz, hK, hT⟩ := hP
  obtain ⟨hx, hb, -, -, -⟩ := id S
  obtain ⟨H, hT, hS, hgo⟩ : ∃ H : Heap, TW E K F G H ∧ va_S (xA E) s.heap H [] ∧ H = s.heap := ⟨_, hT, va_S.rf, rfl⟩
  rw [← hgo]
  have hl : lv_has ls 7 [(0, .ref a), (1, .int p0), (2, .int p1), (3, .int p2)] := hl
  obtain ⟨hk9999, hj9999⟩ := fkX11_15 hT ha
  obtain ⟨hk9999a, hj9999a⟩ := fkX11_17 hT ha
  obtain ⟨hk9999b, hj9999b⟩ := fkX11_18 hT ha
  obtain ⟨hk9999c, hj9999c⟩ := fkX11_11 hT ha
  obtain ⟨hk9999d, hj9999d⟩ := fkX11_1 hT ha
  obtain ⟨hk9999e, hj9999e⟩ := fkX11_4 hT ha
  obtain ⟨hk9999f, hj9999f⟩ := fkX11_12 hT ha
  obtain ⟨hk9999g, hj9999g⟩ := fkX11_10 hT ha
  refine lv_aload_n hx hb dX11_least_0 rfl (lv_at hl 0 rfl) ?_
  refine lv_iconst (v := 0) hx hb dX11_least_1 (by decide) ?_
  refine pX11_0 (v := 0) S hK hT hS ha kf_X11_134 dX11_least_2 (fun H locs hT hS => ?_)
  obtain ⟨G2, hG2⟩ : ∃ GG : XG, GG = dput G a 0 0 := ⟨_, rfl⟩
  rw [← hG2] at hT
  have z5 : ¬ (0 ≤ p0.toInt ∧ p0.toInt < 3 ∧ 0 ≤ p1.toInt ∧ p1.toInt < 30) → (cel (mw (G.2.1 (F a 1)) 0) (p0.toInt) (p1.toInt) 0) = -2000 := fun h9 => cel_out (by omega)
  refine lv_aload_n hx hb dX11_least_5 rfl (lv_at hl 0 rfl) ?_
  refine lv_iload_n hx hb dX11_least_6 rfl (lv_at hl 1 rfl) ?_
  refine lv_iload_n hx hb dX11_least_7 rfl (lv_at hl 2 rfl) ?_
  refine x_clp (x_runV (b := a) (As := [.int p0, .int p1]) (rest := []) S (c_X11_isRow l E K F G2 H a p0 p1 ha (v_X11_least_8_1 (F := F) a G2 G hM (ld_c hG2))) mv_X11_isRow km_X11_346 rfl rfl ⟨Nat.le_of_ble_eq_true rfl, Nat.le_of_ble_eq_true rfl⟩ (rc_13 hK hT ha) hK (fun _ => XPh.blind) (fun U hU hW => XPh.at hK hz hS hT hU hW) rfl hl.1 (Nat.le_of_ble_eq_true rfl) dX11_least_8 ⟨Nat.le_of_ble_eq_true rfl, Nat.le_of_ble_eq_true rfl⟩) hS ?_
  rintro _ _ locs ⟨x8, rfl, b8, t8⟩ hS
  have t8 : (x8.toInt = 1 ∧ (cel (mw (G.2.1 (F a 1)) 0) (p0.toInt) (p1.toInt) 0) ≠ -2000) ∨ (x8.toInt = 0 ∧ (cel (mw (G.2.1 (F a 1)) 0) (p0.toInt) (p1.toInt) 0) = -2000) := by rw [(show G2.2.1 (F a 1) = G.2.1 (F a 1) from (ld_c hG2))] at t8; exact t8
  refine xi_zeq (tgt := 21) hx hb (rfl : Int32.toInt x8 = x8.toInt) dX11_least_11 (by decide) (fun c11 => ?_) (fun c11 => ?_)
  · refine lv_ldc (v := (-2147483648)) hx hb S.2.2.2.1 (S.2.2.2.2 _ (List.mem_cons_of_mem _ kc_X11_57)) dX11_least_21 ?_
    exact x_ri hx hb hr hlk hQ (Nat.le_of_ble_eq_true rfl) (Nat.le_of_ble_eq_true rfl) hS dX11_least_23 G2 ⟨_, rfl, (by rw [hG2]; exact XFr.dput XFr.rf (List.mem_of_getElem? (i := 0) rfl)), (v_X11_least_23_2 (F := F) G2 a G (ld_c hG2)), (v_X11_least_23_3 (F := F) G a G2 hM (ld_c hG2)), (by rw [((by decide) : Int32.toInt (-2147483648) = (-2147483648 : Int))] <;> exact (v_X11_least_23_4 (K := K) (F := F) a G p0 p1 x8 p2 ha z5 t8 c11))⟩ hT
  · refine lv_iload_n hx hb dX11_least_14 rfl (lv_at hl 3 rfl) ?_
    refine x_clp (x_runS (As := [.int p2]) (rest := []) S (c_X11_isColumn l E K F G2 H p2) ms_X11_isColumn km_X11_356 rfl rfl ⟨Nat.le_of_ble_eq_true rfl, Nat.le_of_ble_eq_true rfl⟩ hK (fun _ => XPh.blind) (fun U hU hW => XPh.at hK hz hS hT hU hW) rfl hl.1 (Nat.le_of_ble_eq_true rfl) dX11_least_15 ⟨Nat.le_of_ble_eq_true rfl, Nat.le_of_ble_eq_true rfl⟩) hS ?_
    rintro _ _ locs ⟨x15, rfl, b15, t15⟩ hS
    have t15 : (x15.toInt = 1 ∧ 0 ≤ p2.toInt ∧ p2.toInt ≤ 2) ∨ (x15.toInt = 0 ∧ (p2.toInt < 0 ∨ 2 < p2.toInt)) := t15
    refine xi_zne (tgt := 24) hx hb (rfl : Int32.toInt x15 = x15.toInt) dX11_least_18 (by decide) (fun c18 => ?_) (fun c18 => ?_)
    · refine lv_aload_n hx hb dX11_least_24 rfl (lv_at hl 0 rfl) ?_
      refine x_cv0 (x_runV (b := a) (As := []) (rest := []) S (c_X11_start l E K F G2 a ha (v_X11_least_25_5 (F := F) a G2 G hR (ld_c hG2)) (v_X11_least_25_6 (F := F) a G2 G hM (ld_c hG2))) mv_X11_start km_X11_350 rfl rfl ⟨Nat.le_of_ble_eq_true rfl, Nat.le_of_ble_eq_true rfl⟩ (rc_13 hK hT ha) hK (fun _ => XP.blind) (fun U hU hW => XP.at hK hz hS hT hU hW) rfl hl.1 (Nat.le_of_ble_eq_true rfl) dX11_least_25 ⟨Nat.le_of_ble_eq_true rfl, Nat.le_of_ble_eq_true rfl⟩) hS ?_
      rintro G25 H locs ⟨hF25, oq25, oq25a, oq25b⟩ hT hS
      have oq25 : mw (G25.2.1 (F a 4)) 0 = mw (G.2.1 (F a 1)) 0 := by simp only [(show G2.2.1 (F a 1) = G.2.1 (F a 1) from (ld_c hG2))] at oq25; exact oq25
      have oq25b : LSt (G.2.1 (F a 10)) (G25.2.1 (F a 12)) (mw (G.2.1 (F a 1)) 0) 12 := by simp only [(show G2.2.1 (F a 10) = G.2.1 (F a 10) from (ld_c hG2)), (show G2.2.1 (F a 1) = G.2.1 (F a 1) from (ld_c hG2))] at oq25b; exact oq25b
      refine lv_iload_n hx hb dX11_least_28 rfl (lv_at hl 1 rfl) ?_
      refine lv_iload_n hx hb dX11_least_29 rfl (lv_at hl 2 rfl) ?_
      refine x_clp (x_runS (As := [.int p0, .int p1]) (rest := []) S (c_X11_at l E K F G25 H p0 p1) ms_X11_at km_X11_156 rfl rfl ⟨Nat.le_of_ble_eq_true rfl, Nat.le_of_ble_eq_true rfl⟩ hK (fun _ => XPh.blind) (fun U hU hW => XPh.at hK hz hS hT hU hW) rfl hl.1 (Nat.le_of_ble_eq_true rfl) dX11_least_30 ⟨Nat.le_of_ble_eq_true rfl, Nat.le_of_ble_eq_true rfl⟩) hS ?_
      rintro _ _ locs ⟨x30, rfl, t30⟩ hS
      have t30 : 0 ≤ p0.toInt ∧ p0.toInt ≤ 2 ∧ 0 ≤ p1.toInt ∧ p1.toInt ≤ 29 → x30.toInt = 4 * (30 * p0.toInt + p1.toInt) := t30
      refine lv_iconst (v := 1) hx hb dX11_least_33 (by decide) ?_
      refine xi_iadd hx hb (rfl : Int32.toInt x30 = x30.toInt) ((by decide) : Int32.toInt 1 = (1 : Int)) dX11_least_34 (fun x34 t34 => ?_)
      refine lv_iload_n hx hb dX11_least_35 rfl (lv_at hl 3 rfl) ?_
      refine xi_iadd hx hb (rfl : Int32.toInt x34 = x34.toInt) (rfl : Int32.toInt p2 = p2.toInt) dX11_least_36 (fun x36 t36 => ?_)
      refine lv_istore (lv' := [(4, .int x36), (0, .ref a), (1, .int p0), (2, .int p1), (3, .int p2)]) hx hb dX11_least_37 hl (by decide) rfl (fun ls hl => ?_)
      refine lv_ldc (v := (-2147483648)) hx hb S.2.2.2.1 (S.2.2.2.2 _ (List.mem_cons_of_mem _ kc_X11_57)) dX11_least_39 ?_
      refine lv_istore (lv' := [(5, .int (-2147483648)), (4, .int x36), (0, .ref a), (1, .int p0), (2, .int p1), (3, .int p2)]) hx hb dX11_least_41 hl (by decide) rfl (fun ls hl => ?_)
      refine lv_bipush (v := (-99)) hx hb dX11_least_43 (by decide) ?_
      refine lv_istore (lv' := [(6, .int (-99)), (5, .int (-2147483648)), (4, .int x36), (0, .ref a), (1, .int p0), (2, .int p1), (3, .int p2)]) hx hb dX11_least_45 hl (by decide) rfl (fun ls hl => ?_)
      have L47 : ∀ (N47 : Nat) (l5_47 : Int32) (l6_47 : Int32) (G_47 : XG) (H : Heap) (locs : List Loc) (ls : Array Slot), XFr [(a, 16), (a, 19)] [F a 15, F a 17, F a 18, F a 11, F a 1] [] G25 G_47 → RM (G_47.2.1 (F a 1)) 0 → (∀ v : Int, rset (mw (G_47.2.1 (F a 1)) 0) (90 * p0.toInt + 30 * p2.toInt + p1.toInt) v = rset (mw (G.2.1 (F a 1)) 0) (90 * p0.toInt + 30 * p2.toInt + p1.toInt) v) → aI (G_47.2.1 (F a 1)) (0 + 4 * (30 * p0.toInt + p1.toInt)) = 1 → ((l5_47.toInt = -2147483648 ∧ ∀ v : Int, -99 ≤ v → v < l6_47.toInt → v ≠ (cel (mw (G.2.1 (F a 1)) 0) p0.toInt p1.toInt p2.toInt) → ffP (G.2.1 (F a 10)) (rset (mw (G.2.1 (F a 1)) 0) (90 * p0.toInt + 30 * p2.toInt + p1.toInt) v) (fuO (G.2.1 (F a 10)) (mw (G.2.1 (F a 1)) 0) (rset (mw (G.2.1 (F a 1)) 0) (90 * p0.toInt + 30 * p2.toInt + p1.toInt) v) 2) ≠ -1) ∨ (l5_47.toInt ≠ -2147483648 ∧ LsS (fun v => ffP (G.2.1 (F a 10)) (rset (mw (G.2.1 (F a 1)) 0) (90 * p0.toInt + 30 * p2.toInt + p1.toInt) v) (fuO (G.2.1 (F a 10)) (mw (G.2.1 (F a 1)) 0) (rset (mw (G.2.1 (F a 1)) 0) (90 * p0.toInt + 30 * p2.toInt + p1.toInt) v) 2) = -1) (cel (mw (G.2.1 (F a 1)) 0) p0.toInt p1.toInt p2.toInt) l5_47.toInt)) → -99 ≤ l6_47.toInt ∧ l6_47.toInt ≤ 100 → 200 - l6_47.toInt < ((N47 : Nat) : Int) → TW E K F G_47 H → va_S (xA E) s.heap H locs → lv_has ls 7 [(0, .ref a), (4, .int x36), (5, .int l5_47), (6, .int l6_47)] → W p l e rm_X11_least s m args below meth c H locs 0 0 Q (F0 m 47 ls []) := by
        intro N47
        induction N47 with
        | zero =>
          intro l5_47 l6_47 G_47 H locs ls hF_47 rm pm fl lp I47_0 hm47
          exact absurd hm47 (z_X11_least_1 l6_47.toInt I47_0)
        | succ N47 ih47 =>
          intro l5_47 l6_47 G_47 H locs ls hF_47 rm pm fl lp I47_0 hm47 hT hS hl
          refine lv_iload hx hb dX11_least_47 (lv_at hl 3 rfl) ?_
          refine lv_bipush (v := 99) hx hb dX11_least_49 (by decide) ?_
          refine xi_cgt (tgt := 119) hx hb (rfl : Int32.toInt l6_47 = l6_47.toInt) ((by decide) : Int32.toInt 99 = (99 : Int)) dX11_least_51 (by decide) (fun c51 => ?_) (fun c51 => ?_)
          · refine lv_aload_n hx hb dX11_least_119 rfl (lv_at hl 0 rfl) ?_
            refine gX11_1 S hK hT ha kf_X11_9 dX11_least_120 (fun _ _ => ?_)
            refine lv_iload hx hb dX11_least_123 (lv_at hl 1 rfl) ?_
            refine lv_aload_n hx hb dX11_least_125 rfl (lv_at hl 0 rfl) ?_
            refine gX11_4 S hK hT ha kf_X11_21 dX11_least_126 (fun _ _ => ?_)
            refine lv_iload hx hb dX11_least_129 (lv_at hl 1 rfl) ?_
            refine al_0 S hK hT hk9999e ar_31 (by decide) (z_X11_least_2 p0.toInt p1.toInt p2.toInt x15.toInt x30.toInt x34.toInt x36.toInt x8.toInt (cel (mw (G.2.1 (F a 1)) 0) (p0.toInt) (p1.toInt) 0) z5 t8 c11 t15 c18 t30 t34 t36) dX11_least_131 (fun x131 hv131 o131 => ?_)
            have hv131 : x131.toInt = (aI (G25.2.1 (F a 4)) (x36.toInt)) := hv131.trans (by rw [(rfl : Int32.toInt x36 = x36.toInt), ((hF_47.2.1 _ (xn1 (xne_k hk9999e hk9999 (by decide)) (xn1 (xne_k hk9999e hk9999a (by decide)) (xn1 (xne_k hk9999e hk9999b (by decide)) (xn1 (xne_k hk9999e hk9999c (by decide)) (xn1 (xne_k hk9999e hk9999d (by decide)) xn0)))))) : G_47.2.1 (F a 4) = G25.2.1 (F a 4))])
            refine as_0 (x := x131) S hK hT hS hk9999d ar_30 aw_30 (by decide) (z_X11_least_2 p0.toInt p1.toInt p2.toInt x15.toInt x30.toInt x34.toInt x36.toInt x8.toInt (cel (mw (G.2.1 (F a 1)) 0) (p0.toInt) (p1.toInt) 0) z5 t8 c11 t15 c18 t30 t34 t36) dX11_least_132 (fun H locs hT hS => ?_)
            obtain ⟨G132, hG132⟩ : ∃ GG : XG, GG = cput G_47 (F a 1) x36.toNatClampNeg x131 := ⟨_, rfl⟩
            rw [← hG132] at hT
            refine lv_iload hx hb dX11_least_133 (lv_at hl 2 rfl) ?_
            exact x_ri hx hb hr hlk hQ (Nat.le_of_ble_eq_true rfl) (Nat.le_of_ble_eq_true rfl) hS dX11_least_135 G132 ⟨_, rfl, (by rw [hG132]; exact XFr.cput (XFr.call (XFr.call (by rw [hG2]; exact XFr.dput XFr.rf (List.mem_of_getElem? (i := 0) rfl)) hF25 xm0 (xm1 5 rfl (xm1 6 rfl xm0)) xm0) hF_47 (xm1 1 rfl (xm1 2 rfl xm0)) (xm1 0 rfl (xm1 1 rfl (xm1 2 rfl (xm1 3 rfl (xm1 4 rfl xm0))))) xm0) (List.mem_of_getElem? (i := 4) rfl)), (v_X11_least_135_7 (F := F) G132 G_47 a x36 x131 G25 G p0 p2 p1 x8 x15 x30 x34 l6_47 hG132 oq25 oq25a pm fl hv131 z5 t8 c11 t15 c18 t30 t34 t36 I47_0 c51), (v_X11_least_135_8 (F := F) G132 G_47 a x36 x131 G25 G p0 p2 p1 x8 x15 x30 x34 l6_47 hG132 oq25 oq25a rm fl hv131 z5 t8 c11 t15 c18 t30 t34 t36 I47_0 c51), (v_X11_least_135_9 (K := K) (F := F) a G G_47 p0 p2 p1 l5_47 l6_47 x8 x15 x30 N47 ha fl lp z5 t8 c11 t15 c18 t30 I47_0 hm47 c51)⟩ hT
          · refine lv_iload hx hb dX11_least_54 (lv_at hl 2 rfl) ?_
            refine lv_ldc (v := (-2147483648)) hx hb S.2.2.2.1 (S.2.2.2.2 _ (List.mem_cons_of_mem _ kc_X11_57)) dX11_least_56 ?_
            refine xi_cne (tgt := 119) hx hb (rfl : Int32.toInt l5_47 = l5_47.toInt) ((by decide) : Int32.toInt (-2147483648) = (-2147483648 : Int)) dX11_least_58 (by decide) (fun c58 => ?_) (fun c58 => ?_)
            · refine lv_aload_n hx hb dX11_least_119 rfl (lv_at hl 0 rfl) ?_
              refine gX11_1 S hK hT ha kf_X11_9 dX11_least_120 (fun _ _ => ?_)
              refine lv_iload hx hb dX11_least_123 (lv_at hl 1 rfl) ?_
              refine lv_aload_n hx hb dX11_least_125 rfl (lv_at hl 0 rfl) ?_
              refine gX11_4 S hK hT ha kf_X11_21 dX11_least_126 (fun _ _ => ?_)
              refine lv_iload hx hb dX11_least_129 (lv_at hl 1 rfl) ?_
              refine al_0 S hK hT hk9999e ar_31 (by decide) (z_X11_least_2 p0.toInt p1.toInt p2.toInt x15.toInt x30.toInt x34.toInt x36.toInt x8.toInt (cel (mw (G.2.1 (F a 1)) 0) (p0.toInt) (p1.toInt) 0) z5 t8 c11 t15 c18 t30 t34 t36) dX11_least_131 (fun x131 hv131 o131 => ?_)
              have hv131 : x131.toInt = (aI (G25.2.1 (F a 4)) (x36.toInt)) := hv131.trans (by rw [(rfl : Int32.toInt x36 = x36.toInt), ((hF_47.2.1 _ (xn1 (xne_k hk9999e hk9999 (by decide)) (xn1 (xne_k hk9999e hk9999a (by decide)) (xn1 (xne_k hk9999e hk9999b (by decide)) (xn1 (xne_k hk9999e hk9999c (by decide)) (xn1 (xne_k hk9999e hk9999d (by decide)) xn0)))))) : G_47.2.1 (F a 4) = G25.2.1 (F a 4))])
              refine as_0 (x := x131) S hK hT hS hk9999d ar_30 aw_30 (by decide) (z_X11_least_2 p0.toInt p1.toInt p2.toInt x15.toInt x30.toInt x34.toInt x36.toInt x8.toInt (cel (mw (G.2.1 (F a 1)) 0) (p0.toInt) (p1.toInt) 0) z5 t8 c11 t15 c18 t30 t34 t36) dX11_least_132 (fun H locs hT hS => ?_)
              obtain ⟨G132, hG132⟩ : ∃ GG : XG, GG = cput G_47 (F a 1) x36.toNatClampNeg x131 := ⟨_, rfl⟩
              rw [← hG132] at hT
              refine lv_iload hx hb dX11_least_133 (lv_at hl 2 rfl) ?_
              exact x_ri hx hb hr hlk hQ (Nat.le_of_ble_eq_true rfl) (Nat.le_of_ble_eq_true rfl) hS dX11_least_135 G132 ⟨_, rfl, (by rw [hG132]; exact XFr.cput (XFr.call (XFr.call (by rw [hG2]; exact XFr.dput XFr.rf (List.mem_of_getElem? (i := 0) rfl)) hF25 xm0 (xm1 5 rfl (xm1 6 rfl xm0)) xm0) hF_47 (xm1 1 rfl (xm1 2 rfl xm0)) (xm1 0 rfl (xm1 1 rfl (xm1 2 rfl (xm1 3 rfl (xm1 4 rfl xm0))))) xm0) (List.mem_of_getElem? (i := 4) rfl)), (v_X11_least_135_10 (F := F) G132 G_47 a x36 x131 G25 G p0 p2 p1 x8 x15 x30 x34 l6_47 hG132 oq25 oq25a pm fl hv131 z5 t8 c11 t15 c18 t30 t34 t36 I47_0 c51), (v_X11_least_135_11 (F := F) G132 G_47 a x36 x131 G25 G p0 p2 p1 x8 x15 x30 x34 l6_47 hG132 oq25 oq25a rm fl hv131 z5 t8 c11 t15 c18 t30 t34 t36 I47_0 c51), (v_X11_least_135_12 (K := K) (F := F) a G G_47 p0 p2 p1 l5_47 l6_47 x8 x15 x30 N47 ha fl lp z5 t8 c11 t15 c18 t30 I47_0 hm47 c51 c58)⟩ hT
            · refine lv_iload hx hb dX11_least_61 (lv_at hl 3 rfl) ?_
              refine lv_aload_n hx hb dX11_least_63 rfl (lv_at hl 0 rfl) ?_
              refine gX11_4 S hK hT ha kf_X11_21 dX11_least_64 (fun _ _ => ?_)
              refine lv_iload hx hb dX11_least_67 (lv_at hl 1 rfl) ?_
              refine al_0 S hK hT hk9999e ar_31 (by decide) (z_X11_least_2 p0.toInt p1.toInt p2.toInt x15.toInt x30.toInt x34.toInt x36.toInt x8.toInt (cel (mw (G.2.1 (F a 1)) 0) (p0.toInt) (p1.toInt) 0) z5 t8 c11 t15 c18 t30 t34 t36) dX11_least_69 (fun x69 hv69 o69 => ?_)
              have hv69 : x69.toInt = (aI (G25.2.1 (F a 4)) (x36.toInt)) := hv69.trans (by rw [(rfl : Int32.toInt x36 = x36.toInt), ((hF_47.2.1 _ (xn1 (xne_k hk9999e hk9999 (by decide)) (xn1 (xne_k hk9999e hk9999a (by decide)) (xn1 (xne_k hk9999e hk9999b (by decide)) (xn1 (xne_k hk9999e hk9999c (by decide)) (xn1 (xne_k hk9999e hk9999d (by decide)) xn0)))))) : G_47.2.1 (F a 4) = G25.2.1 (F a 4))])
              refine xi_ceq (tgt := 113) hx hb (rfl : Int32.toInt l6_47 = l6_47.toInt) (hv69 : Int32.toInt x69 = (aI (G25.2.1 (F a 4)) (x36.toInt))) dX11_least_70 (by decide) (fun c70 => ?_) (fun c70 => ?_)
              · refine xi_iinc (n := 1) (lv' := fun z9 => [(6, .int z9), (0, .ref a), (4, .int x36), (5, .int l5_47)]) (k := 3) hx hb (rfl : Int32.toInt l6_47 = l6_47.toInt) (by decide) dX11_least_113 hl rfl (by decide) (fun _ => rfl) (fun x113 ls t113 hl => ?_)
                have e113 : x113.toInt = (l6_47.toInt + 1) := (z_X11_least_7 l6_47.toInt x113.toInt I47_0 t113)
                have hl : lv_has ls 7 [(6, .int x113), (0, .ref a), (4, .int x36), (5, .int l5_47)] := hl
                refine lv_goto (tgt := 47) hx hb dX11_least_116 (by decide) ?_
                exact ih47 l5_47 x113 G_47 _ _ _ (XFr.call XFr.rf hF_47 (xm1 0 rfl (xm1 1 rfl xm0)) (xm1 0 rfl (xm1 1 rfl (xm1 2 rfl (xm1 3 rfl (xm1 4 rfl xm0))))) xm0) (v_X11_least_116_13 (F := F) G_47 a p0 p2 p1 G x8 x15 x30 l6_47 rm fl z5 t8 c11 t15 c18 t30 I47_0 c51) (v_X11_least_116_14 (F := F) G_47 a p0 p2 p1 G x8 x15 x30 l6_47 pm fl z5 t8 c11 t15 c18 t30 I47_0 c51) (v_X11_least_116_15 (F := F) G_47 a p0 p2 p1 G x8 x15 x30 l6_47 fl z5 t8 c11 t15 c18 t30 I47_0 c51) (by rw [(e113 : Int32.toInt x113 = (l6_47.toInt + 1))] <;> exact (v_X11_least_116_16 (K := K) (F := F) a G G25 G_47 p0 p2 p1 l5_47 l6_47 x36 x8 x15 x30 x34 N47 ha oq25 oq25a pm fl lp z5 t8 c11 t15 c18 t30 t34 t36 I47_0 hm47 c51 c58 c70)) (by rw [(e113 : Int32.toInt x113 = (l6_47.toInt + 1))] <;> exact (z_X11_least_8 l6_47.toInt I47_0 c51)) (by rw [(e113 : Int32.toInt x113 = (l6_47.toInt + 1))] <;> exact (z_X11_least_9 l6_47.toInt N47 hm47)) hT hS (lv_sub hl [1, 2, 3, 0] rfl)
              · refine lv_aload_n hx hb dX11_least_73 rfl (lv_at hl 0 rfl) ?_
                refine gX11_1 S hK hT ha kf_X11_9 dX11_least_74 (fun _ _ => ?_)
                refine lv_iload hx hb dX11_least_77 (lv_at hl 1 rfl) ?_
                refine lv_iload hx hb dX11_least_79 (lv_at hl 3 rfl) ?_
                refine as_0 (x := l6_47) S hK hT hS hk9999d ar_30 aw_30 (by decide) (z_X11_least_2 p0.toInt p1.toInt p2.toInt x15.toInt x30.toInt x34.toInt x36.toInt x8.toInt (cel (mw (G.2.1 (F a 1)) 0) (p0.toInt) (p1.toInt) 0) z5 t8 c11 t15 c18 t30 t34 t36) dX11_least_81 (fun H locs hT hS => ?_)
                obtain ⟨G81, hG81⟩ : ∃ GG : XG, GG = cput G_47 (F a 1) x36.toNatClampNeg l6_47 := ⟨_, rfl⟩
                rw [← hG81] at hT
                refine lv_aload_n hx hb dX11_least_82 rfl (lv_at hl 0 rfl) ?_
                refine lv_aload_n hx hb dX11_least_83 rfl (lv_at hl 0 rfl) ?_
                refine gX11_11 S hK hT ha kf_X11_36 dX11_least_84 (fun _ _ => ?_)
                refine lv_aload_n hx hb dX11_least_87 rfl (lv_at hl 0 rfl) ?_
                refine gX11_1 S hK hT ha kf_X11_9 dX11_least_88 (fun _ _ => ?_)
                refine lv_iconst (v := 0) hx hb dX11_least_91 (by decide) ?_
                refine x_cv0 (x_runV (b := a) (As := [.ref (F a 11), .ref (F a 1), .int 0]) (rest := []) S (c_X11_layStates l E K F G81 a (F a 11) (F a 1) 0 ha hk9999c (XO.a hk9999d (by decide)) (v_X11_least_92_17 (F := F) a G G81 hR ((lc_c hG81 (xne_k hk9999g hk9999d (by decide))).trans ((hF_47.2.1 _ (xn1 (xne_k hk9999g hk9999 (by decide)) (xn1 (xne_k hk9999g hk9999a (by decide)) (xn1 (xne_k hk9999g hk9999b (by decide)) (xn1 (xne_k hk9999g hk9999c (by decide)) (xn1 (xne_k hk9999g hk9999d (by decide)) xn0)))))).trans ((hF25.2.1 _ (xn1 (xne_k hk9999g hk9999e (by decide)) (xn1 (xne_k hk9999g hk9999f (by decide)) xn0))).trans (ld_c hG2))))) (v_X11_least_92_18 (F := F) G81 G_47 a x36 l6_47 p0 p2 p1 G x8 x15 x30 x34 hG81 rm fl z5 t8 c11 t15 c18 t30 t34 t36 I47_0 c51)) mv_X11_layStates km_X11_210 rfl rfl ⟨Nat.le_of_ble_eq_true rfl, Nat.le_of_ble_eq_true rfl⟩ (rc_13 hK hT ha) hK (fun _ => XP.blind) (fun U hU hW => XP.at hK hz hS hT hU hW) rfl hl.1 (Nat.le_of_ble_eq_true rfl) dX11_least_92 ⟨Nat.le_of_ble_eq_true rfl, Nat.le_of_ble_eq_true rfl⟩) hS ?_
                rintro G92 H locs ⟨hF92, oq92, oq92a⟩ hT hS
                have oq92 : LSt (G.2.1 (F a 10)) (G92.2.1 (F a 11)) (mw (G81.2.1 (F a 1)) (0 : Int)) 12 := by simp only [(show G81.2.1 (F a 10) = G.2.1 (F a 10) from ((lc_c hG81 (xne_k hk9999g hk9999d (by decide))).trans ((hF_47.2.1 _ (xn1 (xne_k hk9999g hk9999 (by decide)) (xn1 (xne_k hk9999g hk9999a (by decide)) (xn1 (xne_k hk9999g hk9999b (by decide)) (xn1 (xne_k hk9999g hk9999c (by decide)) (xn1 (xne_k hk9999g hk9999d (by decide)) xn0)))))).trans ((hF25.2.1 _ (xn1 (xne_k hk9999g hk9999e (by decide)) (xn1 (xne_k hk9999g hk9999f (by decide)) xn0))).trans (ld_c hG2)))))] at oq92; exact oq92
                refine lv_aload_n hx hb dX11_least_95 rfl (lv_at hl 0 rfl) ?_
                refine lv_iconst (v := 2) hx hb dX11_least_96 (by decide) ?_
                refine x_cl0 (x_runV (b := a) (As := [.int 2]) (rest := []) S (c_X11_asks l E K F G92 a 2 (mw (G.2.1 (F a 1)) 0) ha (v_X11_least_97_19 (F := F) a G G92 hR ((hF92.2.1 _ (xn1 (xne_k hk9999g hk9999c (by decide)) xn0)).trans ((lc_c hG81 (xne_k hk9999g hk9999d (by decide))).trans ((hF_47.2.1 _ (xn1 (xne_k hk9999g hk9999 (by decide)) (xn1 (xne_k hk9999g hk9999a (by decide)) (xn1 (xne_k hk9999g hk9999b (by decide)) (xn1 (xne_k hk9999g hk9999c (by decide)) (xn1 (xne_k hk9999g hk9999d (by decide)) xn0)))))).trans ((hF25.2.1 _ (xn1 (xne_k hk9999g hk9999e (by decide)) (xn1 (xne_k hk9999g hk9999f (by decide)) xn0))).trans (ld_c hG2)))))) (v_X11_least_97_20 (F := F) G81 G_47 a x36 l6_47 p0 p2 p1 G x8 x15 x30 x34 G92 hG81 rm fl z5 t8 c11 t15 c18 t30 t34 t36 I47_0 c51 (hF92.2.1 _ (xn1 (xne_k hk9999d hk9999c (by decide)) xn0))) (v_X11_least_97_21 (F := F) G a G25 G92 oq25b ((hF92.2.1 _ (xn1 (xne_k hk9999g hk9999c (by decide)) xn0)).trans ((lc_c hG81 (xne_k hk9999g hk9999d (by decide))).trans ((hF_47.2.1 _ (xn1 (xne_k hk9999g hk9999 (by decide)) (xn1 (xne_k hk9999g hk9999a (by decide)) (xn1 (xne_k hk9999g hk9999b (by decide)) (xn1 (xne_k hk9999g hk9999c (by decide)) (xn1 (xne_k hk9999g hk9999d (by decide)) xn0)))))).trans ((hF25.2.1 _ (xn1 (xne_k hk9999g hk9999e (by decide)) (xn1 (xne_k hk9999g hk9999f (by decide)) xn0))).trans (ld_c hG2))))) ((hF92.2.1 _ (xn1 (xne_j hj9999f hj9999c (by first | decide | omega)) xn0)).trans ((lc_c hG81 (xne_k hk9999f hk9999d (by decide))).trans (hF_47.2.1 _ (xn1 (xne_k hk9999f hk9999 (by decide)) (xn1 (xne_k hk9999f hk9999a (by decide)) (xn1 (xne_k hk9999f hk9999b (by decide)) (xn1 (xne_j hj9999f hj9999c (by first | decide | omega)) (xn1 (xne_k hk9999f hk9999d (by decide)) xn0))))))))) (v_X11_least_97_22 (F := F) G a G92 G81 oq92 ((lc_c hG81 (xne_k hk9999g hk9999d (by decide))).trans ((hF_47.2.1 _ (xn1 (xne_k hk9999g hk9999 (by decide)) (xn1 (xne_k hk9999g hk9999a (by decide)) (xn1 (xne_k hk9999g hk9999b (by decide)) (xn1 (xne_k hk9999g hk9999c (by decide)) (xn1 (xne_k hk9999g hk9999d (by decide)) xn0)))))).trans ((hF25.2.1 _ (xn1 (xne_k hk9999g hk9999e (by decide)) (xn1 (xne_k hk9999g hk9999f (by decide)) xn0))).trans (ld_c hG2)))) (hF92.2.1 _ (xn1 (xne_k hk9999d hk9999c (by decide)) xn0)) ((hF92.2.1 _ (xn1 (xne_k hk9999g hk9999c (by decide)) xn0)).trans ((lc_c hG81 (xne_k hk9999g hk9999d (by decide))).trans ((hF_47.2.1 _ (xn1 (xne_k hk9999g hk9999 (by decide)) (xn1 (xne_k hk9999g hk9999a (by decide)) (xn1 (xne_k hk9999g hk9999b (by decide)) (xn1 (xne_k hk9999g hk9999c (by decide)) (xn1 (xne_k hk9999g hk9999d (by decide)) xn0)))))).trans ((hF25.2.1 _ (xn1 (xne_k hk9999g hk9999e (by decide)) (xn1 (xne_k hk9999g hk9999f (by decide)) xn0))).trans (ld_c hG2))))))) mv_X11_asks km_X11_319 rfl rfl ⟨Nat.le_of_ble_eq_true rfl, Nat.le_of_ble_eq_true rfl⟩ (rc_13 hK hT ha) hK (fun _ => XP.blind) (fun U hU hW => XP.at hK hz hS hT hU hW) rfl hl.1 (Nat.le_of_ble_eq_true rfl) dX11_least_97 ⟨Nat.le_of_ble_eq_true rfl, Nat.le_of_ble_eq_true rfl⟩) hS ?_
                rintro _ G97 H locs ⟨x97, rfl, hF97, t97, oq97, oq97a, oq97b⟩ hT hS
                have t97 : -1 ≤ x97.toInt := t97
                have oq97 : pL G97 F a = fuO (G.2.1 (F a 10)) (mw (G.2.1 (F a 1)) 0) (mw (G81.2.1 (F a 1)) 0) (2 : Int) := by simp only [(show G92.2.1 (F a 10) = G.2.1 (F a 10) from ((hF92.2.1 _ (xn1 (xne_k hk9999g hk9999c (by decide)) xn0)).trans ((lc_c hG81 (xne_k hk9999g hk9999d (by decide))).trans ((hF_47.2.1 _ (xn1 (xne_k hk9999g hk9999 (by decide)) (xn1 (xne_k hk9999g hk9999a (by decide)) (xn1 (xne_k hk9999g hk9999b (by decide)) (xn1 (xne_k hk9999g hk9999c (by decide)) (xn1 (xne_k hk9999g hk9999d (by decide)) xn0)))))).trans ((hF25.2.1 _ (xn1 (xne_k hk9999g hk9999e (by decide)) (xn1 (xne_k hk9999g hk9999f (by decide)) xn0))).trans (ld_c hG2)))))), (show G92.2.1 (F a 1) = G81.2.1 (F a 1) from (hF92.2.1 _ (xn1 (xne_k hk9999d hk9999c (by decide)) xn0)))] at oq97; exact oq97
                have oq97a : x97.toInt = ffP (G.2.1 (F a 10)) (mw (G81.2.1 (F a 1)) 0) (pL G97 F a) := by simp only [(show G92.2.1 (F a 10) = G.2.1 (F a 10) from ((hF92.2.1 _ (xn1 (xne_k hk9999g hk9999c (by decide)) xn0)).trans ((lc_c hG81 (xne_k hk9999g hk9999d (by decide))).trans ((hF_47.2.1 _ (xn1 (xne_k hk9999g hk9999 (by decide)) (xn1 (xne_k hk9999g hk9999a (by decide)) (xn1 (xne_k hk9999g hk9999b (by decide)) (xn1 (xne_k hk9999g hk9999c (by decide)) (xn1 (xne_k hk9999g hk9999d (by decide)) xn0)))))).trans ((hF25.2.1 _ (xn1 (xne_k hk9999g hk9999e (by decide)) (xn1 (xne_k hk9999g hk9999f (by decide)) xn0))).trans (ld_c hG2)))))), (show G92.2.1 (F a 1) = G81.2.1 (F a 1) from (hF92.2.1 _ (xn1 (xne_k hk9999d hk9999c (by decide)) xn0)))] at oq97a; exact oq97a
                refine lv_iconst (v := (-1)) hx hb dX11_least_100 (by decide) ?_
                refine xi_cne (tgt := 109) hx hb (rfl : Int32.toInt x97 = x97.toInt) ((by decide) : Int32.toInt (-1) = (-1 : Int)) dX11_least_101 (by decide) (fun c101 => ?_) (fun c101 => ?_)
                · refine lv_ldc (v := (-2147483648)) hx hb S.2.2.2.1 (S.2.2.2.2 _ (List.mem_cons_of_mem _ kc_X11_57)) dX11_least_109 ?_
                  refine lv_istore (lv' := [(5, .int (-2147483648)), (0, .ref a), (4, .int x36), (6, .int l6_47)]) hx hb dX11_least_111 hl (by decide) rfl (fun ls hl => ?_)
                  refine xi_iinc (n := 1) (lv' := fun z9 => [(6, .int z9), (5, .int (-2147483648)), (0, .ref a), (4, .int x36)]) (k := 3) hx hb (rfl : Int32.toInt l6_47 = l6_47.toInt) (by decide) dX11_least_113 hl rfl (by decide) (fun _ => rfl) (fun x113 ls t113 hl => ?_)
                  have e113 : x113.toInt = (l6_47.toInt + 1) := (z_X11_least_7 l6_47.toInt x113.toInt I47_0 t113)
                  have hl : lv_has ls 7 [(6, .int x113), (5, .int (-2147483648)), (0, .ref a), (4, .int x36)] := hl
                  refine lv_goto (tgt := 47) hx hb dX11_least_116 (by decide) ?_
                  exact ih47 (-2147483648) x113 G97 _ _ _ (XFr.call (XFr.call (by rw [hG81]; exact XFr.cput (XFr.call XFr.rf hF_47 (xm1 0 rfl (xm1 1 rfl xm0)) (xm1 0 rfl (xm1 1 rfl (xm1 2 rfl (xm1 3 rfl (xm1 4 rfl xm0))))) xm0) (List.mem_of_getElem? (i := 4) rfl)) hF92 xm0 (xm1 3 rfl xm0) xm0) hF97 (xm1 0 rfl (xm1 1 rfl xm0)) (xm1 0 rfl (xm1 1 rfl (xm1 2 rfl xm0))) xm0) (by rw [(show G97.2.1 (F a 1) = G81.2.1 (F a 1) from ((hF97.2.1 _ (xn1 (xne_k hk9999d hk9999 (by decide)) (xn1 (xne_k hk9999d hk9999a (by decide)) (xn1 (xne_k hk9999d hk9999b (by decide)) xn0)))).trans (hF92.2.1 _ (xn1 (xne_k hk9999d hk9999c (by decide)) xn0))))] <;> exact (v_X11_least_116_23 (F := F) G81 G_47 a x36 l6_47 p0 p2 p1 G x8 x15 x30 x34 hG81 rm fl z5 t8 c11 t15 c18 t30 t34 t36 I47_0 c51)) (by rw [(show G97.2.1 (F a 1) = G81.2.1 (F a 1) from ((hF97.2.1 _ (xn1 (xne_k hk9999d hk9999 (by decide)) (xn1 (xne_k hk9999d hk9999a (by decide)) (xn1 (xne_k hk9999d hk9999b (by decide)) xn0)))).trans (hF92.2.1 _ (xn1 (xne_k hk9999d hk9999c (by decide)) xn0))))] <;> exact (v_X11_least_116_24 (F := F) G81 G_47 a x36 l6_47 p0 p2 p1 G x8 x15 x30 x34 hG81 pm fl z5 t8 c11 t15 c18 t30 t34 t36 I47_0 c51)) (by rw [(show G97.2.1 (F a 1) = G81.2.1 (F a 1) from ((hF97.2.1 _ (xn1 (xne_k hk9999d hk9999 (by decide)) (xn1 (xne_k hk9999d hk9999a (by decide)) (xn1 (xne_k hk9999d hk9999b (by decide)) xn0)))).trans (hF92.2.1 _ (xn1 (xne_k hk9999d hk9999c (by decide)) xn0))))] <;> exact (v_X11_least_116_25 (F := F) G81 G_47 a x36 l6_47 p0 p2 p1 G x8 x15 x30 x34 hG81 fl z5 t8 c11 t15 c18 t30 t34 t36 I47_0 c51)) (by rw [((by decide) : Int32.toInt (-2147483648) = (-2147483648 : Int)), (e113 : Int32.toInt x113 = (l6_47.toInt + 1))] <;> exact (v_X11_least_116_26 (K := K) (F := F) a G G25 G_47 G81 x36 l6_47 G92 G97 p0 p2 p1 l5_47 x97 x8 x15 x30 x34 N47 ha hG81 oq25 oq25a pm fl lp oq92a oq97 oq97a oq97b z5 t8 c11 t15 c18 t30 t34 t36 I47_0 hm47 c51 c58 c70 t97 c101)) (by rw [(e113 : Int32.toInt x113 = (l6_47.toInt + 1))] <;> exact (z_X11_least_8 l6_47.toInt I47_0 c51)) (by rw [(e113 : Int32.toInt x113 = (l6_47.toInt + 1))] <;> exact (z_X11_least_9 l6_47.toInt N47 hm47)) hT hS (lv_sub hl [2, 3, 1, 0] rfl)
                · refine lv_iload hx hb dX11_least_104 (lv_at hl 3 rfl) ?_
                  refine lv_goto (tgt := 111) hx hb dX11_least_106 (by decide) ?_
                  refine lv_istore (lv' := [(5, .int l6_47), (0, .ref a), (4, .int x36), (6, .int l6_47)]) hx hb dX11_least_111 hl (by decide) rfl (fun ls hl => ?_)
                  refine xi_iinc (n := 1) (lv' := fun z9 => [(6, .int z9), (5, .int l6_47), (0, .ref a), (4, .int x36)]) (k := 3) hx hb (rfl : Int32.toInt l6_47 = l6_47.toInt) (by decide) dX11_least_113 hl rfl (by decide) (fun _ => rfl) (fun x113 ls t113 hl => ?_)
                  have e113 : x113.toInt = (l6_47.toInt + 1) := (z_X11_least_7 l6_47.toInt x113.toInt I47_0 t113)
                  have hl : lv_has ls 7 [(6, .int x113), (5, .int l6_47), (0, .ref a), (4, .int x36)] := hl
                  refine lv_goto (tgt := 47) hx hb dX11_least_116 (by decide) ?_
                  exact ih47 l6_47 x113 G97 _ _ _ (XFr.call (XFr.call (by rw [hG81]; exact XFr.cput (XFr.call XFr.rf hF_47 (xm1 0 rfl (xm1 1 rfl xm0)) (xm1 0 rfl (xm1 1 rfl (xm1 2 rfl (xm1 3 rfl (xm1 4 rfl xm0))))) xm0) (List.mem_of_getElem? (i := 4) rfl)) hF92 xm0 (xm1 3 rfl xm0) xm0) hF97 (xm1 0 rfl (xm1 1 rfl xm0)) (xm1 0 rfl (xm1 1 rfl (xm1 2 rfl xm0))) xm0) (by rw [(show G97.2.1 (F a 1) = G81.2.1 (F a 1) from ((hF97.2.1 _ (xn1 (xne_k hk9999d hk9999 (by decide)) (xn1 (xne_k hk9999d hk9999a (by decide)) (xn1 (xne_k hk9999d hk9999b (by decide)) xn0)))).trans (hF92.2.1 _ (xn1 (xne_k hk9999d hk9999c (by decide)) xn0))))] <;> exact (v_X11_least_116_27 (F := F) G81 G_47 a x36 l6_47 p0 p2 p1 G x8 x15 x30 x34 hG81 rm fl z5 t8 c11 t15 c18 t30 t34 t36 I47_0 c51)) (by rw [(show G97.2.1 (F a 1) = G81.2.1 (F a 1) from ((hF97.2.1 _ (xn1 (xne_k hk9999d hk9999 (by decide)) (xn1 (xne_k hk9999d hk9999a (by decide)) (xn1 (xne_k hk9999d hk9999b (by decide)) xn0)))).trans (hF92.2.1 _ (xn1 (xne_k hk9999d hk9999c (by decide)) xn0))))] <;> exact (v_X11_least_116_28 (F := F) G81 G_47 a x36 l6_47 p0 p2 p1 G x8 x15 x30 x34 hG81 pm fl z5 t8 c11 t15 c18 t30 t34 t36 I47_0 c51)) (by rw [(show G97.2.1 (F a 1) = G81.2.1 (F a 1) from ((hF97.2.1 _ (xn1 (xne_k hk9999d hk9999 (by decide)) (xn1 (xne_k hk9999d hk9999a (by decide)) (xn1 (xne_k hk9999d hk9999b (by decide)) xn0)))).trans (hF92.2.1 _ (xn1 (xne_k hk9999d hk9999c (by decide)) xn0))))] <;> exact (v_X11_least_116_29 (F := F) G81 G_47 a x36 l6_47 p0 p2 p1 G x8 x15 x30 x34 hG81 fl z5 t8 c11 t15 c18 t30 t34 t36 I47_0 c51)) (by rw [(e113 : Int32.toInt x113 = (l6_47.toInt + 1))] <;> exact (v_X11_least_116_30 (K := K) (F := F) a G G25 G_47 G81 x36 l6_47 G92 G97 p0 p2 p1 l5_47 x97 x8 x15 x30 x34 N47 ha hG81 oq25 oq25a pm fl lp oq92a oq97 oq97a oq97b z5 t8 c11 t15 c18 t30 t34 t36 I47_0 hm47 c51 c58 c70 t97 c101)) (by rw [(e113 : Int32.toInt x113 = (l6_47.toInt + 1))] <;> exact (z_X11_least_8 l6_47.toInt I47_0 c51)) (by rw [(e113 : Int32.toInt x113 = (l6_47.toInt + 1))] <;> exact (z_X11_least_9 l6_47.toInt N47 hm47)) hT hS (lv_sub hl [2, 3, 1, 0] rfl)
      exact L47 4294967297 (-2147483648) (-99) G25 _ _ _ XFr.rf (by rw [(show G25.2.1 (F a 1) = G.2.1 (F a 1) from ((hF25.2.1 _ (xn1 (xne_k hk9999d hk9999e (by decide)) (xn1 (xne_k hk9999d hk9999f (by decide)) xn0))).trans (ld_c hG2)))] <;> exact (v_X11_least_45_31 (F := F) G a hM)) (by rw [(show G25.2.1 (F a 1) = G.2.1 (F a 1) from ((hF25.2.1 _ (xn1 (xne_k hk9999d hk9999e (by decide)) (xn1 (xne_k hk9999d hk9999f (by decide)) xn0))).trans (ld_c hG2)))] <;> exact (v_X11_least_45_32 (F := F) G a p0 p2 p1)) (by rw [(show G25.2.1 (F a 1) = G.2.1 (F a 1) from ((hF25.2.1 _ (xn1 (xne_k hk9999d hk9999e (by decide)) (xn1 (xne_k hk9999d hk9999f (by decide)) xn0))).trans (ld_c hG2)))] <;> exact (v_X11_least_45_33 (F := F) G a p0 p1 x8 hM z5 t8 c11)) (by rw [((by decide) : Int32.toInt (-2147483648) = (-2147483648 : Int)), ((by decide) : Int32.toInt (-99) = (-99 : Int))] <;> exact (v_X11_least_45_34 (K := K) (F := F) a G p0 p1 x8 x15 p2 x30 ha z5 t8 c11 t15 c18 t30)) (by rw [((by decide) : Int32.toInt (-99) = (-99 : Int))] <;> exact (by decide)) (by rw [((by decide) : Int32.toInt (-99) = (-99 : Int))] <;> exact (by decide)) hT hS (lv_sub hl [3, 2, 1, 0] rfl)
    · refine lv_ldc (v := (-2147483648)) hx hb S.2.2.2.1 (S.2.2.2.2 _ (List.mem_cons_of_mem _ kc_X11_57)) dX11_least_21 ?_
      exact x_ri hx hb hr hlk hQ (Nat.le_of_ble_eq_true rfl) (Nat.le_of_ble_eq_true rfl) hS dX11_least_23 G2 ⟨_, rfl, (by rw [hG2]; exact XFr.dput XFr.rf (List.mem_of_getElem? (i := 0) rfl)), (v_X11_least_23_35 (F := F) G2 a G (ld_c hG2)), (v_X11_least_23_36 (F := F) G a G2 hM (ld_c hG2)), (by rw [((by decide) : Int32.toInt (-2147483648) = (-2147483648 : Int))] <;> exact (v_X11_least_23_37 (K := K) (F := F) a G p0 p1 x8 x15 p2 ha z5 t8 c11 t15 c18))⟩ hT
section
/-! ===== the making of objects: a world with loose cells ===== -/
def LD (L : va_W) : Prop := ∀ (i j : Nat) (x y : Nat × va_E), L[i]? = some x → L[j]? = some y → x.1 = y.1 → i = j
def TLk (E : XE) (K : Nat → Nat) (F : Nat → Nat → Nat) (G : XG) (ws : va_W) : Prop := ∀ a : Nat, K a ≠ 0 → ∃ (i : Nat) (e : va_E), ws[i]? = some (a, e) ∧ SHQ E K F G a (K a) e
def TX (E : XE) (K : Nat → Nat) (F : Nat → Nat → Nat) (G : XG) (L : va_W) (H : Heap) : Prop := ∃ ws, TLk E K F G ws ∧ (∀ q ∈ L, K q.1 = 0 ∧ ∃ i : Nat, ws[i]? = some q) ∧ LD L ∧ va_P E.1 vwCl ws H ∧ va_D (xA E) ws
def N11 (K : Nat → Nat) : Prop := ∀ b, K b ≠ 11
/-- more is made, what was there is as it was -/
def GR (K : Nat → Nat) (F : Nat → Nat → Nat) (G : XG) (K1 : Nat → Nat) (F1 : Nat → Nat → Nat) (G1 : XG) : Prop := KM K K1 ∧ (∀ b, K b ≠ 0 → F1 b = F b ∧ G1.1 b = G.1 b ∧ G1.2.1 b = G.2.1 b ∧ G1.2.2.1 b = G.2.2.1 b) ∧ G1.2.2.2 = G.2.2.2
theorem GR.rf {K : Nat → Nat} {F : Nat → Nat → Nat} {G : XG} : GR K F G K F G := ⟨KM.rf, fun _ _ => ⟨rfl, rfl, rfl, rfl⟩, rfl⟩
theorem GR.tr {K K1 K2 : Nat → Nat} {F F1 F2 : Nat → Nat → Nat} {G G1 G2 : XG} (h : GR K F G K1 F1 G1) (g : GR K1 F1 G1 K2 F2 G2) : GR K F G K2 F2 G2 := by
  refine ⟨h.1.tr g.1, fun b hb => ?_, g.2.2.trans h.2.2⟩
  obtain ⟨a1, a2, a3, a4⟩ := h.2.1 b hb
  obtain ⟨b1, b2, b3, b4⟩ := g.2.1 b (by rw [h.1 b _ rfl hb]; exact hb)
  exact ⟨b1.trans a1, b2.trans a2, b3.trans a3, b4.trans a4⟩
theorem GR.k {K K1 : Nat → Nat} {F F1 : Nat → Nat → Nat} {G G1 : XG} (h : GR K F G K1 F1 G1) {q k : Nat} (hk : K q = k) (h0 : k ≠ 0) : K1 q = k := h.1 q k hk h0
theorem GR.at {K K1 : Nat → Nat} {F F1 : Nat → Nat → Nat} {G G1 : XG} (h : GR K F G K1 F1 G1) {q k : Nat} (hk : K q = k) (h0 : k ≠ 0) : F1 q = F q ∧ G1.1 q = G.1 q ∧ G1.2.1 q = G.2.1 q ∧ G1.2.2.1 q = G.2.2.1 q := h.2.1 q (by rw [hk]; exact h0)
theorem LD.tl {x : Nat × va_E} {L : va_W} (h : LD (x :: L)) : LD L := fun i j y z h1 h2 e => by
  have := h (i + 1) (j + 1) y z h1 h2 e
  omega
theorem LD.nx {x : Nat × va_E} {L : va_W} (h : LD (x :: L)) : ∀ q ∈ L, q.1 ≠ x.1 := fun q hq e => by
  obtain ⟨i, hi⟩ := List.mem_iff_getElem?.mp hq
  have := h (i + 1) 0 q x hi rfl e
  omega
theorem LD.cons {x : Nat × va_E} {L : va_W} (h : LD L) (hx : ∀ q ∈ L, q.1 ≠ x.1) : LD (x :: L) := fun i j y z h1 h2 e => by
  match i, j with
  | 0, 0 => rfl
  | 0, j + 1 =>
    have h1 : some x = some y := h1
    cases h1
    exact absurd e.symm (hx z (List.mem_of_getElem? h2))
  | i + 1, 0 =>
    have h2 : some x = some z := h2
    cases h2
    exact absurd e (hx y (List.mem_of_getElem? h1))
  | i + 1, j + 1 =>
    have := h i j y z h1 h2 e
    omega
theorem LD.set {L : va_W} {i a : Nat} {e e' : va_E} (h : LD L) (hi : L[i]? = some (a, e)) : LD (L.set i (a, e')) := by
  have key : ∀ (j : Nat) (y : Nat × va_E), (L.set i (a, e'))[j]? = some y → ∃ z : Nat × va_E, L[j]? = some z ∧ z.1 = y.1 := by
    intro j y hy
    by_cases hj : i = j
    · subst hj
      rw [List.getElem?_set_self (List.getElem?_eq_some_iff.mp hi).1] at hy
      cases hy
      exact ⟨_, hi, rfl⟩
    · rw [List.getElem?_set_ne hj] at hy
      exact ⟨y, hy, rfl⟩
  intro j k y z h1 h2 e
  obtain ⟨y', a1, a2⟩ := key j y h1
  obtain ⟨z', b1, b2⟩ := key k z h2
  exact h j k y' z' a1 b1 (by rw [a2, b2]; exact e)
theorem SHP.far {E : XE} {K : Nat → Nat} {F F1 : Nat → Nat → Nat} {d c : Nat → Int32} {r : Nat → Option Nat} {l : Nat → Int64} {a k : Nat} {e : va_E} (hF : F1 a = F a) (h9 : ∀ b, K b ≠ 0 → F1 b = F b) (h : SHP E K F d c r l a k e) : SHP E K F1 d c r l a k e := by
  unfold SHP at h ⊢
  split at h
  · obtain ⟨q0, q1, q2, q3, q4⟩ := h
    exact ⟨by (try rw [hF]); exact q0, by rw [hF]; exact q1, by rw [hF, h9 _ (by rw [q1]; decide)]; exact q2, by rw [hF]; exact q3, by rw [hF, h9 _ (by rw [q3]; decide)]; exact q4⟩
  · obtain ⟨q0, q1, q2, q3, q4, q5, q6⟩ := h
    exact ⟨by (try rw [hF]); exact q0, by rw [hF]; exact q1, by rw [hF, h9 _ (by rw [q1]; decide)]; exact q2, by rw [hF]; exact q3, by rw [hF, h9 _ (by rw [q3]; decide)]; exact q4, by rw [hF]; exact q5, by rw [hF, h9 _ (by rw [q5]; decide)]; exact q6⟩
  · obtain ⟨q0, q1, q2, q3, q4, q5, q6, q7, q8⟩ := h
    exact ⟨by (try rw [hF]); exact q0, by rw [hF]; exact q1, by rw [hF, h9 _ (by rw [q1]; decide)]; exact q2, by rw [hF]; exact q3, by rw [hF, h9 _ (by rw [q3]; decide)]; exact q4, by rw [hF]; exact q5, by rw [hF, h9 _ (by rw [q5]; decide)]; exact q6, by rw [hF]; exact q7, by rw [hF, h9 _ (by rw [q7]; decide)]; exact q8⟩
  · obtain ⟨q0, q1, q2, q3, q4, q5, q6⟩ := h
    exact ⟨by (try rw [hF]); exact q0, by rw [hF]; exact q1, by rw [hF, h9 _ (by rw [q1]; decide)]; exact q2, by rw [hF]; exact q3, by rw [hF, h9 _ (by rw [q3]; decide)]; exact q4, by rw [hF]; exact q5, by rw [hF, h9 _ (by rw [q5]; decide)]; exact q6⟩
  · obtain ⟨q0, q1, q2, q3, q4, q5, q6, q7, q8, q9, q10, q11, q12⟩ := h
    exact ⟨by (try rw [hF]); exact q0, by rw [hF]; exact q1, by rw [hF, h9 _ (by rw [q1]; decide)]; exact q2, by rw [hF]; exact q3, by rw [hF, h9 _ (by rw [q3]; decide)]; exact q4, by rw [hF]; exact q5, by rw [hF, h9 _ (by rw [q5]; decide)]; exact q6, by rw [hF]; exact q7, by rw [hF, h9 _ (by rw [q7]; decide)]; exact q8, by rw [hF]; exact q9, by rw [hF, h9 _ (by rw [q9]; decide)]; exact q10, by rw [hF]; exact q11, by rw [hF, h9 _ (by rw [q11]; decide)]; exact q12⟩
  · obtain ⟨q0, q1, q2, q3⟩ := h
    exact ⟨by (try rw [hF]); exact q0, by rw [hF]; exact q1, by rw [hF, h9 _ (by rw [q1]; decide)]; exact q2, q3⟩
  · obtain ⟨q0, q1, q2, q3, q4⟩ := h
    exact ⟨by (try rw [hF]); exact q0, by rw [hF]; exact q1, by rw [hF, h9 _ (by rw [q1]; decide)]; exact q2, by rw [hF]; exact q3, by rw [hF, h9 _ (by rw [q3]; decide)]; exact q4⟩
  · obtain ⟨q0, q1⟩ := h
    exact ⟨by (try rw [hF]); exact q0, q1⟩
  · obtain ⟨q0, q1, q2⟩ := h
    exact ⟨by (try rw [hF]); exact q0, by rw [hF]; exact q1, by rw [hF, h9 _ (by rw [q1]; decide)]; exact q2⟩
  · obtain ⟨q0, q1⟩ := h
    exact ⟨by (try rw [hF]); exact q0, q1⟩
  · obtain ⟨q0, q1, q2, q3, q4, q5, q6, q7, q8, q9, q10, q11, q12, q13, q14, q15, q16, q17, q18, q19, q20, q21, q22, q23, q24, q25, q26, q27, q28, q29, q30, q31, q32, q33, q34, q35⟩ := h
    exact ⟨by (try rw [hF]); exact q0, by rw [hF]; exact q1, by rw [hF, h9 _ (by rw [q1]; decide)]; exact q2, by rw [hF]; exact q3, by rw [hF, h9 _ (by rw [q3]; decide)]; exact q4, by rw [hF]; exact q5, by rw [hF, h9 _ (by rw [q5]; decide)]; exact q6, by rw [hF]; exact q7, by rw [hF, h9 _ (by rw [q7]; decide)]; exact q8, by rw [hF]; exact q9, by rw [hF, h9 _ (by rw [q9]; decide)]; exact q10, by rw [hF]; exact q11, by rw [hF, h9 _ (by rw [q11]; decide)]; exact q12, by rw [hF]; exact q13, by rw [hF, h9 _ (by rw [q13]; decide)]; exact q14, by rw [hF]; exact q15, by rw [hF, h9 _ (by rw [q15]; decide)]; exact q16, by rw [hF]; exact q17, by rw [hF, h9 _ (by rw [q17]; decide)]; exact q18, by rw [hF]; exact q19, by rw [hF, h9 _ (by rw [q19]; decide)]; exact q20, by rw [hF]; exact q21, by rw [hF, h9 _ (by rw [q21]; decide)]; exact q22, by rw [hF]; exact q23, by rw [hF, h9 _ (by rw [q23]; decide)]; exact q24, by rw [hF]; exact q25, by rw [hF, h9 _ (by rw [q25]; decide)]; exact q26, by rw [hF]; exact q27, by rw [hF, h9 _ (by rw [q27]; decide)]; exact q28, by rw [hF]; exact q29, by rw [hF, h9 _ (by rw [q29]; decide)]; exact q30, by rw [hF]; exact q31, by rw [hF, h9 _ (by rw [q31]; decide)]; exact q32, by rw [hF]; exact q33, by rw [hF, h9 _ (by rw [q33]; decide)]; exact q34, q35⟩
  · obtain ⟨q0, q1, q2, q3, q4, q5, q6, q7, q8, q9, q10, q11, q12, q13, q14, q15, q16, q17, q18, q19, q20, q21, q22, q23, q24, q25, q26, q27, q28, q29, q30, q31, q32, q33, q34, q35, q36, q37, q38, q39, q40, q41, q42, q43, q44, q45, q46, q47, q48, q49, q50, q51, q52, q53, q54, q55, q56, q57, q58, q59, q60, q61, q62, q63, q64, q65, q66, q67, q68, q69, q70, q71, q72, q73, q74⟩ := h
    exact ⟨by (try rw [hF]); exact q0, by rw [hF]; exact q1, by rw [hF, h9 _ (by rw [q1]; decide)]; exact q2, by rw [hF]; exact q3, by rw [hF, h9 _ (by rw [q3]; decide)]; exact q4, by rw [hF]; exact q5, by rw [hF, h9 _ (by rw [q5]; decide)]; exact q6, by rw [hF]; exact q7, by rw [hF, h9 _ (by rw [q7]; decide)]; exact q8, by rw [hF]; exact q9, by rw [hF, h9 _ (by rw [q9]; decide)]; exact q10, q11, by rw [hF]; exact q12, by rw [hF, h9 _ (by rw [q12]; decide)]; exact q13, by rw [hF]; exact q14, by rw [hF, h9 _ (by rw [q14]; decide)]; exact q15, by rw [hF]; exact q16, by rw [hF, h9 _ (by rw [q16]; decide)]; exact q17, by rw [hF]; exact q18, by rw [hF, h9 _ (by rw [q18]; decide)]; exact q19, by rw [hF]; exact q20, by rw [hF, h9 _ (by rw [q20]; decide)]; exact q21, by rw [hF]; exact q22, by rw [hF, h9 _ (by rw [q22]; decide)]; exact q23, by rw [hF]; exact q24, by rw [hF, h9 _ (by rw [q24]; decide)]; exact q25, by rw [hF]; exact q26, by rw [hF, h9 _ (by rw [q26]; decide)]; exact q27, by rw [hF]; exact q28, by rw [hF, h9 _ (by rw [q28]; decide)]; exact q29, by rw [hF]; exact q30, by rw [hF, h9 _ (by rw [q30]; decide)]; exact q31, by rw [hF]; exact q32, by rw [hF, h9 _ (by rw [q32]; decide)]; exact q33, by rw [hF]; exact q34, by rw [hF, h9 _ (by rw [q34]; decide)]; exact q35, by rw [hF]; exact q36, by rw [hF, h9 _ (by rw [q36]; decide)]; exact q37, by rw [hF]; exact q38, by rw [hF, h9 _ (by rw [q38]; decide)]; exact q39, by rw [hF]; exact q40, by rw [hF, h9 _ (by rw [q40]; decide)]; exact q41, by rw [hF]; exact q42, by rw [hF, h9 _ (by rw [q42]; decide)]; exact q43, by rw [hF]; exact q44, by rw [hF, h9 _ (by rw [q44]; decide)]; exact q45, by rw [hF]; exact q46, by rw [hF, h9 _ (by rw [q46]; decide)]; exact q47, by rw [hF]; exact q48, by rw [hF, h9 _ (by rw [q48]; decide)]; exact q49, by rw [hF]; exact q50, by rw [hF, h9 _ (by rw [q50]; decide)]; exact q51, by rw [hF]; exact q52, by rw [hF, h9 _ (by rw [q52]; decide)]; exact q53, by rw [hF]; exact q54, by rw [hF, h9 _ (by rw [q54]; decide)]; exact q55, by rw [hF]; exact q56, by rw [hF, h9 _ (by rw [q56]; decide)]; exact q57, q58, by rw [hF]; exact q59, by rw [hF, h9 _ (by rw [q59]; decide)]; exact q60, by rw [hF]; exact q61, by rw [hF, h9 _ (by rw [q61]; decide)]; exact q62, by rw [hF]; exact q63, by rw [hF, h9 _ (by rw [q63]; decide)]; exact q64, by rw [hF]; exact q65, by rw [hF, h9 _ (by rw [q65]; decide)]; exact q66, by rw [hF]; exact q67, by rw [hF, h9 _ (by rw [q67]; decide)]; exact q68, by rw [hF]; exact q69, by rw [hF, h9 _ (by rw [q69]; decide)]; exact q70, by rw [hF]; exact q71, by rw [hF, h9 _ (by rw [q71]; decide)]; exact q72, by rw [hF]; exact q73, by rw [hF, h9 _ (by rw [q73]; decide)]; exact q74⟩
  · exact h
  · exact h
  · refine ⟨h.1, fun i hi => ?_⟩
    obtain ⟨q, h3, h4, h5⟩ := h.2 i hi
    exact ⟨q, h3, h4, by rw [h9 q (by rw [h4]; decide)]; exact h5⟩
  · first | exact h | (split <;> first | exact h | (exfalso; simp_all; done))
theorem SHP.vd {E : XE} {K : Nat → Nat} {F : Nat → Nat → Nat} {d c : Nat → Int32} {r : Nat → Option Nat} {l : Nat → Int64} {a k sb : Nat} {e : va_E} (hk : k ≠ 11) (h : SHP E K F d c r l a k e) : SHP (E.1, E.2.1, E.2.2.1, sb, E.2.2.2.2) K F d c r l a k e := by
  unfold SHP at h ⊢
  split at h
  all_goals first | exact h | exact absurd rfl hk | (split <;> first | exact h | (exfalso; simp_all; done))
theorem TLk.push {E : XE} {K : Nat → Nat} {F : Nat → Nat → Nat} {G : XG} {ws : va_W} {x : Nat × va_E} (h : TLk E K F G ws) : TLk E K F G (ws ++ [x]) := fun a ha => by
  obtain ⟨i, e, h1, h2⟩ := h a ha
  exact ⟨i, e, by rw [List.getElem?_append_left (List.getElem?_eq_some_iff.mp h1).1]; exact h1, h2⟩
theorem TLk.set {E : XE} {K : Nat → Nat} {F : Nat → Nat → Nat} {G : XG} {ws : va_W} {j a : Nat} {e e' : va_E} (h : TLk E K F G ws) (hj : ws[j]? = some (a, e)) (ha : K a = 0) : TLk E K F G (ws.set j (a, e')) := fun b hb => by
  obtain ⟨i, x, h1, h2⟩ := h b hb
  exact ⟨i, x, set_at hj h1 (fun q => hb (by rw [q]; exact ha)), h2⟩
theorem TX.push {E : XE} {K : Nat → Nat} {F : Nat → Nat → Nat} {G : XG} {L ws : va_W} {H1 : Heap} {q : Nat} {e : va_E} (hw : TLk E K F G ws) (hL : ∀ q ∈ L, K q.1 = 0 ∧ ∃ i : Nat, ws[i]? = some q) (hl : LD L) (hP : va_P E.1 vwCl (ws ++ [(q, e)]) H1) (hD : va_D (xA E) (ws ++ [(q, e)])) : TX E K F G ((q, e) :: L) H1 := by
  have up : ∀ (i : Nat) (x : Nat × va_E), ws[i]? = some x → (ws ++ [(q, e)])[i]? = some x := fun i x h => by rw [List.getElem?_append_left (List.getElem?_eq_some_iff.mp h).1]; exact h
  have here : (ws ++ [(q, e)])[ws.length]? = some (q, e) := by simp
  have ap : ∀ (i : Nat) (x : Nat × va_E), ws[i]? = some x → x.1 ≠ q := fun i x h z => by
    have hl := (List.getElem?_eq_some_iff.mp h).1
    have := hD.1 _ _ _ _ (up _ _ h) here z
    omega
  have hq : K q = 0 := by
    by_cases z : K q = 0
    · exact z
    · obtain ⟨i, x, h1, -⟩ := hw q z
      exact absurd rfl (ap _ _ h1)
  refine ⟨_, hw.push, ?_, hl.cons (fun x hx => ?_), hP, hD⟩
  · intro x hx
    rcases List.mem_cons.mp hx with h | h
    · subst h
      exact ⟨hq, _, here⟩
    · obtain ⟨h1, i, h2⟩ := hL x h
      exact ⟨h1, i, up _ _ h2⟩
  · obtain ⟨h1, i, h2⟩ := hL x hx
    exact ap _ _ h2
theorem TX.up {E : XE} {K : Nat → Nat} {F : Nat → Nat → Nat} {G : XG} {L ws : va_W} {H1 : Heap} {i j a : Nat} {e e' : va_E} (hw : TLk E K F G ws) (hL : ∀ q ∈ L, K q.1 = 0 ∧ ∃ i : Nat, ws[i]? = some q) (hl : LD L) (hi : L[i]? = some (a, e)) (hj : ws[j]? = some (a, e)) (hP : va_P E.1 vwCl (ws.set j (a, e')) H1) (hD : va_D (xA E) (ws.set j (a, e'))) : TX E K F G (L.set i (a, e')) H1 := by
  have ha := (hL _ (List.mem_of_getElem? hi)).1
  refine ⟨_, hw.set hj ha, ?_, hl.set hi, hP, hD⟩
  intro x hx
  obtain ⟨k, hk⟩ := List.mem_iff_getElem?.mp hx
  by_cases e9 : i = k
  · subst e9
    rw [List.getElem?_set_self (List.getElem?_eq_some_iff.mp hi).1] at hk
    cases hk
    exact ⟨ha, j, set_here hj⟩
  · rw [List.getElem?_set_ne e9] at hk
    obtain ⟨h1, z, h2⟩ := hL x (List.mem_of_getElem? hk)
    refine ⟨h1, z, set_at hj h2 ?_⟩
    intro q
    exact e9 (hl i k _ _ hi hk q.symm)
/-- a cell that is as its kind wants it -/
theorem TX.cl {E : XE} {K : Nat → Nat} {F : Nat → Nat → Nat} {G : XG} {L : va_W} {H : Heap} {a : Nat} {e : va_E} (h : TX E K F G ((a, e) :: L) H) (k : Nat) (fv : Nat → Nat) (d c : Nat → Int32) (r : Nat → Option Nat) (hk0 : k ≠ 0) (hs : ∀ (K1 : Nat → Nat) (F1 : Nat → Nat → Nat), KM K K1 → (∀ b, K b ≠ 0 → F1 b = F b) → F1 a = fv → SHP E K1 F1 d c r G.2.2.2 a k e) : ∃ (K1 : Nat → Nat) (F1 : Nat → Nat → Nat) (G1 : XG), GR K F G K1 F1 G1 ∧ K1 a = k ∧ F1 a = fv ∧ G1.1 a = d ∧ G1.2.1 a = c ∧ G1.2.2.1 a = r ∧ (k ≠ 11 → N11 K → N11 K1) ∧ TX E K1 F1 G1 L H := by
  obtain ⟨ws, hw, hL, hl, hP, hD⟩ := h
  obtain ⟨ha, i, hi⟩ := hL (a, e) List.mem_cons_self
  have ha : K a = 0 := ha
  have hM : KM K (va_up K a k) := KM.up ha
  have hx : ∀ b, b ≠ a → va_up K a k b = K b := fun b hb => va_up_ne _ _ hb
  have hf : ∀ b, K b ≠ 0 → upr F a fv b = F b := fun b hb => upr_ne (fun q => hb (by rw [q]; exact ha))
  refine ⟨va_up K a k, upr F a fv, (upr G.1 a d, upr G.2.1 a c, upr G.2.2.1 a r, G.2.2.2), ⟨hM, fun b hb => ?_, rfl⟩, va_up_self _ _ _, upr_at, upr_at, upr_at, upr_at, ?_, ws, ?_, ?_, hl.tl, hP, hD⟩
  · have hn : b ≠ a := fun q => hb (by rw [q]; exact ha)
    exact ⟨upr_ne hn, upr_ne hn, upr_ne hn, upr_ne hn⟩
  · intro h11 hN b hb
    by_cases e9 : b = a
    · subst e9
      rw [va_up_self] at hb
      exact h11 hb
    · rw [hx b e9] at hb
      exact hN b hb
  · intro b hb
    by_cases e9 : b = a
    · subst e9
      refine ⟨i, e, hi, ?_⟩
      show SHP E _ _ (upr G.1 b d b) (upr G.2.1 b c b) (upr G.2.2.1 b r b) G.2.2.2 b (va_up K b k b) e
      rw [va_up_self, upr_at, upr_at, upr_at]
      exact hs _ _ hM hf upr_at
    · rw [hx b e9] at hb ⊢
      obtain ⟨i2, e2, h1, h2⟩ := hw b hb
      refine ⟨i2, e2, h1, ?_⟩
      show SHP E _ _ (upr G.1 a d b) (upr G.2.1 a c b) (upr G.2.2.1 a r b) G.2.2.2 b (K b) e2
      rw [upr_ne e9, upr_ne e9, upr_ne e9]
      exact (h2.far (F1 := upr F a fv) (hf b hb) hf).mono hM
  · intro x hx9
    obtain ⟨h1, h2⟩ := hL x (List.mem_cons_of_mem _ hx9)
    refine ⟨?_, h2⟩
    rw [hx x.1 (hl.nx x hx9)]
    exact h1
/-- address, kind, number, class of its rows, length, what it holds -/
abbrev RSp : Type := Nat × Nat × Nat × Nat × Nat × (Nat → Int32)
def rcl (E : XE) (x : RSp) : Nat × va_E := (x.1, .inl (E.2.1 x.2.2.2.1, x.2.2.2.2.1, .inl x.2.2.2.2.2))
/-- rows, all at once -/
theorem TX.cls {E : XE} {L : va_W} {H : Heap} : ∀ (l : List RSp) {K : Nat → Nat} {F : Nat → Nat → Nat} {G : XG}, TX E K F G (l.map (rcl E) ++ L) H → (∀ x ∈ l, x.2.1 ≠ 0 ∧ x.2.1 ≠ 11 ∧ ∀ K1 F1 d r g, SHP E K1 F1 d x.2.2.2.2.2 r g x.1 x.2.1 (rcl E x).2) → ∃ (K1 : Nat → Nat) (F1 : Nat → Nat → Nat) (G1 : XG), GR K F G K1 F1 G1 ∧ (∀ x ∈ l, K1 x.1 = x.2.1 ∧ F1 x.1 99 = x.2.2.1 ∧ G1.2.1 x.1 = x.2.2.2.2.2) ∧ (N11 K → N11 K1) ∧ TX E K1 F1 G1 L H
  | [], K, F, G, h, _ => ⟨K, F, G, GR.rf, fun x hx => absurd hx List.not_mem_nil, id, h⟩
  | x :: l, K, F, G, h, hs => by
    obtain ⟨h0, h1, h2⟩ := hs x List.mem_cons_self
    obtain ⟨K1, F1, G1, g1, k1, f1, -, c1, -, n1, h3⟩ := TX.cl (a := x.1) (e := (rcl E x).2) (L := l.map (rcl E) ++ L) h x.2.1 (fun j => if j = 99 then x.2.2.1 else 0) (fun _ => 0) x.2.2.2.2.2 (fun _ => none) h0 (fun K1 F1 _ _ _ => h2 K1 F1 _ _ _)
    obtain ⟨K2, F2, G2, g2, a2, n2, h4⟩ := TX.cls l h3 (fun y hy => hs y (List.mem_cons_of_mem _ hy))
    refine ⟨K2, F2, G2, g1.tr g2, fun y hy => ?_, fun hN => n2 (n1 h1 hN), h4⟩
    rcases List.mem_cons.mp hy with e | hy
    · subst e
      obtain ⟨b1, -, b3, -⟩ := g2.at k1 h0
      exact ⟨g2.k k1 h0, by rw [b1, f1]; exact if_pos rfl, b3.trans c1⟩
    · exact a2 y hy
theorem TX.sw {E : XE} {K : Nat → Nat} {F : Nat → Nat → Nat} {G : XG} {L : va_W} {H : Heap} {x y : Nat × va_E} (h : TX E K F G (x :: y :: L) H) : TX E K F G (y :: x :: L) H := by
  obtain ⟨ws, hw, hL, hl, hP, hD⟩ := h
  refine ⟨ws, hw, ?_, ?_, hP, hD⟩
  · intro q hq
    rcases List.mem_cons.mp hq with e | hq
    · exact hL q (by rw [e]; exact List.mem_cons_of_mem _ List.mem_cons_self)
    · rcases List.mem_cons.mp hq with e | hq
      · exact hL q (by rw [e]; exact List.mem_cons_self)
      · exact hL q (List.mem_cons_of_mem _ (List.mem_cons_of_mem _ hq))
  · refine (hl.tl.tl.cons (fun q hq => hl.nx q (List.mem_cons_of_mem _ hq))).cons (fun q hq => ?_)
    rcases List.mem_cons.mp hq with e | hq
    · subst e
      exact fun z => hl.nx y List.mem_cons_self z.symm
    · exact hl.tl.nx q hq
theorem TX.rot {E : XE} {K : Nat → Nat} {F : Nat → Nat → Nat} {G : XG} {L : va_W} {H : Heap} {x y z : Nat × va_E} (h : TX E K F G (x :: y :: z :: L) H) : TX E K F G (z :: x :: y :: L) H := by
  obtain ⟨ws, hw, hL, hl, hP, hD⟩ := h
  refine ⟨ws, hw, ?_, ?_, hP, hD⟩
  · intro q hq
    refine hL q ?_
    rcases List.mem_cons.mp hq with e | hq
    · rw [e]; exact List.mem_cons_of_mem _ (List.mem_cons_of_mem _ List.mem_cons_self)
    · rcases List.mem_cons.mp hq with e | hq
      · rw [e]; exact List.mem_cons_self
      · rcases List.mem_cons.mp hq with e | hq
        · rw [e]; exact List.mem_cons_of_mem _ List.mem_cons_self
        · exact List.mem_cons_of_mem _ (List.mem_cons_of_mem _ (List.mem_cons_of_mem _ hq))
  · have h1 := hl.tl.tl.tl.cons (x := y) (fun q hq => hl.tl.nx q (List.mem_cons_of_mem _ hq))
    have h2 := h1.cons (x := x) (fun q hq => by
      rcases List.mem_cons.mp hq with e | hq
      · rw [e]; exact hl.nx y List.mem_cons_self
      · exact hl.nx q (List.mem_cons_of_mem _ (List.mem_cons_of_mem _ hq)))
    refine h2.cons (fun q hq => ?_)
    rcases List.mem_cons.mp hq with e | hq
    · rw [e]; exact fun t => hl.nx z (List.mem_cons_of_mem _ List.mem_cons_self) t.symm
    · rcases List.mem_cons.mp hq with e | hq
      · rw [e]; exact fun t => hl.tl.nx z List.mem_cons_self t.symm
      · exact hl.tl.tl.nx q hq
theorem TX.vd {E : XE} {K : Nat → Nat} {F : Nat → Nat → Nat} {G : XG} {L : va_W} {H : Heap} (sb : Nat) (hk : N11 K) (h : TX E K F G L H) : TX (E.1, E.2.1, E.2.2.1, sb, E.2.2.2.2) K F G L H := by
  obtain ⟨ws, hw, hL, hl, hP, hD⟩ := h
  refine ⟨ws, fun b hb => ?_, hL, hl, hP, hD⟩
  obtain ⟨i, e, h1, h2⟩ := hw b hb
  exact ⟨i, e, h1, h2.vd (hk b)⟩
theorem TX.TW {E : XE} {K : Nat → Nat} {F : Nat → Nat → Nat} {G : XG} {L : va_W} {H : Heap} {v : Nat} (h : TX E K F G ((E.2.2.2.1, .inr (0, [.ref v, .int 0, .int 0, .int 0])) :: (v, .inl (E.2.1 2, 16, .inl (fun _ => 0))) :: L) H) : TW E K F G H := by
  obtain ⟨ws, hw, hL, hl, hP, hD⟩ := h
  obtain ⟨a1, i, a2⟩ := hL _ List.mem_cons_self
  obtain ⟨b1, j, b2⟩ := hL _ (List.mem_cons_of_mem _ List.mem_cons_self)
  exact ⟨ws, ⟨hw, i, j, v, 16, _, 0, 0, a2, b2, a1, b1, fun _ => rfl, by decide, by decide, by decide⟩, hP, hD⟩
def XPx (E : XE) (K : Nat → Nat) (F : Nat → Nat → Nat) (G : XG) (L : va_W) (U : State) : Prop := E.2.2.1 ≤ U.heap.size ∧ (XK E U ∧ va_AO "LateRules$Rule" U ∧ va_AO "LateRules$Rows" U) ∧ TX E K F G L U.heap
theorem XPx.at {E : XE} {K : Nat → Nat} {F : Nat → Nat → Nat} {G : XG} {L : va_W} {s U : State} {locs : List Loc} {H : Heap} (hK : XK E s) (hA : va_AO "LateRules$Rule" s ∧ va_AO "LateRules$Rows" s) (hz : E.2.2.1 ≤ s.heap.size) (hS : va_S (xA E) s.heap H locs) (hT : TX E K F G L H) (hU : U.heap = H) (hW : s.WarmedH U.vm) : XPx E K F G L U :=
  ⟨by rw [hU]; exact Nat.le_trans hz hS.1, ⟨hK.at hS hU hW, va_AO.moved hW.alike hA.1, va_AO.moved hW.alike hA.2⟩, by rw [hU]; exact hT⟩
theorem XPx.blind {E : XE} {K : Nat → Nat} {F : Nat → Nat → Nat} {G : XG} {L : va_W} {av : List Value} : FrameBlind (va_Pc av (XPx E K F G L)) := fun a U g mk h => ⟨h.1, h.2.1, ⟨h.2.2.1.1.same (u := U) rfl rfl, va_AO.moved (u := U) (Vm.Alike.refl U.vm) h.2.2.1.2.1, va_AO.moved (u := U) (Vm.Alike.refl U.vm) h.2.2.1.2.2⟩, h.2.2.2⟩
section XT
variable {p : Program} {l : Launch} {e : Env} {R : Room} {s : State} {m : MethodId} {args : Array Value} {below : List Frame} {meth : Method} {c : Code} {H : Heap} {locs : List Loc} {cells slots : Nat} {Q : State → Prop}
variable {pc : Nat} {ls : Array Slot} {rest : List Value} {H0 : Heap} {E : XE} {cc : ByteArray} {nL : Nat} {own : String} {w0 : Cond} {K : Nat → Nat} {F : Nat → Nat → Nat} {G : XG} {L : va_W} {a idx : Nat} {C : String} {T : u_T} {N ci : Nat} {fs : List Value}
theorem tx_new (S : CallFix p m c cc nL s args (w0 :: GT) own) (hK : XK E s) (hz : E.2.2.1 ≤ s.heap.size) (hT : TX E K F G L H) (hS : va_S (xA E) s.heap H locs) (hin : ∀ w ∈ u_ws C T N, w ∈ GT) (ty : Nat → FieldType) (hty : ∀ k, k < N → parseFieldDescriptor (T k).2.2.1 = some (ty k)) (hl : Cond.classLink own idx C ∈ GT) (hin1 : Cond.instantiable C N ∈ GT) (hin2 : Cond.initialized C ∈ GT) (hc9 : vwCl[ci]? = some (C, T, N)) (hfs : ∀ j, j < N → defaultValue (ty j) = vp_V fs j) (hc : cells + 1 ≤ R.cells) (hs : slots + N ≤ R.slots) (hdg : decode cc pc = .ok (.new idx, 3)) (kk : ∀ (q : Nat) (H1 : Heap), TX E K F G ((q, .inr (ci, fs)) :: L) H1 → va_S (xA E) s.heap H1 locs → W p l e R s m args below meth c H1 locs (cells + 1) (slots + N) Q (F0 m (pc + 3) ls (.ref q :: rest))) : W p l e R s m args below meth c H locs cells slots Q (F0 m pc ls rest) := by
  obtain ⟨ws, hw, hL, hl9, hP, hD⟩ := hT
  exact va_new (D := E.1) (ci := ci) (fs := fs) S.1 S.2.1 S.2.2.2.2 (fun w h => List.mem_cons_of_mem _ (hin w h)) ty hty S.2.2.2.1 (S.2.2.2.2 _ (List.mem_cons_of_mem _ hl)) (S.2.2.2.2 _ (List.mem_cons_of_mem _ hin1)) (S.2.2.2.2 _ (List.mem_cons_of_mem _ hin2)) hK.1 hP hD hS (fun q h => Nat.le_trans hz h) hc9 hfs hc hs hdg (fun q H1 hP1 hD1 hS1 => kk q H1 (TX.push hw hL hl9 hP1 hD1) hS1)
theorem tx_get (S : CallFix p m c cc nL s args (w0 :: GT) own) (hK : XK E s) (hT : TX E K F G L H) (hin : ∀ w ∈ u_ws C T N, w ∈ GT) (i : Nat) (hi : L[i]? = some (a, .inr (ci, fs))) (hc9 : vwCl[ci]? = some (C, T, N)) (k : Nat) (hk : k < N) (hl : Cond.fieldLink own idx (T k).1 (T k).2.1 (T k).2.2.1 ∈ GT) {v : Value} (hv : fs[k]? = some v) (hdg : decode cc pc = .ok (.getfield idx, 3)) (kk : W p l e R s m args below meth c H locs cells slots Q (F0 m (pc + 3) ls (v :: rest))) : W p l e R s m args below meth c H locs cells slots Q (F0 m pc ls (.ref a :: rest)) := by
  obtain ⟨ws, hw, hL, hl9, hP, hD⟩ := hT
  obtain ⟨-, j, hj⟩ := hL _ (List.mem_of_getElem? hi)
  exact va_get (D := E.1) S.1 S.2.1 S.2.2.2.2 (fun w h => List.mem_cons_of_mem _ (hin w h)) S.2.2.2.1 hK.1 hP j hj hc9 k hk (S.2.2.2.2 _ (List.mem_cons_of_mem _ hl)) (fun _ h => h) hv hdg kk
theorem tx_put (S : CallFix p m c cc nL s args (w0 :: GT) own) (hK : XK E s) (hT : TX E K F G L H) (hS : va_S (xA E) H0 H locs) (hin : ∀ w ∈ u_ws C T N, w ∈ GT) (ty0 : Nat → FieldType) (hty : ∀ k, k < N → parseFieldDescriptor (T k).2.2.1 = some (ty0 k)) (hnm : ∀ a, a < N → ∀ b, b < N → a ≠ b → (T a).2.1 ≠ (T b).2.1) (i : Nat) (hi : L[i]? = some (a, .inr (ci, fs))) (hc9 : vwCl[ci]? = some (C, T, N)) (k : Nat) (hk : k < N) (hl : Cond.fieldLink own idx (T k).1 (T k).2.1 (T k).2.2.1 ∈ GT) (hfin : (T k).2.2.2 = false) {ty : FieldType} {v : Value} (hd : parseFieldDescriptor (T k).2.2.1 = some ty) (hn : narrow ty v = v) (hfit : fits ty v = true) (hlen : k < fs.length) (hdg : decode cc pc = .ok (.putfield idx, 3)) (kk : ∀ (H1 : Heap) (locs1 : List Loc), TX E K F G (L.set i (a, .inr (ci, fs.set k v))) H1 → va_S (xA E) H0 H1 locs1 → W p l e R s m args below meth c H1 locs1 cells slots Q (F0 m (pc + 3) ls rest)) : W p l e R s m args below meth c H locs cells slots Q (F0 m pc ls (v :: .ref a :: rest)) := by
  obtain ⟨ws, hw, hL, hl9, hP, hD⟩ := hT
  obtain ⟨-, j, hj⟩ := hL _ (List.mem_of_getElem? hi)
  exact va_put (D := E.1) S.1 S.2.1 S.2.2.2.2 (fun w h => List.mem_cons_of_mem _ (hin w h)) ty0 hty hnm S.2.2.2.1 hK.1 hP hD hS j hj hc9 k hk (S.2.2.2.2 _ (List.mem_cons_of_mem _ hl)) (fun _ h => h) hfin hd hn hfit hlen hdg (fun H1 locs1 hP1 hD1 hS1 => kk H1 locs1 (TX.up hw hL hl9 hi hj hP1 hD1) hS1)
theorem tx_putF (S : CallFix p m c cc nL s args (w0 :: GT) own) (hK : XK E s) (hT : TX E K F G L H) (hS : va_S (xA E) H0 H locs) (hin : ∀ w ∈ u_ws C T N, w ∈ GT) (ty0 : Nat → FieldType) (hty : ∀ k, k < N → parseFieldDescriptor (T k).2.2.1 = some (ty0 k)) (hnm : ∀ a, a < N → ∀ b, b < N → a ≠ b → (T a).2.1 ≠ (T b).2.1) (i : Nat) (hi : L[i]? = some (a, .inr (ci, fs))) (hc9 : vwCl[ci]? = some (C, T, N)) (k : Nat) (hk : k < N) (hl : Cond.fieldLink own idx (T k).1 (T k).2.1 (T k).2.2.1 ∈ GT) (hfin : (T k).2.2.2 = true) (hn1 : meth.name = "<init>") (hn2 : (T k).1 = own) {ty : FieldType} {v : Value} (hd : parseFieldDescriptor (T k).2.2.1 = some ty) (hn : narrow ty v = v) (hfit : fits ty v = true) (hlen : k < fs.length) (hdg : decode cc pc = .ok (.putfield idx, 3)) (kk : ∀ (H1 : Heap) (locs1 : List Loc), TX E K F G (L.set i (a, .inr (ci, fs.set k v))) H1 → va_S (xA E) H0 H1 locs1 → W p l e R s m args below meth c H1 locs1 cells slots Q (F0 m (pc + 3) ls rest)) : W p l e R s m args below meth c H locs cells slots Q (F0 m pc ls (v :: .ref a :: rest)) := by
  obtain ⟨ws, hw, hL, hl9, hP, hD⟩ := hT
  obtain ⟨-, j, hj⟩ := hL _ (List.mem_of_getElem? hi)
  exact va_putF (D := E.1) S.1 S.2.1 S.2.2.2.2 (fun w h => List.mem_cons_of_mem _ (hin w h)) ty0 hty hnm S.2.2.2.1 hK.1 hP hD hS j hj hc9 k hk (S.2.2.2.2 _ (List.mem_cons_of_mem _ hl)) (fun _ h => h) hfin hn1 hn2 hd hn hfit hlen hdg (fun H1 locs1 hP1 hD1 hS1 => kk H1 locs1 (TX.up hw hL hl9 hi hj hP1 hD1) hS1)
theorem tx_na0 (S : CallFix p m c cc nL s args (w0 :: GT) own) (hK : XK E s) (hz : E.2.2.1 ≤ s.heap.size) (hT : TX E K F G L H) (hS : va_S (xA E) s.heap H locs) {x : Int32} {N : Nat} (hx : ¬ x < 0) (hN : x.toNatClampNeg = N) (hb9 : N ≤ 3000) (hc : cells + 1 ≤ R.cells) (hs : slots + N ≤ R.slots) (hdg : decode cc pc = .ok (.newarray .int, 2)) (kk : ∀ (q : Nat) (H1 : Heap), TX E K F G ((q, .inl (E.2.1 0, N, .inl (fun _ => 0))) :: L) H1 → va_S (xA E) s.heap H1 locs → W p l e R s m args below meth c H1 locs (cells + 1) (slots + N) Q (F0 m (pc + 2) ls (.ref q :: rest))) : W p l e R s m args below meth c H locs cells slots Q (F0 m pc ls (.int x :: rest)) := by
  obtain ⟨ws, hw, hL, hl9, hP, hD⟩ := hT
  refine va_newa (atype := .int) (ty := .int) (N' := N) (a0 := (N, .inl (fun _ => 0))) S.1 S.2.1 (S.2.2.2.2 _ (List.mem_cons_of_mem _ ka_int)) rfl hK.1 hP hD hS (fun q h => Nat.le_trans hz h) (fun cA => ?_) hx hN (by show N * 4 ≤ _; omega) hc hs hdg (fun q cA H1 hK1 hP1 hD1 hS1 => ?_)
  · first | rfl | (rw [vp_cell_i]; rfl) | (rw [vp_cell_l]; rfl)
  · have hq : cA = E.2.1 0 := by
      have h1 := (hK1.2 7 (cA, .int) rfl).2
      have h2 := (hK.1.2 0 (E.2.1 0, .int) rfl).2
      exact Option.some.inj (h1.symm.trans h2)
    subst hq
    exact kk q H1 (TX.push hw hL hl9 hP1 hD1) hS1
theorem tx_na1 (S : CallFix p m c cc nL s args (w0 :: GT) own) (hK : XK E s) (hz : E.2.2.1 ≤ s.heap.size) (hT : TX E K F G L H) (hS : va_S (xA E) s.heap H locs) {x : Int32} {N : Nat} (hx : ¬ x < 0) (hN : x.toNatClampNeg = N) (hb9 : N ≤ 3000) (hc : cells + 1 ≤ R.cells) (hs : slots + N ≤ R.slots) (hdg : decode cc pc = .ok (.newarray .char, 2)) (kk : ∀ (q : Nat) (H1 : Heap), TX E K F G ((q, .inl (E.2.1 1, N, .inl (fun _ => 0))) :: L) H1 → va_S (xA E) s.heap H1 locs → W p l e R s m args below meth c H1 locs (cells + 1) (slots + N) Q (F0 m (pc + 2) ls (.ref q :: rest))) : W p l e R s m args below meth c H locs cells slots Q (F0 m pc ls (.int x :: rest)) := by
  obtain ⟨ws, hw, hL, hl9, hP, hD⟩ := hT
  refine va_newa (atype := .char) (ty := .char) (N' := N) (a0 := (N, .inl (fun _ => 0))) S.1 S.2.1 (S.2.2.2.2 _ (List.mem_cons_of_mem _ ka_char)) rfl hK.1 hP hD hS (fun q h => Nat.le_trans hz h) (fun cA => ?_) hx hN (by show N * 2 ≤ _; omega) hc hs hdg (fun q cA H1 hK1 hP1 hD1 hS1 => ?_)
  · first | rfl | (rw [vp_cell_i]; rfl) | (rw [vp_cell_l]; rfl)
  · have hq : cA = E.2.1 1 := by
      have h1 := (hK1.2 7 (cA, .char) rfl).2
      have h2 := (hK.1.2 1 (E.2.1 1, .char) rfl).2
      exact Option.some.inj (h1.symm.trans h2)
    subst hq
    exact kk q H1 (TX.push hw hL hl9 hP1 hD1) hS1
theorem tx_na2 (S : CallFix p m c cc nL s args (w0 :: GT) own) (hK : XK E s) (hz : E.2.2.1 ≤ s.heap.size) (hT : TX E K F G L H) (hS : va_S (xA E) s.heap H locs) {x : Int32} {N : Nat} (hx : ¬ x < 0) (hN : x.toNatClampNeg = N) (hb9 : N ≤ 3000) (hc : cells + 1 ≤ R.cells) (hs : slots + N ≤ R.slots) (hdg : decode cc pc = .ok (.newarray .byte, 2)) (kk : ∀ (q : Nat) (H1 : Heap), TX E K F G ((q, .inl (E.2.1 2, N, .inl (fun _ => 0))) :: L) H1 → va_S (xA E) s.heap H1 locs → W p l e R s m args below meth c H1 locs (cells + 1) (slots + N) Q (F0 m (pc + 2) ls (.ref q :: rest))) : W p l e R s m args below meth c H locs cells slots Q (F0 m pc ls (.int x :: rest)) := by
  obtain ⟨ws, hw, hL, hl9, hP, hD⟩ := hT
  refine va_newa (atype := .byte) (ty := .byte) (N' := N) (a0 := (N, .inl (fun _ => 0))) S.1 S.2.1 (S.2.2.2.2 _ (List.mem_cons_of_mem _ ka_byte)) rfl hK.1 hP hD hS (fun q h => Nat.le_trans hz h) (fun cA => ?_) hx hN (by show N * 1 ≤ _; omega) hc hs hdg (fun q cA H1 hK1 hP1 hD1 hS1 => ?_)
  · first | rfl | (rw [vp_cell_i]; rfl) | (rw [vp_cell_l]; rfl)
  · have hq : cA = E.2.1 2 := by
      have h1 := (hK1.2 7 (cA, .byte) rfl).2
      have h2 := (hK.1.2 2 (E.2.1 2, .byte) rfl).2
      exact Option.some.inj (h1.symm.trans h2)
    subst hq
    exact kk q H1 (TX.push hw hL hl9 hP1 hD1) hS1
theorem tx_na3 (S : CallFix p m c cc nL s args (w0 :: GT) own) (hK : XK E s) (hz : E.2.2.1 ≤ s.heap.size) (hT : TX E K F G L H) (hS : va_S (xA E) s.heap H locs) {x : Int32} {N : Nat} (hx : ¬ x < 0) (hN : x.toNatClampNeg = N) (hb9 : N ≤ 3000) (hc : cells + 1 ≤ R.cells) (hs : slots + N ≤ R.slots) (hdg : decode cc pc = .ok (.newarray .boolean, 2)) (kk : ∀ (q : Nat) (H1 : Heap), TX E K F G ((q, .inl (E.2.1 3, N, .inl (fun _ => 0))) :: L) H1 → va_S (xA E) s.heap H1 locs → W p l e R s m args below meth c H1 locs (cells + 1) (slots + N) Q (F0 m (pc + 2) ls (.ref q :: rest))) : W p l e R s m args below meth c H locs cells slots Q (F0 m pc ls (.int x :: rest)) := by
  obtain ⟨ws, hw, hL, hl9, hP, hD⟩ := hT
  refine va_newa (atype := .boolean) (ty := .boolean) (N' := N) (a0 := (N, .inl (fun _ => 0))) S.1 S.2.1 (S.2.2.2.2 _ (List.mem_cons_of_mem _ ka_boolean)) rfl hK.1 hP hD hS (fun q h => Nat.le_trans hz h) (fun cA => ?_) hx hN (by show N * 1 ≤ _; omega) hc hs hdg (fun q cA H1 hK1 hP1 hD1 hS1 => ?_)
  · first | rfl | (rw [vp_cell_i]; rfl) | (rw [vp_cell_l]; rfl)
  · have hq : cA = E.2.1 3 := by
      have h1 := (hK1.2 7 (cA, .boolean) rfl).2
      have h2 := (hK.1.2 3 (E.2.1 3, .boolean) rfl).2
      exact Option.some.inj (h1.symm.trans h2)
    subst hq
    exact kk q H1 (TX.push hw hL hl9 hP1 hD1) hS1
theorem tx_na6 (S : CallFix p m c cc nL s args (w0 :: GT) own) (hK : XK E s) (hz : E.2.2.1 ≤ s.heap.size) (hT : TX E K F G L H) (hS : va_S (xA E) s.heap H locs) {x : Int32} {N : Nat} (hx : ¬ x < 0) (hN : x.toNatClampNeg = N) (hb9 : N ≤ 3000) (hc : cells + 1 ≤ R.cells) (hs : slots + N ≤ R.slots) (hdg : decode cc pc = .ok (.newarray .long, 2)) (kk : ∀ (q : Nat) (H1 : Heap), TX E K F G ((q, .inl (E.2.1 6, N, .inr (.inl (fun _ => 0)))) :: L) H1 → va_S (xA E) s.heap H1 locs → W p l e R s m args below meth c H1 locs (cells + 1) (slots + N) Q (F0 m (pc + 2) ls (.ref q :: rest))) : W p l e R s m args below meth c H locs cells slots Q (F0 m pc ls (.int x :: rest)) := by
  obtain ⟨ws, hw, hL, hl9, hP, hD⟩ := hT
  refine va_newa (atype := .long) (ty := .long) (N' := N) (a0 := (N, .inr (.inl (fun _ => 0)))) S.1 S.2.1 (S.2.2.2.2 _ (List.mem_cons_of_mem _ ka_long)) rfl hK.1 hP hD hS (fun q h => Nat.le_trans hz h) (fun cA => ?_) hx hN (by show N * 8 ≤ _; omega) hc hs hdg (fun q cA H1 hK1 hP1 hD1 hS1 => ?_)
  · first | rfl | (rw [vp_cell_i]; rfl) | (rw [vp_cell_l]; rfl)
  · have hq : cA = E.2.1 6 := by
      have h1 := (hK1.2 7 (cA, .long) rfl).2
      have h2 := (hK.1.2 6 (E.2.1 6, .long) rfl).2
      exact Option.some.inj (h1.symm.trans h2)
    subst hq
    exact kk q H1 (TX.push hw hL hl9 hP1 hD1) hS1
theorem tx_nq4 (S : CallFix p m c cc nL s args (w0 :: GT) own) (hK : XK E s) (hA : va_AO "LateRules$Rule" s) (hz : E.2.2.1 ≤ s.heap.size) (hT : TX E K F G L H) (hS : va_S (xA E) s.heap H locs) (hl : Cond.classLink own idx "LateRules$Rule" ∈ GT) {x : Int32} {N : Nat} (hx : ¬ x < 0) (hN : x.toNatClampNeg = N) (hb9 : N ≤ 3000) (hc : cells + 1 ≤ R.cells) (hs : slots + N ≤ R.slots) (hdg : decode cc pc = .ok (.anewarray idx, 3)) (kk : ∀ (q : Nat) (H1 : Heap), TX E K F G ((q, .inl (E.2.1 4, N, .inr (.inr (.inr (.inr (fun _ => none)))))) :: L) H1 → va_S (xA E) s.heap H1 locs → W p l e R s m args below meth c H1 locs (cells + 1) (slots + N) Q (F0 m (pc + 3) ls (.ref q :: rest))) : W p l e R s m args below meth c H locs cells slots Q (F0 m pc ls (.int x :: rest)) := by
  obtain ⟨ws, hw, hL, hl9, hP, hD⟩ := hT
  refine va_newq (C := "LateRules$Rule") (N' := N) S.1 S.2.1 S.2.2.2.1 (S.2.2.2.2 _ (List.mem_cons_of_mem _ hl)) hA hK.1 hP hD hS (fun q h => Nat.le_trans hz h) hx hN (by omega) hc hs hdg (fun q cA H1 hK1 hP1 hD1 hS1 => ?_)
  have hq : cA = E.2.1 4 := by
    obtain ⟨_, _, _, _, _, h1⟩ := (hK1.2 7 (cA, .object "LateRules$Rule") rfl).2
    obtain ⟨_, _, _, _, _, h2⟩ := (hK.1.2 4 (E.2.1 4, .object "LateRules$Rule") rfl).2
    exact Option.some.inj (h1.symm.trans h2)
  subst hq
  exact kk q H1 (TX.push hw hL hl9 hP1 hD1) hS1
theorem tx_nq5 (S : CallFix p m c cc nL s args (w0 :: GT) own) (hK : XK E s) (hA : va_AO "LateRules$Rows" s) (hz : E.2.2.1 ≤ s.heap.size) (hT : TX E K F G L H) (hS : va_S (xA E) s.heap H locs) (hl : Cond.classLink own idx "LateRules$Rows" ∈ GT) {x : Int32} {N : Nat} (hx : ¬ x < 0) (hN : x.toNatClampNeg = N) (hb9 : N ≤ 3000) (hc : cells + 1 ≤ R.cells) (hs : slots + N ≤ R.slots) (hdg : decode cc pc = .ok (.anewarray idx, 3)) (kk : ∀ (q : Nat) (H1 : Heap), TX E K F G ((q, .inl (E.2.1 5, N, .inr (.inr (.inr (.inr (fun _ => none)))))) :: L) H1 → va_S (xA E) s.heap H1 locs → W p l e R s m args below meth c H1 locs (cells + 1) (slots + N) Q (F0 m (pc + 3) ls (.ref q :: rest))) : W p l e R s m args below meth c H locs cells slots Q (F0 m pc ls (.int x :: rest)) := by
  obtain ⟨ws, hw, hL, hl9, hP, hD⟩ := hT
  refine va_newq (C := "LateRules$Rows") (N' := N) S.1 S.2.1 S.2.2.2.1 (S.2.2.2.2 _ (List.mem_cons_of_mem _ hl)) hA hK.1 hP hD hS (fun q h => Nat.le_trans hz h) hx hN (by omega) hc hs hdg (fun q cA H1 hK1 hP1 hD1 hS1 => ?_)
  have hq : cA = E.2.1 5 := by
    obtain ⟨_, _, _, _, _, h1⟩ := (hK1.2 7 (cA, .object "LateRules$Rows") rfl).2
    obtain ⟨_, _, _, _, _, h2⟩ := (hK.1.2 5 (E.2.1 5, .object "LateRules$Rows") rfl).2
    exact Option.some.inj (h1.symm.trans h2)
  subst hq
  exact kk q H1 (TX.push hw hL hl9 hP1 hD1) hS1
theorem tx_ls0 (S : CallFix p m c cc nL s args (w0 :: GT) own) (hK : XK E s) (hT : TX E K F G L H) (hS : va_S (xA E) H0 H locs) (i : Nat) {n : Nat} {f : Nat → Int32} (hi : L[i]? = some (a, .inl (E.2.1 0, n, .inl f))) {z x : Int32} (hin : 0 ≤ z.toInt ∧ z.toInt < n) (hdg : decode cc pc = .ok (.iastore, 1)) (kk : ∀ (H1 : Heap) (locs1 : List Loc), TX E K F G (L.set i (a, .inl (E.2.1 0, n, .inl (upd f z.toNatClampNeg x)))) H1 → va_S (xA E) H0 H1 locs1 → W p l e R s m args below meth c H1 locs1 cells slots Q (F0 m (pc + 1) ls rest)) : W p l e R s m args below meth c H locs cells slots Q (F0 m pc ls (.int x :: .int z :: .ref a :: rest)) := by
  obtain ⟨ws, hw, hL, hl9, hP, hD⟩ := hT
  obtain ⟨-, j, hj⟩ := hL _ (List.mem_of_getElem? hi)
  exact va_iast S.1 S.2.1 hK.1 hP hD hS j 0 hj rfl (vp_in_iff.mpr hin) hdg (fun H1 locs1 hP1 hD1 hS1 => kk H1 locs1 (TX.up hw hL hl9 hi hj hP1 hD1) hS1)
theorem tx_ls1 (S : CallFix p m c cc nL s args (w0 :: GT) own) (hK : XK E s) (hT : TX E K F G L H) (hS : va_S (xA E) H0 H locs) (i : Nat) {n : Nat} {f : Nat → Int32} (hi : L[i]? = some (a, .inl (E.2.1 1, n, .inl f))) {z x : Int32} (hin : 0 ≤ z.toInt ∧ z.toInt < n) (hdg : decode cc pc = .ok (.castore, 1)) (kk : ∀ (H1 : Heap) (locs1 : List Loc), TX E K F G (L.set i (a, .inl (E.2.1 1, n, .inl (upd f z.toNatClampNeg (vp_nar .char x))))) H1 → va_S (xA E) H0 H1 locs1 → W p l e R s m args below meth c H1 locs1 cells slots Q (F0 m (pc + 1) ls rest)) : W p l e R s m args below meth c H locs cells slots Q (F0 m pc ls (.int x :: .int z :: .ref a :: rest)) := by
  obtain ⟨ws, hw, hL, hl9, hP, hD⟩ := hT
  obtain ⟨-, j, hj⟩ := hL _ (List.mem_of_getElem? hi)
  exact va_cast S.1 S.2.1 hK.1 hP hD hS j 1 hj rfl (vp_in_iff.mpr hin) hdg (fun H1 locs1 hP1 hD1 hS1 => kk H1 locs1 (TX.up hw hL hl9 hi hj hP1 hD1) hS1)
theorem tx_ll0 (S : CallFix p m c cc nL s args (w0 :: GT) own) (hK : XK E s) (hT : TX E K F G L H) (i : Nat) {n : Nat} {f : Nat → Int32} (hi : L[i]? = some (a, .inl (E.2.1 0, n, .inl f))) (hdg : decode cc pc = .ok (.arraylength, 1)) (kk : W p l e R s m args below meth c H locs cells slots Q (F0 m (pc + 1) ls (.int (Int32.ofNat n) :: rest))) : W p l e R s m args below meth c H locs cells slots Q (F0 m pc ls (.ref a :: rest)) := by
  obtain ⟨ws, hw, hL, hl9, hP, hD⟩ := hT
  obtain ⟨-, j, hj⟩ := hL _ (List.mem_of_getElem? hi)
  exact va_alen S.1 S.2.1 hK.1 hP j 0 hj rfl rfl hdg kk
theorem tx_asq (S : CallFix p m c cc nL s args (w0 :: GT) own) (hK : XK E s) (hT : TX E K F G L H) (hS : va_S (xA E) H0 H locs) (i : Nat) {f : Nat → Option Nat} (hi : L[i]? = some (a, .inl (E.2.1 5, 8, .inr (.inr (.inr (.inr f)))))) {r : Nat} (hr : K r = 8) {x : Int32} (hin : 0 ≤ x.toInt ∧ x.toInt < 8) (hdg : decode cc pc = .ok (.aastore, 1)) (kk : ∀ (H1 : Heap) (locs1 : List Loc), TX E K F G (L.set i (a, .inl (E.2.1 5, 8, .inr (.inr (.inr (.inr (va_up f x.toNatClampNeg (some r)))))))) H1 → va_S (xA E) H0 H1 locs1 → W p l e R s m args below meth c H1 locs1 cells slots Q (F0 m (pc + 1) ls rest)) : W p l e R s m args below meth c H locs cells slots Q (F0 m pc ls (.ref r :: .int x :: .ref a :: rest)) := by
  obtain ⟨ws, hw, hL, hl9, hP, hD⟩ := hT
  obtain ⟨-, j, hj⟩ := hL _ (List.mem_of_getElem? hi)
  obtain ⟨i8, e8, he8, hs8⟩ := hw r (by rw [hr]; decide)
  rw [hr] at hs8
  obtain ⟨rfl, -⟩ := hs8
  exact va_astq (r := (RX6, TX6, 2)) S.1 S.2.1 hK.1 hP hD hS j 5 i8 7 hj rfl he8 rfl (vp_in_iff.mpr hin) hdg (fun H1 locs1 hP1 hD1 hS1 => kk H1 locs1 (TX.up hw hL hl9 hi hj hP1 hD1) hS1)
end XT
/-- no rows -/
def v0 : Int → Int := fun z => if 0 ≤ z ∧ z < 270 then -2000 else 0
def fvx (J : Nat) (l : List Nat) : Nat → Nat := fun j => if j = 99 then J else l.getD j 0
def KNo (k J : Nat) (K : Nat → Nat) (F : Nat → Nat → Nat) (q : Nat) : Prop := K q = k ∧ F q 99 = J
def OBz (k J : Nat) (K : Nat → Nat) (F : Nat → Nat → Nat) (G : XG) (q : Nat) : Prop := K q = k ∧ F q 99 = J ∧ G.1 q = fun _ => 0
def RDz (K : Nat → Nat) (F : Nat → Nat → Nat) (q t : Nat) : Prop := K q = 7 ∧ F q 99 = 0 ∧ F q 0 = t
def BKz (K : Nat → Nat) (F : Nat → Nat → Nat) (G : XG) (q : Nat) : Prop := K q = 2 ∧ F q 99 = 0 ∧ (G.1 q = fun _ => 0) ∧ K (F q 0) = 15 ∧ (G.2.2.1 (F q 0) = fun _ => none) ∧ K (F q 1) = 15 ∧ (G.2.2.1 (F q 1) = fun _ => none)
def RWz (J : Nat) (K : Nat → Nat) (F : Nat → Nat → Nat) (G : XG) (q : Nat) : Prop := K q = 8 ∧ F q 99 = J ∧ K (F q 0) = 20 ∧ vw (G.2.1 (F q 0)) = v0 ∧ K (F q 1) = 21 ∧ (G.2.1 (F q 1) = fun _ => 0)
section GRz
variable {K K1 : Nat → Nat} {F F1 : Nat → Nat → Nat} {G G1 : XG} {k J q t : Nat}
theorem KNo.gr (g : GR K F G K1 F1 G1) (h0 : k ≠ 0) (h : KNo k J K F q) : KNo k J K1 F1 q := ⟨g.k h.1 h0, by rw [(g.at h.1 h0).1]; exact h.2⟩
theorem OBz.gr (g : GR K F G K1 F1 G1) (h0 : k ≠ 0) (h : OBz k J K F G q) : OBz k J K1 F1 G1 q := ⟨g.k h.1 h0, by rw [(g.at h.1 h0).1]; exact h.2.1, (g.at h.1 h0).2.1.trans h.2.2⟩
theorem RDz.gr (g : GR K F G K1 F1 G1) (h : RDz K F q t) : RDz K1 F1 q t := ⟨g.k h.1 (by decide), by rw [(g.at h.1 (by decide)).1]; exact h.2.1, by rw [(g.at h.1 (by decide)).1]; exact h.2.2⟩
theorem BKz.gr (g : GR K F G K1 F1 G1) (h : BKz K F G q) : BKz K1 F1 G1 q := by
  obtain ⟨a1, a2, a3, a4, a5, a6, a7⟩ := h
  obtain ⟨f, d, -, -⟩ := g.at a1 (by decide)
  unfold BKz
  rw [f]
  exact ⟨g.k a1 (by decide), a2, d.trans a3, g.k a4 (by decide), (g.at a4 (by decide)).2.2.2.trans a5, g.k a6 (by decide), (g.at a6 (by decide)).2.2.2.trans a7⟩
theorem RWz.gr (g : GR K F G K1 F1 G1) (h : RWz J K F G q) : RWz J K1 F1 G1 q := by
  obtain ⟨a1, a2, a3, a4, a5, a6⟩ := h
  obtain ⟨f, -, -, -⟩ := g.at a1 (by decide)
  unfold RWz
  rw [f]
  exact ⟨g.k a1 (by decide), a2, g.k a3 (by decide), by rw [(g.at a3 (by decide)).2.2.1]; exact a4, g.k a5 (by decide), (g.at a5 (by decide)).2.2.1.trans a6⟩
end GRz
theorem vw_v0 {f : Nat → Int32} (h : ∀ z : Int, 0 ≤ z → z < 270 → aI f z = -2000) : vw f = v0 := by
  funext z
  unfold vw v0
  split
  · rename_i q; exact h z q.1 q.2
  · rfl
end
theorem kin_X0 : Cond.instantiable RX0 3 ∈ GT ∧ Cond.initialized RX0 ∈ GT := ⟨GT_mem 167 (by decide +kernel) rfl, GT_mem 94 (by decide +kernel) rfl⟩
theorem kin_X1 : Cond.instantiable RX1 4 ∈ GT ∧ Cond.initialized RX1 ∈ GT := ⟨GT_mem 229 (by decide +kernel) rfl, GT_mem 97 (by decide +kernel) rfl⟩
theorem kin_X2 : Cond.instantiable RX2 5 ∈ GT ∧ Cond.initialized RX2 ∈ GT := ⟨GT_mem 248 (by decide +kernel) rfl, GT_mem 98 (by decide +kernel) rfl⟩
theorem kin_X3 : Cond.instantiable RX3 4 ∈ GT ∧ Cond.initialized RX3 ∈ GT := ⟨GT_mem 270 (by decide +kernel) rfl, GT_mem 99 (by decide +kernel) rfl⟩
theorem kin_X4 : Cond.instantiable RX4 7 ∈ GT ∧ Cond.initialized RX4 ∈ GT := ⟨GT_mem 200 (by decide +kernel) rfl, GT_mem 96 (by decide +kernel) rfl⟩
theorem kin_X5 : Cond.instantiable RX5 6 ∈ GT ∧ Cond.initialized RX5 ∈ GT := ⟨GT_mem 142 (by decide +kernel) rfl, GT_mem 93 (by decide +kernel) rfl⟩
theorem kin_X6 : Cond.instantiable RX6 2 ∈ GT ∧ Cond.initialized RX6 ∈ GT := ⟨GT_mem 185 (by decide +kernel) rfl, GT_mem 95 (by decide +kernel) rfl⟩
theorem kin_X7 : Cond.instantiable RX7 10 ∈ GT ∧ Cond.initialized RX7 ∈ GT := ⟨GT_mem 513 (by decide +kernel) rfl, GT_mem 111 (by decide +kernel) rfl⟩
theorem kin_X8 : Cond.instantiable RX8 2 ∈ GT ∧ Cond.initialized RX8 ∈ GT := ⟨GT_mem 128 (by decide +kernel) rfl, GT_mem 92 (by decide +kernel) rfl⟩
theorem kin_X9 : Cond.instantiable RX9 4 ∈ GT ∧ Cond.initialized RX9 ∈ GT := ⟨GT_mem 289 (by decide +kernel) rfl, GT_mem 100 (by decide +kernel) rfl⟩
theorem kin_X10 : Cond.instantiable RX10 19 ∈ GT ∧ Cond.initialized RX10 ∈ GT := ⟨GT_mem 120 (by decide +kernel) rfl, GT_mem 91 (by decide +kernel) rfl⟩
theorem kin_X11 : Cond.instantiable RX11 52 ∈ GT ∧ Cond.initialized RX11 ∈ GT := ⟨GT_mem 1395 (by decide +kernel) rfl, GT_mem 105 (by decide +kernel) rfl⟩
theorem kin_J4 : Cond.instantiable RJ4 4 ∈ GT ∧ Cond.initialized RJ4 ∈ GT := ⟨GT_mem 295 (by decide +kernel) rfl, GT_mem 102 (by decide +kernel) rfl⟩
theorem kn_X0_9 : Cond.classLink RX0 9 RX7 ∈ GT := GT_mem 172 (by decide +kernel) rfl
theorem xok_3 : xok 3 (0 : Int32) := by
  have h := xok_z 0
  first
  | exact h
  | (rw [show vp_nar .boolean (0 : Int32) = 0 from by decide] at h; exact h)
  | (rw [show vp_nar .boolean (0 : Int32) = 0 from rfl] at h; exact h)
  | (unfold xok; decide)
  | (simp [vp_nar] at h; exact h)
abbrev rm_X8_init : Room := { frames := 1, cells := 1, slots := 80, locals := 12 }
set_option maxHeartbeats 4000000 in
set_option maxRecDepth 100000 in
theorem c_X8_init (l : Launch) (E : XE) (K : Nat → Nat) (F : Nat → Nat → Nat) (G : XG) (L : va_W) (a : Nat) : Met l yX8_init (xw yX8_init cX8_init 1 none) rm_X8_init (va_Pc [.ref a] (XPx E K F G ((a, .inr (9, [.null, .int 0])) :: L))) (XQv E (fun (u : (Nat → Nat) × (Nat → Nat → Nat) × XG) => GR K F G u.1 u.2.1 u.2.2 ∧ (OBz 10 0 u.1 u.2.1 u.2.2 a) ∧ (N11 K → N11 u.1)) (fun u H => TX E u.1 u.2.1 u.2.2 L H)) 1 80 (xA E) := by
  refine x_enter (by decide) (Nat.le_of_ble_eq_true rfl) ?_
  intro p e s m args below meth c Q S hr hlk hnm hQ hP ls hl
  obtain ⟨hz, hK, hT⟩ := hP
  obtain ⟨hx, hb, -, -, -⟩ := id S
  obtain ⟨H, hT, hS, hgo⟩ : ∃ H : Heap, TX E K F G ((a, .inr (9, [.null, .int 0])) :: L) H ∧ va_S (xA E) s.heap H [] ∧ H = s.heap := ⟨_, hT, va_S.rf, rfl⟩
  rw [← hgo]
  have hl : lv_has ls 1 [(0, .ref a)] := hl
  obtain ⟨hK, hA⟩ := hK
  obtain ⟨K0, eK⟩ : ∃ K0 : Nat → Nat, K0 = K := ⟨_, rfl⟩
  obtain ⟨F9, eF⟩ : ∃ F9 : Nat → Nat → Nat, F9 = F := ⟨_, rfl⟩
  obtain ⟨G0, eG⟩ : ∃ G0 : XG, G0 = G := ⟨_, rfl⟩
  have hgr : GR K0 F9 G0 K F G := by rw [eK, eF, eG]; exact GR.rf
  have hN : N11 K0 → N11 K := by rw [eK]; exact id
  refine lv_aload_n hx hb dX8_init_0 rfl (lv_at hl 0 rfl) ?_
  refine W.objInit hx hb S.2.2.2.1 (S.2.2.2.2 _ (List.mem_cons_of_mem _ km_X8_1)) (S.2.2.2.2 _ (List.mem_cons_of_mem _ koi.1)) (S.2.2.2.2 _ (List.mem_cons_of_mem _ koi.2)) rfl (by rw [S.2.2.1]; exact hl.1) rfl dX8_init_1 (Nat.le_of_ble_eq_true rfl) (Nat.le_of_ble_eq_true rfl) ?_
  refine W.eq (g2 := F0 m 4 ls []) rfl ?_
  refine lv_aload_n hx hb dX8_init_4 rfl (lv_at hl 0 rfl) ?_
  refine lv_bipush (v := 80) hx hb dX8_init_5 (by decide) ?_
  refine tx_na1 S hK hz hT hS (N := 80) (by decide) (by decide) (Nat.le_of_ble_eq_true rfl) (Nat.le_of_ble_eq_true rfl) (Nat.le_of_ble_eq_true rfl) dX8_init_7 (fun q1 H hT hS => ?_)
  refine tx_putF (C := RX8) (T := TX8) (N := 2) (ci := 9) (ty := (.array .char)) S hK hT hS inX8 tyX8 tyX8_ok nmX8 1 rfl rfl 0 (by decide) kf_X8_9 rfl hnm rfl (by decide +kernel) rfl rfl (Nat.le_of_ble_eq_true rfl) dX8_init_9 (fun H locs hT hS => ?_)
  have hT : TX E K F G ((q1, .inl (E.2.1 1, 80, .inl (fun _ => 0))) :: (a, .inr (9, [.ref q1, .int 0])) :: L) H := hT
  obtain ⟨K, F, G, g, hall, n1, hT⟩ := TX.cls (L := ((a, .inr (9, [.ref q1, .int 0])) :: L)) [(q1, 25, 0, 1, 80, (fun _ => 0))] hT (List.forall_mem_cons.mpr ⟨⟨(show (25 : Nat) ≠ 0 by decide), (show (25 : Nat) ≠ 11 by decide), fun _ _ _ _ _ => ⟨1, 80, rfl, rfl, (fun _ => rfl)⟩⟩, List.forall_mem_nil _⟩)
  have hgr := hgr.tr g
  have hN : N11 K0 → N11 K := fun h => n1 (hN h)
  have a_q1 : K q1 = 25 ∧ F q1 99 = 0 ∧ G.2.1 q1 = (fun _ => 0) := hall _ (List.mem_of_getElem? (i := 0) rfl)
  obtain ⟨K, F, G, g, hk, hFa, hd, -, -, n1, hT⟩ := TX.cl (a := a) hT 10 (fvx 0 [q1, 0]) (fun _ => 0) (fun _ => 0) (fun _ => none) (by decide) (fun K1 F1 hM hFF hF => ⟨by rw [hF] <;> rfl, by rw [hF]; exact hM _ _ a_q1.1 (by decide), by rw [hF]; exact (congrFun (hFF q1 (by rw [a_q1.1]; decide)) 99).trans a_q1.2.1⟩)
  have n1 := n1 (by decide)
  have hgr := hgr.tr g
  have a_q1 : K q1 = 25 ∧ F q1 99 = 0 ∧ G.2.1 q1 = (fun _ => 0) := ⟨g.k a_q1.1 (by decide), by rw [(g.at a_q1.1 (by decide)).1]; exact a_q1.2.1, (g.at a_q1.1 (by decide)).2.2.1.trans a_q1.2.2⟩
  have hN : N11 K0 → N11 K := fun h => n1 (hN h)
  have hpo : OBz 10 0 K F G a := ⟨hk, by rw [hFa]; rfl, hd⟩
  exact x_rv hx hb hr hlk hQ (Nat.le_of_ble_eq_true rfl) (Nat.le_of_ble_eq_true rfl) hS dX8_init_12 (K, F, G) ⟨by rw [eK, eF, eG] at hgr; exact hgr, hpo, by rw [eK] at hN; exact hN⟩ hT

abbrev rm_X5_init : Room := { frames := 1, cells := 0, slots := 0, locals := 12 }
set_option maxHeartbeats 4000000 in
set_option maxRecDepth 100000 in
theorem c_X5_init (l : Launch) (E : XE) (K : Nat → Nat) (F : Nat → Nat → Nat) (G : XG) (L : va_W) (a : Nat) (p0 : Nat) (hp0 : KNo 10 0 K F p0) : Met l yX5_init (xw yX5_init cX5_init 2 none) rm_X5_init (va_Pc [.ref a, .ref p0] (XPx E K F G ((a, .inr (6, [.null, .int 0, .int 0, .int 0, .int 0, .int 0])) :: L))) (XQv E (fun (u : (Nat → Nat) × (Nat → Nat → Nat) × XG) => GR K F G u.1 u.2.1 u.2.2 ∧ (RDz u.1 u.2.1 a p0) ∧ (N11 K → N11 u.1)) (fun u H => TX E u.1 u.2.1 u.2.2 L H)) 0 0 (xA E) := by
  refine x_enter (by decide) (Nat.le_of_ble_eq_true rfl) ?_
  intro p e s m args below meth c Q S hr hlk hnm hQ hP ls hl
  obtain ⟨hz, hK, hT⟩ := hP
  obtain ⟨hx, hb, -, -, -⟩ := id S
  obtain ⟨H, hT, hS, hgo⟩ : ∃ H : Heap, TX E K F G ((a, .inr (6, [.null, .int 0, .int 0, .int 0, .int 0, .int 0])) :: L) H ∧ va_S (xA E) s.heap H [] ∧ H = s.heap := ⟨_, hT, va_S.rf, rfl⟩
  rw [← hgo]
  have hl : lv_has ls 2 [(0, .ref a), (1, .ref p0)] := hl
  obtain ⟨hK, hA⟩ := hK
  obtain ⟨K0, eK⟩ : ∃ K0 : Nat → Nat, K0 = K := ⟨_, rfl⟩
  obtain ⟨F9, eF⟩ : ∃ F9 : Nat → Nat → Nat, F9 = F := ⟨_, rfl⟩
  obtain ⟨G0, eG⟩ : ∃ G0 : XG, G0 = G := ⟨_, rfl⟩
  have hgr : GR K0 F9 G0 K F G := by rw [eK, eF, eG]; exact GR.rf
  have hN : N11 K0 → N11 K := by rw [eK]; exact id
  refine lv_aload_n hx hb dX5_init_0 rfl (lv_at hl 0 rfl) ?_
  refine W.objInit hx hb S.2.2.2.1 (S.2.2.2.2 _ (List.mem_cons_of_mem _ km_X5_3)) (S.2.2.2.2 _ (List.mem_cons_of_mem _ koi.1)) (S.2.2.2.2 _ (List.mem_cons_of_mem _ koi.2)) rfl (by rw [S.2.2.1]; exact hl.1) rfl dX5_init_1 (Nat.le_of_ble_eq_true rfl) (Nat.le_of_ble_eq_true rfl) ?_
  refine W.eq (g2 := F0 m 4 ls []) rfl ?_
  refine lv_aload_n hx hb dX5_init_4 rfl (lv_at hl 0 rfl) ?_
  refine lv_aload_n hx hb dX5_init_5 rfl (lv_at hl 1 rfl) ?_
  refine tx_putF (C := RX5) (T := TX5) (N := 6) (ci := 6) (ty := (.object "LateRules$Text")) S hK hT hS inX5 tyX5 tyX5_ok nmX5 0 rfl rfl 0 (by decide) kf_X5_9 rfl hnm rfl (by decide +kernel) rfl rfl (Nat.le_of_ble_eq_true rfl) dX5_init_6 (fun H locs hT hS => ?_)
  have hT : TX E K F G ((a, .inr (6, [.ref p0, .int 0, .int 0, .int 0, .int 0, .int 0])) :: L) H := hT
  obtain ⟨K, F, G, g, hk, hFa, hd, -, -, n1, hT⟩ := TX.cl (a := a) hT 7 (fvx 0 [p0, 0, 0, 0, 0, 0]) (fun _ => 0) (fun _ => 0) (fun _ => none) (by decide) (fun K1 F1 hM hFF hF => ⟨by rw [hF] <;> rfl, by rw [hF]; exact hM _ _ hp0.1 (by decide), by rw [hF]; exact (congrFun (hFF p0 (by rw [hp0.1]; decide)) 99).trans hp0.2, Or.inl rfl⟩)
  have n1 := n1 (by decide)
  have hgr := hgr.tr g
  have hp0 := KNo.gr g (by decide) hp0
  have hN : N11 K0 → N11 K := fun h => n1 (hN h)
  have hpo : RDz K F a p0 := ⟨hk, by rw [hFa]; rfl, by rw [hFa]; rfl⟩
  exact x_rv hx hb hr hlk hQ (Nat.le_of_ble_eq_true rfl) (Nat.le_of_ble_eq_true rfl) hS dX5_init_9 (K, F, G) ⟨by rw [eK, eF, eG] at hgr; exact hgr, hpo, by rw [eK] at hN; exact hN⟩ hT

abbrev rm_X0_init : Room := { frames := 1, cells := 2, slots := 24, locals := 12 }
set_option maxHeartbeats 4000000 in
set_option maxRecDepth 100000 in
theorem c_X0_init (l : Launch) (E : XE) (K : Nat → Nat) (F : Nat → Nat → Nat) (G : XG) (L : va_W) (a : Nat) : Met l yX0_init (xw yX0_init cX0_init 1 none) rm_X0_init (va_Pc [.ref a] (XPx E K F G ((a, .inr (1, [.null, .null, .int 0])) :: L))) (XQv E (fun (u : (Nat → Nat) × (Nat → Nat → Nat) × XG) => GR K F G u.1 u.2.1 u.2.2 ∧ (BKz u.1 u.2.1 u.2.2 a) ∧ (N11 K → N11 u.1)) (fun u H => TX E u.1 u.2.1 u.2.2 L H)) 2 24 (xA E) := by
  refine x_enter (by decide) (Nat.le_of_ble_eq_true rfl) ?_
  intro p e s m args below meth c Q S hr hlk hnm hQ hP ls hl
  obtain ⟨hz, hK, hT⟩ := hP
  obtain ⟨hx, hb, -, -, -⟩ := id S
  obtain ⟨H, hT, hS, hgo⟩ : ∃ H : Heap, TX E K F G ((a, .inr (1, [.null, .null, .int 0])) :: L) H ∧ va_S (xA E) s.heap H [] ∧ H = s.heap := ⟨_, hT, va_S.rf, rfl⟩
  rw [← hgo]
  have hl : lv_has ls 1 [(0, .ref a)] := hl
  obtain ⟨hK, hA⟩ := hK
  obtain ⟨K0, eK⟩ : ∃ K0 : Nat → Nat, K0 = K := ⟨_, rfl⟩
  obtain ⟨F9, eF⟩ : ∃ F9 : Nat → Nat → Nat, F9 = F := ⟨_, rfl⟩
  obtain ⟨G0, eG⟩ : ∃ G0 : XG, G0 = G := ⟨_, rfl⟩
  have hgr : GR K0 F9 G0 K F G := by rw [eK, eF, eG]; exact GR.rf
  have hN : N11 K0 → N11 K := by rw [eK]; exact id
  refine lv_aload_n hx hb dX0_init_0 rfl (lv_at hl 0 rfl) ?_
  refine W.objInit hx hb S.2.2.2.1 (S.2.2.2.2 _ (List.mem_cons_of_mem _ km_X0_3)) (S.2.2.2.2 _ (List.mem_cons_of_mem _ koi.1)) (S.2.2.2.2 _ (List.mem_cons_of_mem _ koi.2)) rfl (by rw [S.2.2.1]; exact hl.1) rfl dX0_init_1 (Nat.le_of_ble_eq_true rfl) (Nat.le_of_ble_eq_true rfl) ?_
  refine W.eq (g2 := F0 m 4 ls []) rfl ?_
  refine lv_aload_n hx hb dX0_init_4 rfl (lv_at hl 0 rfl) ?_
  refine lv_bipush (v := 12) hx hb dX0_init_5 (by decide) ?_
  refine tx_nq4 S hK hA.1 hz hT hS kn_X0_9 (N := 12) (by decide) (by decide) (Nat.le_of_ble_eq_true rfl) (Nat.le_of_ble_eq_true rfl) (Nat.le_of_ble_eq_true rfl) dX0_init_7 (fun q1 H hT hS => ?_)
  refine tx_putF (C := RX0) (T := TX0) (N := 3) (ci := 1) (ty := (.array (.object "LateRules$Rule"))) S hK hT hS inX0 tyX0 tyX0_ok nmX0 1 rfl rfl 0 (by decide) kf_X0_11 rfl hnm rfl (by decide +kernel) rfl rfl (Nat.le_of_ble_eq_true rfl) dX0_init_10 (fun H locs hT hS => ?_)
  have hT : TX E K F G ((q1, .inl (E.2.1 4, 12, .inr (.inr (.inr (.inr (fun _ => none)))))) :: (a, .inr (1, [.ref q1, .null, .int 0])) :: L) H := hT
  refine lv_aload_n hx hb dX0_init_13 rfl (lv_at hl 0 rfl) ?_
  refine lv_bipush (v := 12) hx hb dX0_init_14 (by decide) ?_
  refine tx_nq4 S hK hA.1 hz hT hS kn_X0_9 (N := 12) (by decide) (by decide) (Nat.le_of_ble_eq_true rfl) (Nat.le_of_ble_eq_true rfl) (Nat.le_of_ble_eq_true rfl) dX0_init_16 (fun q2 H hT hS => ?_)
  refine tx_putF (C := RX0) (T := TX0) (N := 3) (ci := 1) (ty := (.array (.object "LateRules$Rule"))) S hK hT hS inX0 tyX0 tyX0_ok nmX0 2 rfl rfl 1 (by decide) kf_X0_17 rfl hnm rfl (by decide +kernel) rfl rfl (Nat.le_of_ble_eq_true rfl) dX0_init_19 (fun H locs hT hS => ?_)
  have hT : TX E K F G ((q2, .inl (E.2.1 4, 12, .inr (.inr (.inr (.inr (fun _ => none)))))) :: (q1, .inl (E.2.1 4, 12, .inr (.inr (.inr (.inr (fun _ => none)))))) :: (a, .inr (1, [.ref q1, .ref q2, .int 0])) :: L) H := hT
  obtain ⟨K, F, G, g, k_q2, f_q2, -, -, r_q2, n1, hT⟩ := TX.cl (a := q2) hT 15 (fvx 1 []) (fun _ => 0) (fun _ => 0) (fun _ => none) (by decide) (fun K1 F1 hM hFF hF => ⟨rfl, fun _ _ h => by cases h⟩)
  have n1 := n1 (by decide)
  have hgr := hgr.tr g
  have hN : N11 K0 → N11 K := fun h => n1 (hN h)
  have a_q2 : K q2 = 15 ∧ F q2 99 = 1 ∧ G.2.2.1 q2 = fun _ => none := ⟨k_q2, by rw [f_q2]; rfl, r_q2⟩
  obtain ⟨K, F, G, g, k_q1, f_q1, -, -, r_q1, n1, hT⟩ := TX.cl (a := q1) hT 15 (fvx 0 []) (fun _ => 0) (fun _ => 0) (fun _ => none) (by decide) (fun K1 F1 hM hFF hF => ⟨rfl, fun _ _ h => by cases h⟩)
  have n1 := n1 (by decide)
  have hgr := hgr.tr g
  have a_q2 : K q2 = 15 ∧ F q2 99 = 1 ∧ G.2.2.1 q2 = fun _ => none := ⟨g.k a_q2.1 (by decide), by rw [(g.at a_q2.1 (by decide)).1]; exact a_q2.2.1, (g.at a_q2.1 (by decide)).2.2.2.trans a_q2.2.2⟩
  have hN : N11 K0 → N11 K := fun h => n1 (hN h)
  have a_q1 : K q1 = 15 ∧ F q1 99 = 0 ∧ G.2.2.1 q1 = fun _ => none := ⟨k_q1, by rw [f_q1]; rfl, r_q1⟩
  obtain ⟨K, F, G, g, hk, hFa, hd, -, -, n1, hT⟩ := TX.cl (a := a) hT 2 (fvx 0 [q1, q2, 0]) (fun _ => 0) (fun _ => 0) (fun _ => none) (by decide) (fun K1 F1 hM hFF hF => ⟨by rw [hF] <;> rfl, by rw [hF]; exact hM _ _ a_q1.1 (by decide), by rw [hF]; exact (congrFun (hFF q1 (by rw [a_q1.1]; decide)) 99).trans a_q1.2.1, by rw [hF]; exact hM _ _ a_q2.1 (by decide), by rw [hF]; exact (congrFun (hFF q2 (by rw [a_q2.1]; decide)) 99).trans a_q2.2.1⟩)
  have n1 := n1 (by decide)
  have hgr := hgr.tr g
  have a_q2 : K q2 = 15 ∧ F q2 99 = 1 ∧ G.2.2.1 q2 = fun _ => none := ⟨g.k a_q2.1 (by decide), by rw [(g.at a_q2.1 (by decide)).1]; exact a_q2.2.1, (g.at a_q2.1 (by decide)).2.2.2.trans a_q2.2.2⟩
  have a_q1 : K q1 = 15 ∧ F q1 99 = 0 ∧ G.2.2.1 q1 = fun _ => none := ⟨g.k a_q1.1 (by decide), by rw [(g.at a_q1.1 (by decide)).1]; exact a_q1.2.1, (g.at a_q1.1 (by decide)).2.2.2.trans a_q1.2.2⟩
  have hN : N11 K0 → N11 K := fun h => n1 (hN h)
  have hpo : BKz K F G a := ⟨hk, by rw [hFa]; rfl, hd, by rw [hFa]; exact a_q1.1, by rw [hFa]; exact a_q1.2.2, by rw [hFa]; exact a_q2.1, by rw [hFa]; exact a_q2.2.2⟩
  exact x_rv hx hb hr hlk hQ (Nat.le_of_ble_eq_true rfl) (Nat.le_of_ble_eq_true rfl) hS dX0_init_22 (K, F, G) ⟨by rw [eK, eF, eG] at hgr; exact hgr, hpo, by rw [eK] at hN; exact hN⟩ hT

abbrev rm_X6_init : Room := { frames := 1, cells := 2, slots := 273, locals := 12 }
set_option maxHeartbeats 4000000 in
set_option maxRecDepth 100000 in
theorem c_X6_init (l : Launch) (E : XE) (K : Nat → Nat) (F : Nat → Nat → Nat) (G : XG) (L : va_W) (a : Nat) (J : Nat) : Met l yX6_init (xw yX6_init cX6_init 2 none) rm_X6_init (va_Pc [.ref a] (XPx E K F G ((a, .inr (7, [.null, .null])) :: L))) (XQv E (fun (u : (Nat → Nat) × (Nat → Nat → Nat) × XG) => GR K F G u.1 u.2.1 u.2.2 ∧ (RWz J u.1 u.2.1 u.2.2 a) ∧ (N11 K → N11 u.1)) (fun u H => TX E u.1 u.2.1 u.2.2 L H)) 2 273 (xA E) := by
  refine x_enter (by decide) (Nat.le_of_ble_eq_true rfl) ?_
  intro p e s m args below meth c Q S hr hlk hnm hQ hP ls hl
  obtain ⟨hz, hK, hT⟩ := hP
  obtain ⟨hx, hb, -, -, -⟩ := id S
  obtain ⟨H, hT, hS, hgo⟩ : ∃ H : Heap, TX E K F G ((a, .inr (7, [.null, .null])) :: L) H ∧ va_S (xA E) s.heap H [] ∧ H = s.heap := ⟨_, hT, va_S.rf, rfl⟩
  rw [← hgo]
  have hl : lv_has ls 2 [(0, .ref a)] := hl
  obtain ⟨hK, hA⟩ := hK
  obtain ⟨K0, eK⟩ : ∃ K0 : Nat → Nat, K0 = K := ⟨_, rfl⟩
  obtain ⟨F9, eF⟩ : ∃ F9 : Nat → Nat → Nat, F9 = F := ⟨_, rfl⟩
  obtain ⟨G0, eG⟩ : ∃ G0 : XG, G0 = G := ⟨_, rfl⟩
  have hgr : GR K0 F9 G0 K F G := by rw [eK, eF, eG]; exact GR.rf
  have hN : N11 K0 → N11 K := by rw [eK]; exact id
  refine lv_aload_n hx hb dX6_init_0 rfl (lv_at hl 0 rfl) ?_
  refine W.objInit hx hb S.2.2.2.1 (S.2.2.2.2 _ (List.mem_cons_of_mem _ km_X6_3)) (S.2.2.2.2 _ (List.mem_cons_of_mem _ koi.1)) (S.2.2.2.2 _ (List.mem_cons_of_mem _ koi.2)) rfl (by rw [S.2.2.1]; exact hl.1) rfl dX6_init_1 (Nat.le_of_ble_eq_true rfl) (Nat.le_of_ble_eq_true rfl) ?_
  refine W.eq (g2 := F0 m 4 ls []) rfl ?_
  refine lv_aload_n hx hb dX6_init_4 rfl (lv_at hl 0 rfl) ?_
  refine lv_sipush (v := 270) hx hb dX6_init_5 (by decide) ?_
  refine tx_na0 S hK hz hT hS (N := 270) (by decide) (by decide) (Nat.le_of_ble_eq_true rfl) (Nat.le_of_ble_eq_true rfl) (Nat.le_of_ble_eq_true rfl) dX6_init_8 (fun q1 H hT hS => ?_)
  refine tx_putF (C := RX6) (T := TX6) (N := 2) (ci := 7) (ty := (.array .int)) S hK hT hS inX6 tyX6 tyX6_ok nmX6 1 rfl rfl 0 (by decide) kf_X6_9 rfl hnm rfl (by decide +kernel) rfl rfl (Nat.le_of_ble_eq_true rfl) dX6_init_10 (fun H locs hT hS => ?_)
  have hT : TX E K F G ((q1, .inl (E.2.1 0, 270, .inl (fun _ => 0))) :: (a, .inr (7, [.ref q1, .null])) :: L) H := hT
  refine lv_aload_n hx hb dX6_init_13 rfl (lv_at hl 0 rfl) ?_
  refine lv_iconst (v := 3) hx hb dX6_init_14 (by decide) ?_
  refine tx_na0 S hK hz hT hS (N := 3) (by decide) (by decide) (Nat.le_of_ble_eq_true rfl) (Nat.le_of_ble_eq_true rfl) (Nat.le_of_ble_eq_true rfl) dX6_init_15 (fun q2 H hT hS => ?_)
  refine tx_putF (C := RX6) (T := TX6) (N := 2) (ci := 7) (ty := (.array .int)) S hK hT hS inX6 tyX6 tyX6_ok nmX6 2 rfl rfl 1 (by decide) kf_X6_15 rfl hnm rfl (by decide +kernel) rfl rfl (Nat.le_of_ble_eq_true rfl) dX6_init_17 (fun H locs hT hS => ?_)
  have hT : TX E K F G ((q2, .inl (E.2.1 0, 3, .inl (fun _ => 0))) :: (q1, .inl (E.2.1 0, 270, .inl (fun _ => 0))) :: (a, .inr (7, [.ref q1, .ref q2])) :: L) H := hT
  refine lv_iconst (v := 0) hx hb dX6_init_20 (by decide) ?_
  refine lv_istore_n (lv' := [(1, .int 0), (0, .ref a)]) hx hb dX6_init_21 rfl hl (by decide) rfl (fun ls hl => ?_)
  have L22 : ∀ (N : Nat) (x : Int32) (f : Nat → Int32) (H : Heap) (locs : List Loc) (ls : Array Slot), (0 ≤ x.toInt ∧ x.toInt ≤ 270) → 270 - x.toInt < ((N : Nat) : Int) → (∀ z : Int, 0 ≤ z → z < x.toInt → aI f z = -2000) → TX E K F G ((q2, .inl (E.2.1 0, 3, .inl (fun _ => 0))) :: (q1, .inl (E.2.1 0, 270, .inl f)) :: (a, .inr (7, [.ref q1, .ref q2])) :: L) H → va_S (xA E) s.heap H locs → lv_has ls 2 [(0, .ref a), (1, .int x)] → W p l e rm_X6_init s m args below meth c H locs 2 273 Q (F0 m 22 ls []) := by
    intro N
    induction N with
    | zero =>
      intro x f H locs ls h0 hm
      exact absurd hm (by omega)
    | succ N ih =>
      intro x f H locs ls h0 hm hf hT hS hl
      refine lv_iload_n hx hb dX6_init_22 rfl (lv_at hl 1 rfl) ?_
      refine lv_aload_n hx hb dX6_init_23 rfl (lv_at hl 0 rfl) ?_
      refine tx_get (C := RX6) (T := TX6) (N := 2) (ci := 7) S hK hT inX6 2 rfl rfl 0 (by decide) kf_X6_9 rfl dX6_init_24 ?_
      refine tx_ll0 S hK hT 1 rfl dX6_init_27 ?_
      refine xi_cge (tgt := 46) hx hb (rfl : Int32.toInt x = x.toInt) ((by decide) : Int32.toInt (Int32.ofNat 270) = (270 : Int)) dX6_init_28 (by decide) (fun c9 => ?_) (fun c9 => ?_)
      · have hf : ∀ z : Int, 0 ≤ z → z < 270 → aI f z = -2000 := fun z a1 a2 => hf z a1 (by omega)
        obtain ⟨K, F, G, g, hall, n1, hT⟩ := TX.cls (L := ((a, .inr (7, [.ref q1, .ref q2])) :: L)) [(q2, 21, J, 0, 3, (fun _ => 0)), (q1, 20, J, 0, 270, f)] hT (List.forall_mem_cons.mpr ⟨⟨(show (21 : Nat) ≠ 0 by decide), (show (21 : Nat) ≠ 11 by decide), fun _ _ _ _ _ => ⟨0, 3, rfl, rfl, (fun _ => trivial)⟩⟩, List.forall_mem_cons.mpr ⟨⟨(show (20 : Nat) ≠ 0 by decide), (show (20 : Nat) ≠ 11 by decide), fun _ _ _ _ _ => ⟨0, 270, rfl, rfl, (fun _ => trivial)⟩⟩, List.forall_mem_nil _⟩⟩)
        have hgr := hgr.tr g
        have hN : N11 K0 → N11 K := fun h => n1 (hN h)
        have a_q2 : K q2 = 21 ∧ F q2 99 = J ∧ G.2.1 q2 = (fun _ => 0) := hall _ (List.mem_of_getElem? (i := 0) rfl)
        have a_q1 : K q1 = 20 ∧ F q1 99 = J ∧ G.2.1 q1 = f := hall _ (List.mem_of_getElem? (i := 1) rfl)
        obtain ⟨K, F, G, g, hk, hFa, hd, -, -, n1, hT⟩ := TX.cl (a := a) hT 8 (fvx J [q1, q2]) (fun _ => 0) (fun _ => 0) (fun _ => none) (by decide) (fun K1 F1 hM hFF hF => ⟨by rw [hF] <;> rfl, by rw [hF]; exact hM _ _ a_q1.1 (by decide), by rw [hF]; exact (congrFun (hFF q1 (by rw [a_q1.1]; decide)) 99).trans a_q1.2.1, by rw [hF]; exact hM _ _ a_q2.1 (by decide), by rw [hF]; exact (congrFun (hFF q2 (by rw [a_q2.1]; decide)) 99).trans a_q2.2.1⟩)
        have n1 := n1 (by decide)
        have hgr := hgr.tr g
        have a_q2 : K q2 = 21 ∧ F q2 99 = J ∧ G.2.1 q2 = (fun _ => 0) := ⟨g.k a_q2.1 (by decide), by rw [(g.at a_q2.1 (by decide)).1]; exact a_q2.2.1, (g.at a_q2.1 (by decide)).2.2.1.trans a_q2.2.2⟩
        have a_q1 : K q1 = 20 ∧ F q1 99 = J ∧ G.2.1 q1 = f := ⟨g.k a_q1.1 (by decide), by rw [(g.at a_q1.1 (by decide)).1]; exact a_q1.2.1, (g.at a_q1.1 (by decide)).2.2.1.trans a_q1.2.2⟩
        have hN : N11 K0 → N11 K := fun h => n1 (hN h)
        have hpo : RWz J K F G a := ⟨hk, by rw [hFa]; rfl, by rw [hFa]; exact a_q1.1, by rw [hFa]; show vw (G.2.1 q1) = v0; rw [a_q1.2.2]; exact vw_v0 hf, by rw [hFa]; exact a_q2.1, by rw [hFa]; exact a_q2.2.2⟩
        exact x_rv hx hb hr hlk hQ (Nat.le_of_ble_eq_true rfl) (Nat.le_of_ble_eq_true rfl) hS dX6_init_46 (K, F, G) ⟨by rw [eK, eF, eG] at hgr; exact hgr, hpo, by rw [eK] at hN; exact hN⟩ hT
      · refine lv_aload_n hx hb dX6_init_31 rfl (lv_at hl 0 rfl) ?_
        refine tx_get (C := RX6) (T := TX6) (N := 2) (ci := 7) S hK hT inX6 2 rfl rfl 0 (by decide) kf_X6_9 rfl dX6_init_32 ?_
        refine lv_iload_n hx hb dX6_init_35 rfl (lv_at hl 1 rfl) ?_
        refine lv_sipush (v := (-2000)) hx hb dX6_init_36 (by decide) ?_
        refine tx_ls0 S hK hT hS 1 rfl (show 0 ≤ x.toInt ∧ x.toInt < ((270 : Nat) : Int) by omega) dX6_init_39 (fun H locs hT hS => ?_)
        refine xi_iinc (n := 1) (lv' := fun z9 => [(1, .int z9), (0, .ref a)]) (k := 1) hx hb (rfl : Int32.toInt x = x.toInt) (by decide) dX6_init_40 hl rfl (by decide) (fun _ => rfl) (fun x2 ls t2 hl => ?_)
        have hl : lv_has ls 2 [(1, .int x2), (0, .ref a)] := hl
        refine lv_goto (tgt := 22) hx hb dX6_init_43 (by decide) ?_
        have e2 : x2.toInt = x.toInt + 1 := by omega
        refine ih x2 (upd f x.toNatClampNeg (-2000)) _ _ _ ⟨by omega, by omega⟩ (by omega) (fun z a1 a2 => ?_) hT hS (lv_sub hl [1, 0] rfl)
        show (upd f x.toInt.toNat (-2000) z.toNat).toInt = -2000
        unfold upd
        by_cases q : z.toNat = x.toInt.toNat
        · rw [if_pos q]; decide
        · rw [if_neg q]; exact hf z a1 (by omega)
  exact L22 4294967297 0 _ _ _ _ ⟨by decide, by decide⟩ (by decide) (fun z a1 a2 => absurd a2 (show ¬ z < (0 : Int) by omega)) hT hS (lv_sub hl [1, 0] rfl)

abbrev rm_X4_init : Room := { frames := 1, cells := 6, slots := 6480, locals := 12 }
set_option maxHeartbeats 4000000 in
set_option maxRecDepth 100000 in
theorem c_X4_init (l : Launch) (E : XE) (K : Nat → Nat) (F : Nat → Nat → Nat) (G : XG) (L : va_W) (a : Nat) (J : Nat) : Met l yX4_init (xw yX4_init cX4_init 1 none) rm_X4_init (va_Pc [.ref a] (XPx E K F G ((a, .inr (5, [.null, .null, .null, .null, .null, .null, .int 0])) :: L))) (XQv E (fun (u : (Nat → Nat) × (Nat → Nat → Nat) × XG) => GR K F G u.1 u.2.1 u.2.2 ∧ (OBz 6 J u.1 u.2.1 u.2.2 a) ∧ (N11 K → N11 u.1)) (fun u H => TX E u.1 u.2.1 u.2.2 L H)) 6 6480 (xA E) := by
  refine x_enter (by decide) (Nat.le_of_ble_eq_true rfl) ?_
  intro p e s m args below meth c Q S hr hlk hnm hQ hP ls hl
  obtain ⟨hz, hK, hT⟩ := hP
  obtain ⟨hx, hb, -, -, -⟩ := id S
  obtain ⟨H, hT, hS, hgo⟩ : ∃ H : Heap, TX E K F G ((a, .inr (5, [.null, .null, .null, .null, .null, .null, .int 0])) :: L) H ∧ va_S (xA E) s.heap H [] ∧ H = s.heap := ⟨_, hT, va_S.rf, rfl⟩
  rw [← hgo]
  have hl : lv_has ls 1 [(0, .ref a)] := hl
  obtain ⟨hK, hA⟩ := hK
  obtain ⟨K0, eK⟩ : ∃ K0 : Nat → Nat, K0 = K := ⟨_, rfl⟩
  obtain ⟨F9, eF⟩ : ∃ F9 : Nat → Nat → Nat, F9 = F := ⟨_, rfl⟩
  obtain ⟨G0, eG⟩ : ∃ G0 : XG, G0 = G := ⟨_, rfl⟩
  have hgr : GR K0 F9 G0 K F G := by rw [eK, eF, eG]; exact GR.rf
  have hN : N11 K0 → N11 K := by rw [eK]; exact id
  refine lv_aload_n hx hb dX4_init_0 rfl (lv_at hl 0 rfl) ?_
  refine W.objInit hx hb S.2.2.2.1 (S.2.2.2.2 _ (List.mem_cons_of_mem _ km_X4_5)) (S.2.2.2.2 _ (List.mem_cons_of_mem _ koi.1)) (S.2.2.2.2 _ (List.mem_cons_of_mem _ koi.2)) rfl (by rw [S.2.2.1]; exact hl.1) rfl dX4_init_1 (Nat.le_of_ble_eq_true rfl) (Nat.le_of_ble_eq_true rfl) ?_
  refine W.eq (g2 := F0 m 4 ls []) rfl ?_
  refine lv_aload_n hx hb dX4_init_4 rfl (lv_at hl 0 rfl) ?_
  refine lv_sipush (v := 1080) hx hb dX4_init_5 (by decide) ?_
  refine tx_na0 S hK hz hT hS (N := 1080) (by decide) (by decide) (Nat.le_of_ble_eq_true rfl) (Nat.le_of_ble_eq_true rfl) (Nat.le_of_ble_eq_true rfl) dX4_init_8 (fun q1 H hT hS => ?_)
  refine tx_putF (C := RX4) (T := TX4) (N := 7) (ci := 5) (ty := (.array .int)) S hK hT hS inX4 tyX4 tyX4_ok nmX4 1 rfl rfl 0 (by decide) kf_X4_13 rfl hnm rfl (by decide +kernel) rfl rfl (Nat.le_of_ble_eq_true rfl) dX4_init_10 (fun H locs hT hS => ?_)
  have hT : TX E K F G ((q1, .inl (E.2.1 0, 1080, .inl (fun _ => 0))) :: (a, .inr (5, [.ref q1, .null, .null, .null, .null, .null, .int 0])) :: L) H := hT
  refine lv_aload_n hx hb dX4_init_13 rfl (lv_at hl 0 rfl) ?_
  refine lv_sipush (v := 1080) hx hb dX4_init_14 (by decide) ?_
  refine tx_na0 S hK hz hT hS (N := 1080) (by decide) (by decide) (Nat.le_of_ble_eq_true rfl) (Nat.le_of_ble_eq_true rfl) (Nat.le_of_ble_eq_true rfl) dX4_init_17 (fun q2 H hT hS => ?_)
  refine tx_putF (C := RX4) (T := TX4) (N := 7) (ci := 5) (ty := (.array .int)) S hK hT hS inX4 tyX4 tyX4_ok nmX4 2 rfl rfl 1 (by decide) kf_X4_17 rfl hnm rfl (by decide +kernel) rfl rfl (Nat.le_of_ble_eq_true rfl) dX4_init_19 (fun H locs hT hS => ?_)
  have hT : TX E K F G ((q2, .inl (E.2.1 0, 1080, .inl (fun _ => 0))) :: (q1, .inl (E.2.1 0, 1080, .inl (fun _ => 0))) :: (a, .inr (5, [.ref q1, .ref q2, .null, .null, .null, .null, .int 0])) :: L) H := hT
  refine lv_aload_n hx hb dX4_init_22 rfl (lv_at hl 0 rfl) ?_
  refine lv_sipush (v := 1080) hx hb dX4_init_23 (by decide) ?_
  refine tx_na0 S hK hz hT hS (N := 1080) (by decide) (by decide) (Nat.le_of_ble_eq_true rfl) (Nat.le_of_ble_eq_true rfl) (Nat.le_of_ble_eq_true rfl) dX4_init_26 (fun q3 H hT hS => ?_)
  refine tx_putF (C := RX4) (T := TX4) (N := 7) (ci := 5) (ty := (.array .int)) S hK hT hS inX4 tyX4 tyX4_ok nmX4 3 rfl rfl 2 (by decide) kf_X4_20 rfl hnm rfl (by decide +kernel) rfl rfl (Nat.le_of_ble_eq_true rfl) dX4_init_28 (fun H locs hT hS => ?_)
  have hT : TX E K F G ((q3, .inl (E.2.1 0, 1080, .inl (fun _ => 0))) :: (q2, .inl (E.2.1 0, 1080, .inl (fun _ => 0))) :: (q1, .inl (E.2.1 0, 1080, .inl (fun _ => 0))) :: (a, .inr (5, [.ref q1, .ref q2, .ref q3, .null, .null, .null, .int 0])) :: L) H := hT
  refine lv_aload_n hx hb dX4_init_31 rfl (lv_at hl 0 rfl) ?_
  refine lv_sipush (v := 1080) hx hb dX4_init_32 (by decide) ?_
  refine tx_na0 S hK hz hT hS (N := 1080) (by decide) (by decide) (Nat.le_of_ble_eq_true rfl) (Nat.le_of_ble_eq_true rfl) (Nat.le_of_ble_eq_true rfl) dX4_init_35 (fun q4 H hT hS => ?_)
  refine tx_putF (C := RX4) (T := TX4) (N := 7) (ci := 5) (ty := (.array .int)) S hK hT hS inX4 tyX4 tyX4_ok nmX4 4 rfl rfl 3 (by decide) kf_X4_23 rfl hnm rfl (by decide +kernel) rfl rfl (Nat.le_of_ble_eq_true rfl) dX4_init_37 (fun H locs hT hS => ?_)
  have hT : TX E K F G ((q4, .inl (E.2.1 0, 1080, .inl (fun _ => 0))) :: (q3, .inl (E.2.1 0, 1080, .inl (fun _ => 0))) :: (q2, .inl (E.2.1 0, 1080, .inl (fun _ => 0))) :: (q1, .inl (E.2.1 0, 1080, .inl (fun _ => 0))) :: (a, .inr (5, [.ref q1, .ref q2, .ref q3, .ref q4, .null, .null, .int 0])) :: L) H := hT
  refine lv_aload_n hx hb dX4_init_40 rfl (lv_at hl 0 rfl) ?_
  refine lv_sipush (v := 1080) hx hb dX4_init_41 (by decide) ?_
  refine tx_na3 S hK hz hT hS (N := 1080) (by decide) (by decide) (Nat.le_of_ble_eq_true rfl) (Nat.le_of_ble_eq_true rfl) (Nat.le_of_ble_eq_true rfl) dX4_init_44 (fun q5 H hT hS => ?_)
  refine tx_putF (C := RX4) (T := TX4) (N := 7) (ci := 5) (ty := (.array .boolean)) S hK hT hS inX4 tyX4 tyX4_ok nmX4 5 rfl rfl 4 (by decide) kf_X4_26 rfl hnm rfl (by decide +kernel) rfl rfl (Nat.le_of_ble_eq_true rfl) dX4_init_46 (fun H locs hT hS => ?_)
  have hT : TX E K F G ((q5, .inl (E.2.1 3, 1080, .inl (fun _ => 0))) :: (q4, .inl (E.2.1 0, 1080, .inl (fun _ => 0))) :: (q3, .inl (E.2.1 0, 1080, .inl (fun _ => 0))) :: (q2, .inl (E.2.1 0, 1080, .inl (fun _ => 0))) :: (q1, .inl (E.2.1 0, 1080, .inl (fun _ => 0))) :: (a, .inr (5, [.ref q1, .ref q2, .ref q3, .ref q4, .ref q5, .null, .int 0])) :: L) H := hT
  refine lv_aload_n hx hb dX4_init_49 rfl (lv_at hl 0 rfl) ?_
  refine lv_sipush (v := 1080) hx hb dX4_init_50 (by decide) ?_
  refine tx_na3 S hK hz hT hS (N := 1080) (by decide) (by decide) (Nat.le_of_ble_eq_true rfl) (Nat.le_of_ble_eq_true rfl) (Nat.le_of_ble_eq_true rfl) dX4_init_53 (fun q6 H hT hS => ?_)
  refine tx_putF (C := RX4) (T := TX4) (N := 7) (ci := 5) (ty := (.array .boolean)) S hK hT hS inX4 tyX4 tyX4_ok nmX4 6 rfl rfl 5 (by decide) kf_X4_30 rfl hnm rfl (by decide +kernel) rfl rfl (Nat.le_of_ble_eq_true rfl) dX4_init_55 (fun H locs hT hS => ?_)
  have hT : TX E K F G ((q6, .inl (E.2.1 3, 1080, .inl (fun _ => 0))) :: (q5, .inl (E.2.1 3, 1080, .inl (fun _ => 0))) :: (q4, .inl (E.2.1 0, 1080, .inl (fun _ => 0))) :: (q3, .inl (E.2.1 0, 1080, .inl (fun _ => 0))) :: (q2, .inl (E.2.1 0, 1080, .inl (fun _ => 0))) :: (q1, .inl (E.2.1 0, 1080, .inl (fun _ => 0))) :: (a, .inr (5, [.ref q1, .ref q2, .ref q3, .ref q4, .ref q5, .ref q6, .int 0])) :: L) H := hT
  obtain ⟨K, F, G, g, hall, n1, hT⟩ := TX.cls (L := ((a, .inr (5, [.ref q1, .ref q2, .ref q3, .ref q4, .ref q5, .ref q6, .int 0])) :: L)) [(q6, 23, 10 * J + 5, 3, 1080, (fun _ => 0)), (q5, 23, 10 * J + 4, 3, 1080, (fun _ => 0)), (q4, 22, 10 * J + 3, 0, 1080, (fun _ => 0)), (q3, 22, 10 * J + 2, 0, 1080, (fun _ => 0)), (q2, 22, 10 * J + 1, 0, 1080, (fun _ => 0)), (q1, 22, 10 * J + 0, 0, 1080, (fun _ => 0))] hT (List.forall_mem_cons.mpr ⟨⟨(show (23 : Nat) ≠ 0 by decide), (show (23 : Nat) ≠ 11 by decide), fun _ _ _ _ _ => ⟨3, 1080, rfl, rfl, (fun _ => xok_3)⟩⟩, List.forall_mem_cons.mpr ⟨⟨(show (23 : Nat) ≠ 0 by decide), (show (23 : Nat) ≠ 11 by decide), fun _ _ _ _ _ => ⟨3, 1080, rfl, rfl, (fun _ => xok_3)⟩⟩, List.forall_mem_cons.mpr ⟨⟨(show (22 : Nat) ≠ 0 by decide), (show (22 : Nat) ≠ 11 by decide), fun _ _ _ _ _ => ⟨0, 1080, rfl, rfl, (fun _ => trivial)⟩⟩, List.forall_mem_cons.mpr ⟨⟨(show (22 : Nat) ≠ 0 by decide), (show (22 : Nat) ≠ 11 by decide), fun _ _ _ _ _ => ⟨0, 1080, rfl, rfl, (fun _ => trivial)⟩⟩, List.forall_mem_cons.mpr ⟨⟨(show (22 : Nat) ≠ 0 by decide), (show (22 : Nat) ≠ 11 by decide), fun _ _ _ _ _ => ⟨0, 1080, rfl, rfl, (fun _ => trivial)⟩⟩, List.forall_mem_cons.mpr ⟨⟨(show (22 : Nat) ≠ 0 by decide), (show (22 : Nat) ≠ 11 by decide), fun _ _ _ _ _ => ⟨0, 1080, rfl, rfl, (fun _ => trivial)⟩⟩, List.forall_mem_nil _⟩⟩⟩⟩⟩⟩)
  have hgr := hgr.tr g
  have hN : N11 K0 → N11 K := fun h => n1 (hN h)
  have a_q6 : K q6 = 23 ∧ F q6 99 = 10 * J + 5 ∧ G.2.1 q6 = (fun _ => 0) := hall _ (List.mem_of_getElem? (i := 0) rfl)
  have a_q5 : K q5 = 23 ∧ F q5 99 = 10 * J + 4 ∧ G.2.1 q5 = (fun _ => 0) := hall _ (List.mem_of_getElem? (i := 1) rfl)
  have a_q4 : K q4 = 22 ∧ F q4 99 = 10 * J + 3 ∧ G.2.1 q4 = (fun _ => 0) := hall _ (List.mem_of_getElem? (i := 2) rfl)
  have a_q3 : K q3 = 22 ∧ F q3 99 = 10 * J + 2 ∧ G.2.1 q3 = (fun _ => 0) := hall _ (List.mem_of_getElem? (i := 3) rfl)
  have a_q2 : K q2 = 22 ∧ F q2 99 = 10 * J + 1 ∧ G.2.1 q2 = (fun _ => 0) := hall _ (List.mem_of_getElem? (i := 4) rfl)
  have a_q1 : K q1 = 22 ∧ F q1 99 = 10 * J + 0 ∧ G.2.1 q1 = (fun _ => 0) := hall _ (List.mem_of_getElem? (i := 5) rfl)
  obtain ⟨K, F, G, g, hk, hFa, hd, -, -, n1, hT⟩ := TX.cl (a := a) hT 6 (fvx J [q1, q2, q3, q4, q5, q6, 0]) (fun _ => 0) (fun _ => 0) (fun _ => none) (by decide) (fun K1 F1 hM hFF hF => ⟨by rw [hF] <;> rfl, by rw [hF]; exact hM _ _ a_q1.1 (by decide), by rw [hF]; exact (congrFun (hFF q1 (by rw [a_q1.1]; decide)) 99).trans a_q1.2.1, by rw [hF]; exact hM _ _ a_q2.1 (by decide), by rw [hF]; exact (congrFun (hFF q2 (by rw [a_q2.1]; decide)) 99).trans a_q2.2.1, by rw [hF]; exact hM _ _ a_q3.1 (by decide), by rw [hF]; exact (congrFun (hFF q3 (by rw [a_q3.1]; decide)) 99).trans a_q3.2.1, by rw [hF]; exact hM _ _ a_q4.1 (by decide), by rw [hF]; exact (congrFun (hFF q4 (by rw [a_q4.1]; decide)) 99).trans a_q4.2.1, by rw [hF]; exact hM _ _ a_q5.1 (by decide), by rw [hF]; exact (congrFun (hFF q5 (by rw [a_q5.1]; decide)) 99).trans a_q5.2.1, by rw [hF]; exact hM _ _ a_q6.1 (by decide), by rw [hF]; exact (congrFun (hFF q6 (by rw [a_q6.1]; decide)) 99).trans a_q6.2.1⟩)
  have n1 := n1 (by decide)
  have hgr := hgr.tr g
  have a_q6 : K q6 = 23 ∧ F q6 99 = 10 * J + 5 ∧ G.2.1 q6 = (fun _ => 0) := ⟨g.k a_q6.1 (by decide), by rw [(g.at a_q6.1 (by decide)).1]; exact a_q6.2.1, (g.at a_q6.1 (by decide)).2.2.1.trans a_q6.2.2⟩
  have a_q5 : K q5 = 23 ∧ F q5 99 = 10 * J + 4 ∧ G.2.1 q5 = (fun _ => 0) := ⟨g.k a_q5.1 (by decide), by rw [(g.at a_q5.1 (by decide)).1]; exact a_q5.2.1, (g.at a_q5.1 (by decide)).2.2.1.trans a_q5.2.2⟩
  have a_q4 : K q4 = 22 ∧ F q4 99 = 10 * J + 3 ∧ G.2.1 q4 = (fun _ => 0) := ⟨g.k a_q4.1 (by decide), by rw [(g.at a_q4.1 (by decide)).1]; exact a_q4.2.1, (g.at a_q4.1 (by decide)).2.2.1.trans a_q4.2.2⟩
  have a_q3 : K q3 = 22 ∧ F q3 99 = 10 * J + 2 ∧ G.2.1 q3 = (fun _ => 0) := ⟨g.k a_q3.1 (by decide), by rw [(g.at a_q3.1 (by decide)).1]; exact a_q3.2.1, (g.at a_q3.1 (by decide)).2.2.1.trans a_q3.2.2⟩
  have a_q2 : K q2 = 22 ∧ F q2 99 = 10 * J + 1 ∧ G.2.1 q2 = (fun _ => 0) := ⟨g.k a_q2.1 (by decide), by rw [(g.at a_q2.1 (by decide)).1]; exact a_q2.2.1, (g.at a_q2.1 (by decide)).2.2.1.trans a_q2.2.2⟩
  have a_q1 : K q1 = 22 ∧ F q1 99 = 10 * J + 0 ∧ G.2.1 q1 = (fun _ => 0) := ⟨g.k a_q1.1 (by decide), by rw [(g.at a_q1.1 (by decide)).1]; exact a_q1.2.1, (g.at a_q1.1 (by decide)).2.2.1.trans a_q1.2.2⟩
  have hN : N11 K0 → N11 K := fun h => n1 (hN h)
  have hpo : OBz 6 J K F G a := ⟨hk, by rw [hFa]; rfl, hd⟩
  exact x_rv hx hb hr hlk hQ (Nat.le_of_ble_eq_true rfl) (Nat.le_of_ble_eq_true rfl) hS dX4_init_58 (K, F, G) ⟨by rw [eK, eF, eG] at hgr; exact hgr, hpo, by rw [eK] at hN; exact hN⟩ hT

abbrev rm_X1_init : Room := { frames := 1, cells := 3, slots := 96, locals := 12 }
set_option maxHeartbeats 4000000 in
set_option maxRecDepth 100000 in
theorem c_X1_init (l : Launch) (E : XE) (K : Nat → Nat) (F : Nat → Nat → Nat) (G : XG) (L : va_W) (a : Nat) : Met l yX1_init (xw yX1_init cX1_init 1 none) rm_X1_init (va_Pc [.ref a] (XPx E K F G ((a, .inr (2, [.null, .null, .null, .int 0])) :: L))) (XQv E (fun (u : (Nat → Nat) × (Nat → Nat → Nat) × XG) => GR K F G u.1 u.2.1 u.2.2 ∧ (KNo 3 0 u.1 u.2.1 a) ∧ (N11 K → N11 u.1)) (fun u H => TX E u.1 u.2.1 u.2.2 L H)) 3 96 (xA E) := by
  refine x_enter (by decide) (Nat.le_of_ble_eq_true rfl) ?_
  intro p e s m args below meth c Q S hr hlk hnm hQ hP ls hl
  obtain ⟨hz, hK, hT⟩ := hP
  obtain ⟨hx, hb, -, -, -⟩ := id S
  obtain ⟨H, hT, hS, hgo⟩ : ∃ H : Heap, TX E K F G ((a, .inr (2, [.null, .null, .null, .int 0])) :: L) H ∧ va_S (xA E) s.heap H [] ∧ H = s.heap := ⟨_, hT, va_S.rf, rfl⟩
  rw [← hgo]
  have hl : lv_has ls 1 [(0, .ref a)] := hl
  obtain ⟨hK, hA⟩ := hK
  obtain ⟨K0, eK⟩ : ∃ K0 : Nat → Nat, K0 = K := ⟨_, rfl⟩
  obtain ⟨F9, eF⟩ : ∃ F9 : Nat → Nat → Nat, F9 = F := ⟨_, rfl⟩
  obtain ⟨G0, eG⟩ : ∃ G0 : XG, G0 = G := ⟨_, rfl⟩
  have hgr : GR K0 F9 G0 K F G := by rw [eK, eF, eG]; exact GR.rf
  have hN : N11 K0 → N11 K := by rw [eK]; exact id
  refine lv_aload_n hx hb dX1_init_0 rfl (lv_at hl 0 rfl) ?_
  refine W.objInit hx hb S.2.2.2.1 (S.2.2.2.2 _ (List.mem_cons_of_mem _ km_X1_3)) (S.2.2.2.2 _ (List.mem_cons_of_mem _ koi.1)) (S.2.2.2.2 _ (List.mem_cons_of_mem _ koi.2)) rfl (by rw [S.2.2.1]; exact hl.1) rfl dX1_init_1 (Nat.le_of_ble_eq_true rfl) (Nat.le_of_ble_eq_true rfl) ?_
  refine W.eq (g2 := F0 m 4 ls []) rfl ?_
  refine lv_aload_n hx hb dX1_init_4 rfl (lv_at hl 0 rfl) ?_
  refine lv_iconst (v := 3) hx hb dX1_init_5 (by decide) ?_
  refine tx_na0 S hK hz hT hS (N := 3) (by decide) (by decide) (Nat.le_of_ble_eq_true rfl) (Nat.le_of_ble_eq_true rfl) (Nat.le_of_ble_eq_true rfl) dX1_init_6 (fun q1 H hT hS => ?_)
  refine tx_putF (C := RX1) (T := TX1) (N := 4) (ci := 2) (ty := (.array .int)) S hK hT hS inX1 tyX1 tyX1_ok nmX1 1 rfl rfl 0 (by decide) kf_X1_9 rfl hnm rfl (by decide +kernel) rfl rfl (Nat.le_of_ble_eq_true rfl) dX1_init_8 (fun H locs hT hS => ?_)
  have hT : TX E K F G ((q1, .inl (E.2.1 0, 3, .inl (fun _ => 0))) :: (a, .inr (2, [.ref q1, .null, .null, .int 0])) :: L) H := hT
  refine lv_aload_n hx hb dX1_init_11 rfl (lv_at hl 0 rfl) ?_
  refine lv_iconst (v := 3) hx hb dX1_init_12 (by decide) ?_
  refine tx_na0 S hK hz hT hS (N := 3) (by decide) (by decide) (Nat.le_of_ble_eq_true rfl) (Nat.le_of_ble_eq_true rfl) (Nat.le_of_ble_eq_true rfl) dX1_init_13 (fun q2 H hT hS => ?_)
  refine tx_putF (C := RX1) (T := TX1) (N := 4) (ci := 2) (ty := (.array .int)) S hK hT hS inX1 tyX1 tyX1_ok nmX1 2 rfl rfl 1 (by decide) kf_X1_15 rfl hnm rfl (by decide +kernel) rfl rfl (Nat.le_of_ble_eq_true rfl) dX1_init_15 (fun H locs hT hS => ?_)
  have hT : TX E K F G ((q2, .inl (E.2.1 0, 3, .inl (fun _ => 0))) :: (q1, .inl (E.2.1 0, 3, .inl (fun _ => 0))) :: (a, .inr (2, [.ref q1, .ref q2, .null, .int 0])) :: L) H := hT
  refine lv_aload_n hx hb dX1_init_18 rfl (lv_at hl 0 rfl) ?_
  refine lv_bipush (v := 90) hx hb dX1_init_19 (by decide) ?_
  refine tx_na0 S hK hz hT hS (N := 90) (by decide) (by decide) (Nat.le_of_ble_eq_true rfl) (Nat.le_of_ble_eq_true rfl) (Nat.le_of_ble_eq_true rfl) dX1_init_21 (fun q3 H hT hS => ?_)
  refine tx_putF (C := RX1) (T := TX1) (N := 4) (ci := 2) (ty := (.array .int)) S hK hT hS inX1 tyX1 tyX1_ok nmX1 3 rfl rfl 2 (by decide) kf_X1_18 rfl hnm rfl (by decide +kernel) rfl rfl (Nat.le_of_ble_eq_true rfl) dX1_init_23 (fun H locs hT hS => ?_)
  have hT : TX E K F G ((q3, .inl (E.2.1 0, 90, .inl (fun _ => 0))) :: (q2, .inl (E.2.1 0, 3, .inl (fun _ => 0))) :: (q1, .inl (E.2.1 0, 3, .inl (fun _ => 0))) :: (a, .inr (2, [.ref q1, .ref q2, .ref q3, .int 0])) :: L) H := hT
  obtain ⟨K, F, G, g, hall, n1, hT⟩ := TX.cls (L := ((a, .inr (2, [.ref q1, .ref q2, .ref q3, .int 0])) :: L)) [(q3, 24, 4, 0, 90, (fun _ => 0)), (q2, 21, 101, 0, 3, (fun _ => 0)), (q1, 21, 100, 0, 3, (fun _ => 0))] hT (List.forall_mem_cons.mpr ⟨⟨(show (24 : Nat) ≠ 0 by decide), (show (24 : Nat) ≠ 11 by decide), fun _ _ _ _ _ => ⟨0, 90, rfl, rfl, (fun _ => trivial)⟩⟩, List.forall_mem_cons.mpr ⟨⟨(show (21 : Nat) ≠ 0 by decide), (show (21 : Nat) ≠ 11 by decide), fun _ _ _ _ _ => ⟨0, 3, rfl, rfl, (fun _ => trivial)⟩⟩, List.forall_mem_cons.mpr ⟨⟨(show (21 : Nat) ≠ 0 by decide), (show (21 : Nat) ≠ 11 by decide), fun _ _ _ _ _ => ⟨0, 3, rfl, rfl, (fun _ => trivial)⟩⟩, List.forall_mem_nil _⟩⟩⟩)
  have hgr := hgr.tr g
  have hN : N11 K0 → N11 K := fun h => n1 (hN h)
  have a_q3 : K q3 = 24 ∧ F q3 99 = 4 ∧ G.2.1 q3 = (fun _ => 0) := hall _ (List.mem_of_getElem? (i := 0) rfl)
  have a_q2 : K q2 = 21 ∧ F q2 99 = 101 ∧ G.2.1 q2 = (fun _ => 0) := hall _ (List.mem_of_getElem? (i := 1) rfl)
  have a_q1 : K q1 = 21 ∧ F q1 99 = 100 ∧ G.2.1 q1 = (fun _ => 0) := hall _ (List.mem_of_getElem? (i := 2) rfl)
  obtain ⟨K, F, G, g, hk, hFa, hd, -, -, n1, hT⟩ := TX.cl (a := a) hT 3 (fvx 0 [q1, q2, q3, 0]) (fun _ => 0) (fun _ => 0) (fun _ => none) (by decide) (fun K1 F1 hM hFF hF => ⟨by rw [hF] <;> rfl, by rw [hF]; exact hM _ _ a_q1.1 (by decide), by rw [hF]; exact (congrFun (hFF q1 (by rw [a_q1.1]; decide)) 99).trans a_q1.2.1, by rw [hF]; exact hM _ _ a_q2.1 (by decide), by rw [hF]; exact (congrFun (hFF q2 (by rw [a_q2.1]; decide)) 99).trans a_q2.2.1, by rw [hF]; exact hM _ _ a_q3.1 (by decide), by rw [hF]; exact (congrFun (hFF q3 (by rw [a_q3.1]; decide)) 99).trans a_q3.2.1⟩)
  have n1 := n1 (by decide)
  have hgr := hgr.tr g
  have a_q3 : K q3 = 24 ∧ F q3 99 = 4 ∧ G.2.1 q3 = (fun _ => 0) := ⟨g.k a_q3.1 (by decide), by rw [(g.at a_q3.1 (by decide)).1]; exact a_q3.2.1, (g.at a_q3.1 (by decide)).2.2.1.trans a_q3.2.2⟩
  have a_q2 : K q2 = 21 ∧ F q2 99 = 101 ∧ G.2.1 q2 = (fun _ => 0) := ⟨g.k a_q2.1 (by decide), by rw [(g.at a_q2.1 (by decide)).1]; exact a_q2.2.1, (g.at a_q2.1 (by decide)).2.2.1.trans a_q2.2.2⟩
  have a_q1 : K q1 = 21 ∧ F q1 99 = 100 ∧ G.2.1 q1 = (fun _ => 0) := ⟨g.k a_q1.1 (by decide), by rw [(g.at a_q1.1 (by decide)).1]; exact a_q1.2.1, (g.at a_q1.1 (by decide)).2.2.1.trans a_q1.2.2⟩
  have hN : N11 K0 → N11 K := fun h => n1 (hN h)
  have hpo : KNo 3 0 K F a := ⟨hk, by rw [hFa]; rfl⟩
  exact x_rv hx hb hr hlk hQ (Nat.le_of_ble_eq_true rfl) (Nat.le_of_ble_eq_true rfl) hS dX1_init_26 (K, F, G) ⟨by rw [eK, eF, eG] at hgr; exact hgr, hpo, by rw [eK] at hN; exact hN⟩ hT

abbrev rm_X2_init : Room := { frames := 1, cells := 4, slots := 360, locals := 12 }
set_option maxHeartbeats 4000000 in
set_option maxRecDepth 100000 in
theorem c_X2_init (l : Launch) (E : XE) (K : Nat → Nat) (F : Nat → Nat → Nat) (G : XG) (L : va_W) (a : Nat) : Met l yX2_init (xw yX2_init cX2_init 1 none) rm_X2_init (va_Pc [.ref a] (XPx E K F G ((a, .inr (3, [.null, .null, .null, .null, .int 0])) :: L))) (XQv E (fun (u : (Nat → Nat) × (Nat → Nat → Nat) × XG) => GR K F G u.1 u.2.1 u.2.2 ∧ (KNo 4 0 u.1 u.2.1 a) ∧ (N11 K → N11 u.1)) (fun u H => TX E u.1 u.2.1 u.2.2 L H)) 4 360 (xA E) := by
  refine x_enter (by decide) (Nat.le_of_ble_eq_true rfl) ?_
  intro p e s m args below meth c Q S hr hlk hnm hQ hP ls hl
  obtain ⟨hz, hK, hT⟩ := hP
  obtain ⟨hx, hb, -, -, -⟩ := id S
  obtain ⟨H, hT, hS, hgo⟩ : ∃ H : Heap, TX E K F G ((a, .inr (3, [.null, .null, .null, .null, .int 0])) :: L) H ∧ va_S (xA E) s.heap H [] ∧ H = s.heap := ⟨_, hT, va_S.rf, rfl⟩
  rw [← hgo]
  have hl : lv_has ls 1 [(0, .ref a)] := hl
  obtain ⟨hK, hA⟩ := hK
  obtain ⟨K0, eK⟩ : ∃ K0 : Nat → Nat, K0 = K := ⟨_, rfl⟩
  obtain ⟨F9, eF⟩ : ∃ F9 : Nat → Nat → Nat, F9 = F := ⟨_, rfl⟩
  obtain ⟨G0, eG⟩ : ∃ G0 : XG, G0 = G := ⟨_, rfl⟩
  have hgr : GR K0 F9 G0 K F G := by rw [eK, eF, eG]; exact GR.rf
  have hN : N11 K0 → N11 K := by rw [eK]; exact id
  refine lv_aload_n hx hb dX2_init_0 rfl (lv_at hl 0 rfl) ?_
  refine W.objInit hx hb S.2.2.2.1 (S.2.2.2.2 _ (List.mem_cons_of_mem _ km_X2_5)) (S.2.2.2.2 _ (List.mem_cons_of_mem _ koi.1)) (S.2.2.2.2 _ (List.mem_cons_of_mem _ koi.2)) rfl (by rw [S.2.2.1]; exact hl.1) rfl dX2_init_1 (Nat.le_of_ble_eq_true rfl) (Nat.le_of_ble_eq_true rfl) ?_
  refine W.eq (g2 := F0 m 4 ls []) rfl ?_
  refine lv_aload_n hx hb dX2_init_4 rfl (lv_at hl 0 rfl) ?_
  refine lv_bipush (v := 90) hx hb dX2_init_5 (by decide) ?_
  refine tx_na0 S hK hz hT hS (N := 90) (by decide) (by decide) (Nat.le_of_ble_eq_true rfl) (Nat.le_of_ble_eq_true rfl) (Nat.le_of_ble_eq_true rfl) dX2_init_7 (fun q1 H hT hS => ?_)
  refine tx_putF (C := RX2) (T := TX2) (N := 5) (ci := 3) (ty := (.array .int)) S hK hT hS inX2 tyX2 tyX2_ok nmX2 1 rfl rfl 0 (by decide) kf_X2_11 rfl hnm rfl (by decide +kernel) rfl rfl (Nat.le_of_ble_eq_true rfl) dX2_init_9 (fun H locs hT hS => ?_)
  have hT : TX E K F G ((q1, .inl (E.2.1 0, 90, .inl (fun _ => 0))) :: (a, .inr (3, [.ref q1, .null, .null, .null, .int 0])) :: L) H := hT
  refine lv_aload_n hx hb dX2_init_12 rfl (lv_at hl 0 rfl) ?_
  refine lv_bipush (v := 90) hx hb dX2_init_13 (by decide) ?_
  refine tx_na0 S hK hz hT hS (N := 90) (by decide) (by decide) (Nat.le_of_ble_eq_true rfl) (Nat.le_of_ble_eq_true rfl) (Nat.le_of_ble_eq_true rfl) dX2_init_15 (fun q2 H hT hS => ?_)
  refine tx_putF (C := RX2) (T := TX2) (N := 5) (ci := 3) (ty := (.array .int)) S hK hT hS inX2 tyX2 tyX2_ok nmX2 2 rfl rfl 1 (by decide) kf_X2_15 rfl hnm rfl (by decide +kernel) rfl rfl (Nat.le_of_ble_eq_true rfl) dX2_init_17 (fun H locs hT hS => ?_)
  have hT : TX E K F G ((q2, .inl (E.2.1 0, 90, .inl (fun _ => 0))) :: (q1, .inl (E.2.1 0, 90, .inl (fun _ => 0))) :: (a, .inr (3, [.ref q1, .ref q2, .null, .null, .int 0])) :: L) H := hT
  refine lv_aload_n hx hb dX2_init_20 rfl (lv_at hl 0 rfl) ?_
  refine lv_bipush (v := 90) hx hb dX2_init_21 (by decide) ?_
  refine tx_na0 S hK hz hT hS (N := 90) (by decide) (by decide) (Nat.le_of_ble_eq_true rfl) (Nat.le_of_ble_eq_true rfl) (Nat.le_of_ble_eq_true rfl) dX2_init_23 (fun q3 H hT hS => ?_)
  refine tx_putF (C := RX2) (T := TX2) (N := 5) (ci := 3) (ty := (.array .int)) S hK hT hS inX2 tyX2 tyX2_ok nmX2 3 rfl rfl 2 (by decide) kf_X2_18 rfl hnm rfl (by decide +kernel) rfl rfl (Nat.le_of_ble_eq_true rfl) dX2_init_25 (fun H locs hT hS => ?_)
  have hT : TX E K F G ((q3, .inl (E.2.1 0, 90, .inl (fun _ => 0))) :: (q2, .inl (E.2.1 0, 90, .inl (fun _ => 0))) :: (q1, .inl (E.2.1 0, 90, .inl (fun _ => 0))) :: (a, .inr (3, [.ref q1, .ref q2, .ref q3, .null, .int 0])) :: L) H := hT
  refine lv_aload_n hx hb dX2_init_28 rfl (lv_at hl 0 rfl) ?_
  refine lv_bipush (v := 90) hx hb dX2_init_29 (by decide) ?_
  refine tx_na0 S hK hz hT hS (N := 90) (by decide) (by decide) (Nat.le_of_ble_eq_true rfl) (Nat.le_of_ble_eq_true rfl) (Nat.le_of_ble_eq_true rfl) dX2_init_31 (fun q4 H hT hS => ?_)
  refine tx_putF (C := RX2) (T := TX2) (N := 5) (ci := 3) (ty := (.array .int)) S hK hT hS inX2 tyX2 tyX2_ok nmX2 4 rfl rfl 3 (by decide) kf_X2_21 rfl hnm rfl (by decide +kernel) rfl rfl (Nat.le_of_ble_eq_true rfl) dX2_init_33 (fun H locs hT hS => ?_)
  have hT : TX E K F G ((q4, .inl (E.2.1 0, 90, .inl (fun _ => 0))) :: (q3, .inl (E.2.1 0, 90, .inl (fun _ => 0))) :: (q2, .inl (E.2.1 0, 90, .inl (fun _ => 0))) :: (q1, .inl (E.2.1 0, 90, .inl (fun _ => 0))) :: (a, .inr (3, [.ref q1, .ref q2, .ref q3, .ref q4, .int 0])) :: L) H := hT
  obtain ⟨K, F, G, g, hall, n1, hT⟩ := TX.cls (L := ((a, .inr (3, [.ref q1, .ref q2, .ref q3, .ref q4, .int 0])) :: L)) [(q4, 24, 3, 0, 90, (fun _ => 0)), (q3, 24, 2, 0, 90, (fun _ => 0)), (q2, 24, 1, 0, 90, (fun _ => 0)), (q1, 24, 0, 0, 90, (fun _ => 0))] hT (List.forall_mem_cons.mpr ⟨⟨(show (24 : Nat) ≠ 0 by decide), (show (24 : Nat) ≠ 11 by decide), fun _ _ _ _ _ => ⟨0, 90, rfl, rfl, (fun _ => trivial)⟩⟩, List.forall_mem_cons.mpr ⟨⟨(show (24 : Nat) ≠ 0 by decide), (show (24 : Nat) ≠ 11 by decide), fun _ _ _ _ _ => ⟨0, 90, rfl, rfl, (fun _ => trivial)⟩⟩, List.forall_mem_cons.mpr ⟨⟨(show (24 : Nat) ≠ 0 by decide), (show (24 : Nat) ≠ 11 by decide), fun _ _ _ _ _ => ⟨0, 90, rfl, rfl, (fun _ => trivial)⟩⟩, List.forall_mem_cons.mpr ⟨⟨(show (24 : Nat) ≠ 0 by decide), (show (24 : Nat) ≠ 11 by decide), fun _ _ _ _ _ => ⟨0, 90, rfl, rfl, (fun _ => trivial)⟩⟩, List.forall_mem_nil _⟩⟩⟩⟩)
  have hgr := hgr.tr g
  have hN : N11 K0 → N11 K := fun h => n1 (hN h)
  have a_q4 : K q4 = 24 ∧ F q4 99 = 3 ∧ G.2.1 q4 = (fun _ => 0) := hall _ (List.mem_of_getElem? (i := 0) rfl)
  have a_q3 : K q3 = 24 ∧ F q3 99 = 2 ∧ G.2.1 q3 = (fun _ => 0) := hall _ (List.mem_of_getElem? (i := 1) rfl)
  have a_q2 : K q2 = 24 ∧ F q2 99 = 1 ∧ G.2.1 q2 = (fun _ => 0) := hall _ (List.mem_of_getElem? (i := 2) rfl)
  have a_q1 : K q1 = 24 ∧ F q1 99 = 0 ∧ G.2.1 q1 = (fun _ => 0) := hall _ (List.mem_of_getElem? (i := 3) rfl)
  obtain ⟨K, F, G, g, hk, hFa, hd, -, -, n1, hT⟩ := TX.cl (a := a) hT 4 (fvx 0 [q1, q2, q3, q4, 0]) (fun _ => 0) (fun _ => 0) (fun _ => none) (by decide) (fun K1 F1 hM hFF hF => ⟨by rw [hF] <;> rfl, by rw [hF]; exact hM _ _ a_q1.1 (by decide), by rw [hF]; exact (congrFun (hFF q1 (by rw [a_q1.1]; decide)) 99).trans a_q1.2.1, by rw [hF]; exact hM _ _ a_q2.1 (by decide), by rw [hF]; exact (congrFun (hFF q2 (by rw [a_q2.1]; decide)) 99).trans a_q2.2.1, by rw [hF]; exact hM _ _ a_q3.1 (by decide), by rw [hF]; exact (congrFun (hFF q3 (by rw [a_q3.1]; decide)) 99).trans a_q3.2.1, by rw [hF]; exact hM _ _ a_q4.1 (by decide), by rw [hF]; exact (congrFun (hFF q4 (by rw [a_q4.1]; decide)) 99).trans a_q4.2.1⟩)
  have n1 := n1 (by decide)
  have hgr := hgr.tr g
  have a_q4 : K q4 = 24 ∧ F q4 99 = 3 ∧ G.2.1 q4 = (fun _ => 0) := ⟨g.k a_q4.1 (by decide), by rw [(g.at a_q4.1 (by decide)).1]; exact a_q4.2.1, (g.at a_q4.1 (by decide)).2.2.1.trans a_q4.2.2⟩
  have a_q3 : K q3 = 24 ∧ F q3 99 = 2 ∧ G.2.1 q3 = (fun _ => 0) := ⟨g.k a_q3.1 (by decide), by rw [(g.at a_q3.1 (by decide)).1]; exact a_q3.2.1, (g.at a_q3.1 (by decide)).2.2.1.trans a_q3.2.2⟩
  have a_q2 : K q2 = 24 ∧ F q2 99 = 1 ∧ G.2.1 q2 = (fun _ => 0) := ⟨g.k a_q2.1 (by decide), by rw [(g.at a_q2.1 (by decide)).1]; exact a_q2.2.1, (g.at a_q2.1 (by decide)).2.2.1.trans a_q2.2.2⟩
  have a_q1 : K q1 = 24 ∧ F q1 99 = 0 ∧ G.2.1 q1 = (fun _ => 0) := ⟨g.k a_q1.1 (by decide), by rw [(g.at a_q1.1 (by decide)).1]; exact a_q1.2.1, (g.at a_q1.1 (by decide)).2.2.1.trans a_q1.2.2⟩
  have hN : N11 K0 → N11 K := fun h => n1 (hN h)
  have hpo : KNo 4 0 K F a := ⟨hk, by rw [hFa]; rfl⟩
  exact x_rv hx hb hr hlk hQ (Nat.le_of_ble_eq_true rfl) (Nat.le_of_ble_eq_true rfl) hS dX2_init_36 (K, F, G) ⟨by rw [eK, eF, eG] at hgr; exact hgr, hpo, by rw [eK] at hN; exact hN⟩ hT

abbrev rm_X3_init : Room := { frames := 1, cells := 3, slots := 183, locals := 12 }
set_option maxHeartbeats 4000000 in
set_option maxRecDepth 100000 in
theorem c_X3_init (l : Launch) (E : XE) (K : Nat → Nat) (F : Nat → Nat → Nat) (G : XG) (L : va_W) (a : Nat) : Met l yX3_init (xw yX3_init cX3_init 1 none) rm_X3_init (va_Pc [.ref a] (XPx E K F G ((a, .inr (4, [.null, .null, .null, .int 0])) :: L))) (XQv E (fun (u : (Nat → Nat) × (Nat → Nat → Nat) × XG) => GR K F G u.1 u.2.1 u.2.2 ∧ (KNo 5 0 u.1 u.2.1 a) ∧ (N11 K → N11 u.1)) (fun u H => TX E u.1 u.2.1 u.2.2 L H)) 3 183 (xA E) := by
  refine x_enter (by decide) (Nat.le_of_ble_eq_true rfl) ?_
  intro p e s m args below meth c Q S hr hlk hnm hQ hP ls hl
  obtain ⟨hz, hK, hT⟩ := hP
  obtain ⟨hx, hb, -, -, -⟩ := id S
  obtain ⟨H, hT, hS, hgo⟩ : ∃ H : Heap, TX E K F G ((a, .inr (4, [.null, .null, .null, .int 0])) :: L) H ∧ va_S (xA E) s.heap H [] ∧ H = s.heap := ⟨_, hT, va_S.rf, rfl⟩
  rw [← hgo]
  have hl : lv_has ls 1 [(0, .ref a)] := hl
  obtain ⟨hK, hA⟩ := hK
  obtain ⟨K0, eK⟩ : ∃ K0 : Nat → Nat, K0 = K := ⟨_, rfl⟩
  obtain ⟨F9, eF⟩ : ∃ F9 : Nat → Nat → Nat, F9 = F := ⟨_, rfl⟩
  obtain ⟨G0, eG⟩ : ∃ G0 : XG, G0 = G := ⟨_, rfl⟩
  have hgr : GR K0 F9 G0 K F G := by rw [eK, eF, eG]; exact GR.rf
  have hN : N11 K0 → N11 K := by rw [eK]; exact id
  refine lv_aload_n hx hb dX3_init_0 rfl (lv_at hl 0 rfl) ?_
  refine W.objInit hx hb S.2.2.2.1 (S.2.2.2.2 _ (List.mem_cons_of_mem _ km_X3_3)) (S.2.2.2.2 _ (List.mem_cons_of_mem _ koi.1)) (S.2.2.2.2 _ (List.mem_cons_of_mem _ koi.2)) rfl (by rw [S.2.2.1]; exact hl.1) rfl dX3_init_1 (Nat.le_of_ble_eq_true rfl) (Nat.le_of_ble_eq_true rfl) ?_
  refine W.eq (g2 := F0 m 4 ls []) rfl ?_
  refine lv_aload_n hx hb dX3_init_4 rfl (lv_at hl 0 rfl) ?_
  refine lv_iconst (v := 3) hx hb dX3_init_5 (by decide) ?_
  refine tx_na0 S hK hz hT hS (N := 3) (by decide) (by decide) (Nat.le_of_ble_eq_true rfl) (Nat.le_of_ble_eq_true rfl) (Nat.le_of_ble_eq_true rfl) dX3_init_6 (fun q1 H hT hS => ?_)
  refine tx_putF (C := RX3) (T := TX3) (N := 4) (ci := 4) (ty := (.array .int)) S hK hT hS inX3 tyX3 tyX3_ok nmX3 1 rfl rfl 0 (by decide) kf_X3_9 rfl hnm rfl (by decide +kernel) rfl rfl (Nat.le_of_ble_eq_true rfl) dX3_init_8 (fun H locs hT hS => ?_)
  have hT : TX E K F G ((q1, .inl (E.2.1 0, 3, .inl (fun _ => 0))) :: (a, .inr (4, [.ref q1, .null, .null, .int 0])) :: L) H := hT
  refine lv_aload_n hx hb dX3_init_11 rfl (lv_at hl 0 rfl) ?_
  refine lv_bipush (v := 90) hx hb dX3_init_12 (by decide) ?_
  refine tx_na0 S hK hz hT hS (N := 90) (by decide) (by decide) (Nat.le_of_ble_eq_true rfl) (Nat.le_of_ble_eq_true rfl) (Nat.le_of_ble_eq_true rfl) dX3_init_14 (fun q2 H hT hS => ?_)
  refine tx_putF (C := RX3) (T := TX3) (N := 4) (ci := 4) (ty := (.array .int)) S hK hT hS inX3 tyX3 tyX3_ok nmX3 2 rfl rfl 1 (by decide) kf_X3_15 rfl hnm rfl (by decide +kernel) rfl rfl (Nat.le_of_ble_eq_true rfl) dX3_init_16 (fun H locs hT hS => ?_)
  have hT : TX E K F G ((q2, .inl (E.2.1 0, 90, .inl (fun _ => 0))) :: (q1, .inl (E.2.1 0, 3, .inl (fun _ => 0))) :: (a, .inr (4, [.ref q1, .ref q2, .null, .int 0])) :: L) H := hT
  refine lv_aload_n hx hb dX3_init_19 rfl (lv_at hl 0 rfl) ?_
  refine lv_bipush (v := 90) hx hb dX3_init_20 (by decide) ?_
  refine tx_na0 S hK hz hT hS (N := 90) (by decide) (by decide) (Nat.le_of_ble_eq_true rfl) (Nat.le_of_ble_eq_true rfl) (Nat.le_of_ble_eq_true rfl) dX3_init_22 (fun q3 H hT hS => ?_)
  refine tx_putF (C := RX3) (T := TX3) (N := 4) (ci := 4) (ty := (.array .int)) S hK hT hS inX3 tyX3 tyX3_ok nmX3 3 rfl rfl 2 (by decide) kf_X3_18 rfl hnm rfl (by decide +kernel) rfl rfl (Nat.le_of_ble_eq_true rfl) dX3_init_24 (fun H locs hT hS => ?_)
  have hT : TX E K F G ((q3, .inl (E.2.1 0, 90, .inl (fun _ => 0))) :: (q2, .inl (E.2.1 0, 90, .inl (fun _ => 0))) :: (q1, .inl (E.2.1 0, 3, .inl (fun _ => 0))) :: (a, .inr (4, [.ref q1, .ref q2, .ref q3, .int 0])) :: L) H := hT
  obtain ⟨K, F, G, g, hall, n1, hT⟩ := TX.cls (L := ((a, .inr (4, [.ref q1, .ref q2, .ref q3, .int 0])) :: L)) [(q3, 24, 6, 0, 90, (fun _ => 0)), (q2, 24, 5, 0, 90, (fun _ => 0)), (q1, 21, 102, 0, 3, (fun _ => 0))] hT (List.forall_mem_cons.mpr ⟨⟨(show (24 : Nat) ≠ 0 by decide), (show (24 : Nat) ≠ 11 by decide), fun _ _ _ _ _ => ⟨0, 90, rfl, rfl, (fun _ => trivial)⟩⟩, List.forall_mem_cons.mpr ⟨⟨(show (24 : Nat) ≠ 0 by decide), (show (24 : Nat) ≠ 11 by decide), fun _ _ _ _ _ => ⟨0, 90, rfl, rfl, (fun _ => trivial)⟩⟩, List.forall_mem_cons.mpr ⟨⟨(show (21 : Nat) ≠ 0 by decide), (show (21 : Nat) ≠ 11 by decide), fun _ _ _ _ _ => ⟨0, 3, rfl, rfl, (fun _ => trivial)⟩⟩, List.forall_mem_nil _⟩⟩⟩)
  have hgr := hgr.tr g
  have hN : N11 K0 → N11 K := fun h => n1 (hN h)
  have a_q3 : K q3 = 24 ∧ F q3 99 = 6 ∧ G.2.1 q3 = (fun _ => 0) := hall _ (List.mem_of_getElem? (i := 0) rfl)
  have a_q2 : K q2 = 24 ∧ F q2 99 = 5 ∧ G.2.1 q2 = (fun _ => 0) := hall _ (List.mem_of_getElem? (i := 1) rfl)
  have a_q1 : K q1 = 21 ∧ F q1 99 = 102 ∧ G.2.1 q1 = (fun _ => 0) := hall _ (List.mem_of_getElem? (i := 2) rfl)
  obtain ⟨K, F, G, g, hk, hFa, hd, -, -, n1, hT⟩ := TX.cl (a := a) hT 5 (fvx 0 [q1, q2, q3, 0]) (fun _ => 0) (fun _ => 0) (fun _ => none) (by decide) (fun K1 F1 hM hFF hF => ⟨by rw [hF] <;> rfl, by rw [hF]; exact hM _ _ a_q1.1 (by decide), by rw [hF]; exact (congrFun (hFF q1 (by rw [a_q1.1]; decide)) 99).trans a_q1.2.1, by rw [hF]; exact hM _ _ a_q2.1 (by decide), by rw [hF]; exact (congrFun (hFF q2 (by rw [a_q2.1]; decide)) 99).trans a_q2.2.1, by rw [hF]; exact hM _ _ a_q3.1 (by decide), by rw [hF]; exact (congrFun (hFF q3 (by rw [a_q3.1]; decide)) 99).trans a_q3.2.1⟩)
  have n1 := n1 (by decide)
  have hgr := hgr.tr g
  have a_q3 : K q3 = 24 ∧ F q3 99 = 6 ∧ G.2.1 q3 = (fun _ => 0) := ⟨g.k a_q3.1 (by decide), by rw [(g.at a_q3.1 (by decide)).1]; exact a_q3.2.1, (g.at a_q3.1 (by decide)).2.2.1.trans a_q3.2.2⟩
  have a_q2 : K q2 = 24 ∧ F q2 99 = 5 ∧ G.2.1 q2 = (fun _ => 0) := ⟨g.k a_q2.1 (by decide), by rw [(g.at a_q2.1 (by decide)).1]; exact a_q2.2.1, (g.at a_q2.1 (by decide)).2.2.1.trans a_q2.2.2⟩
  have a_q1 : K q1 = 21 ∧ F q1 99 = 102 ∧ G.2.1 q1 = (fun _ => 0) := ⟨g.k a_q1.1 (by decide), by rw [(g.at a_q1.1 (by decide)).1]; exact a_q1.2.1, (g.at a_q1.1 (by decide)).2.2.1.trans a_q1.2.2⟩
  have hN : N11 K0 → N11 K := fun h => n1 (hN h)
  have hpo : KNo 5 0 K F a := ⟨hk, by rw [hFa]; rfl⟩
  exact x_rv hx hb hr hlk hQ (Nat.le_of_ble_eq_true rfl) (Nat.le_of_ble_eq_true rfl) hS dX3_init_27 (K, F, G) ⟨by rw [eK, eF, eG] at hgr; exact hgr, hpo, by rw [eK] at hN; exact hN⟩ hT

abbrev rm_J5_init_d00df : Room := { frames := 1, cells := 1, slots := 16, locals := 12 }
set_option maxHeartbeats 4000000 in
set_option maxRecDepth 100000 in
theorem c_J5_init_d00df (l : Launch) (E : XE) (K : Nat → Nat) (F : Nat → Nat → Nat) (G : XG) (L : va_W) (a : Nat)  : Met l yJ5_init_d00df (xw yJ5_init_d00df cJ5_init_d00df 2 none) rm_J5_init_d00df (va_Pc [.ref a, .int 16] (XPx E K F G ((a, .inr (0, [.null, .int 0, .int 0, .int 0])) :: L))) (XQv E (fun (u : Nat) => True) (fun u H => TX E K F G ((a, .inr (0, [.ref u, .int 0, .int 0, .int 0])) :: (u, .inl (E.2.1 2, 16, .inl (fun _ => 0))) :: L) H)) 1 16 (xA E) := by
  refine x_enter (by decide) (Nat.le_of_ble_eq_true rfl) ?_
  intro p e s m args below meth c Q S hr hlk hnm hQ hP ls hl
  obtain ⟨hz, hK, hT⟩ := hP
  obtain ⟨hx, hb, -, -, -⟩ := id S
  obtain ⟨H, hT, hS, hgo⟩ : ∃ H : Heap, TX E K F G ((a, .inr (0, [.null, .int 0, .int 0, .int 0])) :: L) H ∧ va_S (xA E) s.heap H [] ∧ H = s.heap := ⟨_, hT, va_S.rf, rfl⟩
  rw [← hgo]
  have hl : lv_has ls 2 [(0, .ref a), (1, .int 16)] := hl
  obtain ⟨hK, hA⟩ := hK
  refine lv_aload_n hx hb dJ5_init_d00df_0 rfl (lv_at hl 0 rfl) ?_
  refine W.objInit hx hb S.2.2.2.1 (S.2.2.2.2 _ (List.mem_cons_of_mem _ km_J5_3)) (S.2.2.2.2 _ (List.mem_cons_of_mem _ koi.1)) (S.2.2.2.2 _ (List.mem_cons_of_mem _ koi.2)) rfl (by rw [S.2.2.1]; exact hl.1) rfl dJ5_init_d00df_1 (Nat.le_of_ble_eq_true rfl) (Nat.le_of_ble_eq_true rfl) ?_
  refine W.eq (g2 := F0 m 4 ls []) rfl ?_
  refine va_gets hx hb hK.2.2.2.2.1 hS S.2.2.2.1 (S.2.2.2.2 _ (List.mem_cons_of_mem _ kf_J5_18)) (fun _ h => h) dJ5_init_d00df_4 ?_
  refine xi_zeq (tgt := 25) hx hb ((by decide) : Int32.toInt 1 = (1 : Int)) dJ5_init_d00df_7 (by decide) (fun c => absurd c (show ¬ ((1 : Int) = 0) by decide)) (fun _ => ?_)
  refine lv_aload_n hx hb dJ5_init_d00df_10 rfl (lv_at hl 0 rfl) ?_
  refine lv_iload_n hx hb dJ5_init_d00df_11 rfl (lv_at hl 1 rfl) ?_
  refine tx_na2 S hK hz hT hS (N := 16) (by decide) (by decide) (Nat.le_of_ble_eq_true rfl) (Nat.le_of_ble_eq_true rfl) (Nat.le_of_ble_eq_true rfl) dJ5_init_d00df_12 (fun q1 H hT hS => ?_)
  refine tx_put (C := RJ4) (T := TJ4) (N := 4) (ci := 0) (ty := (.array .byte)) S hK hT hS inJ4 tyJ4 tyJ4_ok nmJ4 1 rfl rfl 0 (by decide) kf_J5_15 rfl (by decide +kernel) rfl rfl (Nat.le_of_ble_eq_true rfl) dJ5_init_d00df_14 (fun H locs hT hS => ?_)
  have hT : TX E K F G ((q1, .inl (E.2.1 2, 16, .inl (fun _ => 0))) :: (a, .inr (0, [.ref q1, .int 0, .int 0, .int 0])) :: L) H := hT
  refine lv_aload_n hx hb dJ5_init_d00df_17 rfl (lv_at hl 0 rfl) ?_
  refine lv_iconst (v := 0) hx hb dJ5_init_d00df_18 (by decide) ?_
  refine tx_put (C := RJ4) (T := TJ4) (N := 4) (ci := 0) (ty := .byte) S hK hT hS inJ4 tyJ4 tyJ4_ok nmJ4 1 rfl rfl 1 (by decide) kf_J5_22 rfl (by decide +kernel) rfl rfl (Nat.le_of_ble_eq_true rfl) dJ5_init_d00df_19 (fun H locs hT hS => ?_)
  have hT : TX E K F G ((q1, .inl (E.2.1 2, 16, .inl (fun _ => 0))) :: (a, .inr (0, [.ref q1, .int 0, .int 0, .int 0])) :: L) H := hT
  refine lv_goto (tgt := 38) hx hb dJ5_init_d00df_22 (by decide) ?_
  have hT := hT.sw
  exact x_rv hx hb hr hlk hQ (Nat.le_of_ble_eq_true rfl) (Nat.le_of_ble_eq_true rfl) hS dJ5_init_d00df_38 q1 trivial hT

abbrev rm_J4_init_da8c8 : Room := { frames := 2, cells := 1, slots := 16, locals := 33 }
set_option maxHeartbeats 4000000 in
set_option maxRecDepth 100000 in
theorem c_J4_init_da8c8 (l : Launch) (E : XE) (K : Nat → Nat) (F : Nat → Nat → Nat) (G : XG) (L : va_W) (a : Nat)  : Met l yJ4_init_da8c8 (xw yJ4_init_da8c8 cJ4_init_da8c8 1 none) rm_J4_init_da8c8 (va_Pc [.ref a] (XPx E K F G ((a, .inr (0, [.null, .int 0, .int 0, .int 0])) :: L))) (XQv E (fun (u : Nat) => True) (fun u H => TX E K F G ((a, .inr (0, [.ref u, .int 0, .int 0, .int 0])) :: (u, .inl (E.2.1 2, 16, .inl (fun _ => 0))) :: L) H)) 1 16 (xA E) := by
  refine x_enter (by decide) (Nat.le_of_ble_eq_true rfl) ?_
  intro p e s m args below meth c Q S hr hlk hnm hQ hP ls hl
  obtain ⟨hz, hK, hT⟩ := hP
  obtain ⟨hx, hb, -, -, -⟩ := id S
  obtain ⟨H, hT, hS, hgo⟩ : ∃ H : Heap, TX E K F G ((a, .inr (0, [.null, .int 0, .int 0, .int 0])) :: L) H ∧ va_S (xA E) s.heap H [] ∧ H = s.heap := ⟨_, hT, va_S.rf, rfl⟩
  rw [← hgo]
  have hl : lv_has ls 1 [(0, .ref a)] := hl
  obtain ⟨hK, hA⟩ := hK
  refine lv_aload_n hx hb dJ4_init_da8c8_0 rfl (lv_at hl 0 rfl) ?_
  refine lv_bipush (v := 16) hx hb dJ4_init_da8c8_1 (by decide) ?_
  refine x_cv (x_runI (b := a) (As := [.int 16]) (rest := []) S (c_J5_init_d00df l E K F G (L) a) mi_J5_init_d00df rfl km_J4_1 rfl rfl ⟨Nat.le_of_ble_eq_true rfl, Nat.le_of_ble_eq_true rfl⟩ hK (fun _ => XPx.blind) (fun U hU hW => XPx.at hK hA hz hS hT hU hW) rfl hl.1 (Nat.le_of_ble_eq_true rfl) dJ4_init_da8c8_3 ⟨Nat.le_of_ble_eq_true rfl, Nat.le_of_ble_eq_true rfl⟩) hS ?_
  rintro q1 H locs - hT hS
  have hT : TX E K F G ((a, .inr (0, [.ref q1, .int 0, .int 0, .int 0])) :: (q1, .inl (E.2.1 2, 16, .inl (fun _ => 0))) :: L) H := hT
  exact x_rv hx hb hr hlk hQ (Nat.le_of_ble_eq_true rfl) (Nat.le_of_ble_eq_true rfl) hS dJ4_init_da8c8_6 q1 trivial hT

abbrev rm_X9_init : Room := { frames := 3, cells := 2, slots := 20, locals := 53 }
set_option maxHeartbeats 4000000 in
set_option maxRecDepth 100000 in
theorem c_X9_init (l : Launch) (E : XE) (K : Nat → Nat) (F : Nat → Nat → Nat) (G : XG) (L : va_W) (a : Nat)  : Met l yX9_init (xw yX9_init cX9_init 1 none) rm_X9_init (va_Pc [.ref a] (XPx E K F G ((a, .inr (10, [.null, .int 0, .int 0, .int 0])) :: L))) (XQv E (fun (u : Nat × Nat) => True) (fun u H => TX E K F G ((a, .inr (10, [.ref u.1, .int 0, .int 0, .int 0])) :: (u.1, .inr (0, [.ref u.2, .int 0, .int 0, .int 0])) :: (u.2, .inl (E.2.1 2, 16, .inl (fun _ => 0))) :: L) H)) 2 20 (xA E) := by
  refine x_enter (by decide) (Nat.le_of_ble_eq_true rfl) ?_
  intro p e s m args below meth c Q S hr hlk hnm hQ hP ls hl
  obtain ⟨hz, hK, hT⟩ := hP
  obtain ⟨hx, hb, -, -, -⟩ := id S
  obtain ⟨H, hT, hS, hgo⟩ : ∃ H : Heap, TX E K F G ((a, .inr (10, [.null, .int 0, .int 0, .int 0])) :: L) H ∧ va_S (xA E) s.heap H [] ∧ H = s.heap := ⟨_, hT, va_S.rf, rfl⟩
  rw [← hgo]
  have hl : lv_has ls 1 [(0, .ref a)] := hl
  obtain ⟨hK, hA⟩ := hK
  refine lv_aload_n hx hb dX9_init_0 rfl (lv_at hl 0 rfl) ?_
  refine W.objInit hx hb S.2.2.2.1 (S.2.2.2.2 _ (List.mem_cons_of_mem _ km_X9_3)) (S.2.2.2.2 _ (List.mem_cons_of_mem _ koi.1)) (S.2.2.2.2 _ (List.mem_cons_of_mem _ koi.2)) rfl (by rw [S.2.2.1]; exact hl.1) rfl dX9_init_1 (Nat.le_of_ble_eq_true rfl) (Nat.le_of_ble_eq_true rfl) ?_
  refine W.eq (g2 := F0 m 4 ls []) rfl ?_
  refine lv_aload_n hx hb dX9_init_4 rfl (lv_at hl 0 rfl) ?_
  refine tx_new (ci := 0) (fs := [.null, .int 0, .int 0, .int 0]) S hK hz hT hS inJ4 tyJ4 tyJ4_ok kn_X9_9 kin_J4.1 kin_J4.2 rfl (by intro j hj; match j, hj with | 0, _ => rfl | 1, _ => rfl | 2, _ => rfl | 3, _ => rfl | j + 4, hj => exact absurd hj (by omega)) (Nat.le_of_ble_eq_true rfl) (Nat.le_of_ble_eq_true rfl) dX9_init_5 (fun q1 H hT hS => ?_)
  refine lv_dup hx hb dX9_init_8 rfl ?_
  refine x_cv (x_runI (b := q1) (As := []) (rest := [.ref q1, .ref a]) S (c_J4_init_da8c8 l E K F G ((a, .inr (10, [.null, .int 0, .int 0, .int 0])) :: L) q1) mi_J4_init_da8c8 rfl km_X9_11 rfl rfl ⟨Nat.le_of_ble_eq_true rfl, Nat.le_of_ble_eq_true rfl⟩ hK (fun _ => XPx.blind) (fun U hU hW => XPx.at hK hA hz hS hT hU hW) rfl hl.1 (Nat.le_of_ble_eq_true rfl) dX9_init_9 ⟨Nat.le_of_ble_eq_true rfl, Nat.le_of_ble_eq_true rfl⟩) hS ?_
  rintro q2 H locs - hT hS
  have hT : TX E K F G ((q1, .inr (0, [.ref q2, .int 0, .int 0, .int 0])) :: (q2, .inl (E.2.1 2, 16, .inl (fun _ => 0))) :: (a, .inr (10, [.null, .int 0, .int 0, .int 0])) :: L) H := hT
  refine tx_putF (C := RX9) (T := TX9) (N := 4) (ci := 10) (ty := (.object "java/lang/StringBuilder")) S hK hT hS inX9 tyX9 tyX9_ok nmX9 2 rfl rfl 0 (by decide) kf_X9_12 rfl hnm rfl (by decide +kernel) rfl rfl (Nat.le_of_ble_eq_true rfl) dX9_init_12 (fun H locs hT hS => ?_)
  have hT : TX E K F G ((q1, .inr (0, [.ref q2, .int 0, .int 0, .int 0])) :: (q2, .inl (E.2.1 2, 16, .inl (fun _ => 0))) :: (a, .inr (10, [.ref q1, .int 0, .int 0, .int 0])) :: L) H := hT
  have hT := hT.rot
  exact x_rv hx hb hr hlk hQ (Nat.le_of_ble_eq_true rfl) (Nat.le_of_ble_eq_true rfl) hS dX9_init_15 (q1, q2) trivial hT
def CLz (K : Nat → Nat) (F : Nat → Nat → Nat) (G : XG) (a : Nat) : Prop := K a = 12 ∧ (G.1 a = fun _ => 0) ∧ OBz 10 0 K F G (F a 0) ∧ RDz K F (F a 1) (F a 0) ∧ BKz K F G (F a 2) ∧ RWz 0 K F G (F a 3) ∧ RWz 1 K F G (F a 4) ∧ RWz 3 K F G (F a 6) ∧ (K (F a 7) = 16 ∧ ∀ i : Nat, i < 8 → ∃ q : Nat, G.2.2.1 (F a 7) i = some q ∧ RWz (4 + i) K F G q) ∧ OBz 6 0 K F G (F a 8)
theorem CLz.gr {K K1 : Nat → Nat} {F F1 : Nat → Nat → Nat} {G G1 : XG} {a : Nat} (g : GR K F G K1 F1 G1) (h : CLz K F G a) : CLz K1 F1 G1 a := by
  obtain ⟨a1, a2, a3, a4, a5, a6, a7, a8, ⟨b1, b2⟩, a9⟩ := h
  obtain ⟨f, d, -, -⟩ := g.at a1 (by decide)
  unfold CLz
  rw [f]
  refine ⟨g.k a1 (by decide), d.trans a2, a3.gr g (by decide), a4.gr g, a5.gr g, a6.gr g, a7.gr g, a8.gr g, ⟨g.k b1 (by decide), fun i hi => ?_⟩, a9.gr g (by decide)⟩
  obtain ⟨q, c1, c2⟩ := b2 i hi
  exact ⟨q, by rw [(g.at b1 (by decide)).2.2.2]; exact c1, c2.gr g⟩
abbrev rm_X10_init : Room := { frames := 4, cells := 82, slots := 23570, locals := 73 }
set_option maxHeartbeats 4000000 in
set_option maxRecDepth 100000 in
theorem c_X10_init (l : Launch) (E : XE) (K : Nat → Nat) (F : Nat → Nat → Nat) (G : XG) (L : va_W) (a : Nat) (hN9 : N11 K) : Met l yX10_init (xw yX10_init cX10_init 2 none) rm_X10_init (va_Pc [.ref a] (XPx E K F G ((a, .inr (11, [.null, .null, .null, .null, .null, .null, .null, .null, .null, .null, .null, .null, .null, .null, .null, .null, .null, .int 0, .int 0])) :: L))) (XQv E (fun (u : Nat × Nat × (Nat → Nat) × (Nat → Nat → Nat) × XG) => GR K F G u.2.2.1 u.2.2.2.1 u.2.2.2.2 ∧ CLz u.2.2.1 u.2.2.2.1 u.2.2.2.2 a) (fun u H => TX (E.1, E.2.1, E.2.2.1, u.1, E.2.2.2.2) u.2.2.1 u.2.2.2.1 u.2.2.2.2 ((u.1, .inr (0, [.ref u.2.1, .int 0, .int 0, .int 0])) :: (u.2.1, .inl (E.2.1 2, 16, .inl (fun _ => 0))) :: L) H)) 82 23570 (xA E) := by
  refine x_enter (by decide) (Nat.le_of_ble_eq_true rfl) ?_
  intro p e s m args below meth c Q S hr hlk hnm hQ hP ls hl
  obtain ⟨hz, hK, hT⟩ := hP
  obtain ⟨hx, hb, -, -, -⟩ := id S
  obtain ⟨H, hT, hS, hgo⟩ : ∃ H : Heap, TX E K F G ((a, .inr (11, [.null, .null, .null, .null, .null, .null, .null, .null, .null, .null, .null, .null, .null, .null, .null, .null, .null, .int 0, .int 0])) :: L) H ∧ va_S (xA E) s.heap H [] ∧ H = s.heap := ⟨_, hT, va_S.rf, rfl⟩
  rw [← hgo]
  have hl : lv_has ls 2 [(0, .ref a)] := hl
  obtain ⟨hK, hA⟩ := hK
  obtain ⟨K0, eK⟩ : ∃ K0 : Nat → Nat, K0 = K := ⟨_, rfl⟩
  obtain ⟨F9, eF⟩ : ∃ F9 : Nat → Nat → Nat, F9 = F := ⟨_, rfl⟩
  obtain ⟨G0, eG⟩ : ∃ G0 : XG, G0 = G := ⟨_, rfl⟩
  have hgr : GR K0 F9 G0 K F G := by rw [eK, eF, eG]; exact GR.rf
  have hN : N11 K0 → N11 K := by rw [eK]; exact id
  refine lv_aload_n hx hb dX10_init_0 rfl (lv_at hl 0 rfl) ?_
  refine W.objInit hx hb S.2.2.2.1 (S.2.2.2.2 _ (List.mem_cons_of_mem _ km_X10_3)) (S.2.2.2.2 _ (List.mem_cons_of_mem _ koi.1)) (S.2.2.2.2 _ (List.mem_cons_of_mem _ koi.2)) rfl (by rw [S.2.2.1]; exact hl.1) rfl dX10_init_1 (Nat.le_of_ble_eq_true rfl) (Nat.le_of_ble_eq_true rfl) ?_
  refine W.eq (g2 := F0 m 4 ls []) rfl ?_
  refine lv_aload_n hx hb dX10_init_4 rfl (lv_at hl 0 rfl) ?_
  refine tx_new (ci := 9) (fs := [.null, .int 0]) S hK hz hT hS inX8 tyX8 tyX8_ok kn_X10_9 kin_X8.1 kin_X8.2 rfl (by intro j hj; match j, hj with | 0, _ => rfl | 1, _ => rfl | j + 2, hj => exact absurd hj (by omega)) (Nat.le_of_ble_eq_true rfl) (Nat.le_of_ble_eq_true rfl) dX10_init_5 (fun q1 H hT hS => ?_)
  refine lv_dup hx hb dX10_init_8 rfl ?_
  refine x_cv (x_runI (b := q1) (As := []) (rest := [.ref q1, .ref a]) S (c_X8_init l E K F G ((a, .inr (11, [.null, .null, .null, .null, .null, .null, .null, .null, .null, .null, .null, .null, .null, .null, .null, .null, .null, .int 0, .int 0])) :: L) q1) mi_X8_init rfl km_X10_11 rfl rfl ⟨(Nat.le_of_ble_eq_true rfl), (Nat.le_of_ble_eq_true rfl)⟩ hK (fun _ => XPx.blind) (fun U hU hW => XPx.at hK hA hz hS hT hU hW) rfl hl.1 (Nat.le_of_ble_eq_true rfl) dX10_init_9 ⟨(Nat.le_of_ble_eq_true rfl), (Nat.le_of_ble_eq_true rfl)⟩) hS ?_
  rintro ⟨K, F, G⟩ H locs ⟨g, c_q1, n1⟩ hT hS
  dsimp only at g c_q1 n1 hT
  have hT : TX E K F G ((a, .inr (11, [.null, .null, .null, .null, .null, .null, .null, .null, .null, .null, .null, .null, .null, .null, .null, .null, .null, .int 0, .int 0])) :: L) H := hT
  have hgr := hgr.tr g
  have hN : N11 K0 → N11 K := fun h => n1 (hN h)
  have c_q1 : OBz 10 0 K F G q1 := c_q1
  refine tx_putF (C := RX10) (T := TX10) (N := 19) (ci := 11) (ty := (.object "LateRules$Text")) S hK hT hS inX10 tyX10 tyX10_ok nmX10 0 rfl rfl 0 (by decide) kf_X10_12 rfl hnm rfl (by decide +kernel) rfl rfl (Nat.le_of_ble_eq_true rfl) dX10_init_12 (fun H locs hT hS => ?_)
  have hT : TX E K F G ((a, .inr (11, [.ref q1, .null, .null, .null, .null, .null, .null, .null, .null, .null, .null, .null, .null, .null, .null, .null, .null, .int 0, .int 0])) :: L) H := hT
  refine lv_aload_n hx hb dX10_init_15 rfl (lv_at hl 0 rfl) ?_
  refine tx_new (ci := 6) (fs := [.null, .int 0, .int 0, .int 0, .int 0, .int 0]) S hK hz hT hS inX5 tyX5 tyX5_ok kn_X10_18 kin_X5.1 kin_X5.2 rfl (by intro j hj; match j, hj with | 0, _ => rfl | 1, _ => rfl | 2, _ => rfl | 3, _ => rfl | 4, _ => rfl | 5, _ => rfl | j + 6, hj => exact absurd hj (by omega)) (Nat.le_of_ble_eq_true rfl) (Nat.le_of_ble_eq_true rfl) dX10_init_16 (fun q2 H hT hS => ?_)
  refine lv_dup hx hb dX10_init_19 rfl ?_
  refine lv_aload_n hx hb dX10_init_20 rfl (lv_at hl 0 rfl) ?_
  refine tx_get (C := RX10) (T := TX10) (N := 19) (ci := 11) S hK hT inX10 1 rfl rfl 0 (by decide) kf_X10_12 rfl dX10_init_21 ?_
  refine x_cv0 (x_runI (b := q2) (As := [.ref q1]) (rest := [.ref q2, .ref a]) S (c_X5_init l E K F G ((a, .inr (11, [.ref q1, .null, .null, .null, .null, .null, .null, .null, .null, .null, .null, .null, .null, .null, .null, .null, .null, .int 0, .int 0])) :: L) q2 q1 ⟨c_q1.1, c_q1.2.1⟩) mi_X5_init rfl km_X10_20 rfl rfl ⟨(Nat.le_of_ble_eq_true rfl), (Nat.le_of_ble_eq_true rfl)⟩ hK (fun _ => XPx.blind) (fun U hU hW => XPx.at hK hA hz hS hT hU hW) rfl hl.1 (Nat.le_of_ble_eq_true rfl) dX10_init_24 ⟨(Nat.le_of_ble_eq_true rfl), (Nat.le_of_ble_eq_true rfl)⟩) hS ?_
  rintro ⟨K, F, G⟩ H locs ⟨g, c_q2, n1⟩ hT hS
  dsimp only at g c_q2 n1 hT
  have hT : TX E K F G ((a, .inr (11, [.ref q1, .null, .null, .null, .null, .null, .null, .null, .null, .null, .null, .null, .null, .null, .null, .null, .null, .int 0, .int 0])) :: L) H := hT
  have hgr := hgr.tr g
  have c_q1 := OBz.gr g (by decide) c_q1
  have hN : N11 K0 → N11 K := fun h => n1 (hN h)
  have c_q2 : RDz K F q2 q1 := c_q2
  refine tx_putF (C := RX10) (T := TX10) (N := 19) (ci := 11) (ty := (.object "LateRules$Reader")) S hK hT hS inX10 tyX10 tyX10_ok nmX10 0 rfl rfl 1 (by decide) kf_X10_23 rfl hnm rfl (by decide +kernel) rfl rfl (Nat.le_of_ble_eq_true rfl) dX10_init_27 (fun H locs hT hS => ?_)
  have hT : TX E K F G ((a, .inr (11, [.ref q1, .ref q2, .null, .null, .null, .null, .null, .null, .null, .null, .null, .null, .null, .null, .null, .null, .null, .int 0, .int 0])) :: L) H := hT
  refine lv_aload_n hx hb dX10_init_30 rfl (lv_at hl 0 rfl) ?_
  refine tx_new (ci := 1) (fs := [.null, .null, .int 0]) S hK hz hT hS inX0 tyX0 tyX0_ok kn_X10_27 kin_X0.1 kin_X0.2 rfl (by intro j hj; match j, hj with | 0, _ => rfl | 1, _ => rfl | 2, _ => rfl | j + 3, hj => exact absurd hj (by omega)) (Nat.le_of_ble_eq_true rfl) (Nat.le_of_ble_eq_true rfl) dX10_init_31 (fun q3 H hT hS => ?_)
  refine lv_dup hx hb dX10_init_34 rfl ?_
  refine x_cv (x_runI (b := q3) (As := []) (rest := [.ref q3, .ref a]) S (c_X0_init l E K F G ((a, .inr (11, [.ref q1, .ref q2, .null, .null, .null, .null, .null, .null, .null, .null, .null, .null, .null, .null, .null, .null, .null, .int 0, .int 0])) :: L) q3) mi_X0_init rfl km_X10_29 rfl rfl ⟨(Nat.le_of_ble_eq_true rfl), (Nat.le_of_ble_eq_true rfl)⟩ hK (fun _ => XPx.blind) (fun U hU hW => XPx.at hK hA hz hS hT hU hW) rfl hl.1 (Nat.le_of_ble_eq_true rfl) dX10_init_35 ⟨(Nat.le_of_ble_eq_true rfl), (Nat.le_of_ble_eq_true rfl)⟩) hS ?_
  rintro ⟨K, F, G⟩ H locs ⟨g, c_q3, n1⟩ hT hS
  dsimp only at g c_q3 n1 hT
  have hT : TX E K F G ((a, .inr (11, [.ref q1, .ref q2, .null, .null, .null, .null, .null, .null, .null, .null, .null, .null, .null, .null, .null, .null, .null, .int 0, .int 0])) :: L) H := hT
  have hgr := hgr.tr g
  have c_q1 := OBz.gr g (by decide) c_q1
  have c_q2 := RDz.gr g c_q2
  have hN : N11 K0 → N11 K := fun h => n1 (hN h)
  have c_q3 : BKz K F G q3 := c_q3
  refine tx_putF (C := RX10) (T := TX10) (N := 19) (ci := 11) (ty := (.object "LateRules$Book")) S hK hT hS inX10 tyX10 tyX10_ok nmX10 0 rfl rfl 2 (by decide) kf_X10_30 rfl hnm rfl (by decide +kernel) rfl rfl (Nat.le_of_ble_eq_true rfl) dX10_init_38 (fun H locs hT hS => ?_)
  have hT : TX E K F G ((a, .inr (11, [.ref q1, .ref q2, .ref q3, .null, .null, .null, .null, .null, .null, .null, .null, .null, .null, .null, .null, .null, .null, .int 0, .int 0])) :: L) H := hT
  refine lv_aload_n hx hb dX10_init_41 rfl (lv_at hl 0 rfl) ?_
  refine tx_new (ci := 7) (fs := [.null, .null]) S hK hz hT hS inX6 tyX6 tyX6_ok kn_X10_34 kin_X6.1 kin_X6.2 rfl (by intro j hj; match j, hj with | 0, _ => rfl | 1, _ => rfl | j + 2, hj => exact absurd hj (by omega)) (Nat.le_of_ble_eq_true rfl) (Nat.le_of_ble_eq_true rfl) dX10_init_42 (fun q4 H hT hS => ?_)
  refine lv_dup hx hb dX10_init_45 rfl ?_
  refine x_cv (x_runI (b := q4) (As := []) (rest := [.ref q4, .ref a]) S (c_X6_init l E K F G ((a, .inr (11, [.ref q1, .ref q2, .ref q3, .null, .null, .null, .null, .null, .null, .null, .null, .null, .null, .null, .null, .null, .null, .int 0, .int 0])) :: L) q4 0) mi_X6_init rfl km_X10_36 rfl rfl ⟨(Nat.le_of_ble_eq_true rfl), (Nat.le_of_ble_eq_true rfl)⟩ hK (fun _ => XPx.blind) (fun U hU hW => XPx.at hK hA hz hS hT hU hW) rfl hl.1 (Nat.le_of_ble_eq_true rfl) dX10_init_46 ⟨(Nat.le_of_ble_eq_true rfl), (Nat.le_of_ble_eq_true rfl)⟩) hS ?_
  rintro ⟨K, F, G⟩ H locs ⟨g, c_q4, n1⟩ hT hS
  dsimp only at g c_q4 n1 hT
  have hT : TX E K F G ((a, .inr (11, [.ref q1, .ref q2, .ref q3, .null, .null, .null, .null, .null, .null, .null, .null, .null, .null, .null, .null, .null, .null, .int 0, .int 0])) :: L) H := hT
  have hgr := hgr.tr g
  have c_q1 := OBz.gr g (by decide) c_q1
  have c_q2 := RDz.gr g c_q2
  have c_q3 := BKz.gr g c_q3
  have hN : N11 K0 → N11 K := fun h => n1 (hN h)
  have c_q4 : RWz 0 K F G q4 := c_q4
  refine tx_putF (C := RX10) (T := TX10) (N := 19) (ci := 11) (ty := (.object "LateRules$Rows")) S hK hT hS inX10 tyX10 tyX10_ok nmX10 0 rfl rfl 3 (by decide) kf_X10_37 rfl hnm rfl (by decide +kernel) rfl rfl (Nat.le_of_ble_eq_true rfl) dX10_init_49 (fun H locs hT hS => ?_)
  have hT : TX E K F G ((a, .inr (11, [.ref q1, .ref q2, .ref q3, .ref q4, .null, .null, .null, .null, .null, .null, .null, .null, .null, .null, .null, .null, .null, .int 0, .int 0])) :: L) H := hT
  refine lv_aload_n hx hb dX10_init_52 rfl (lv_at hl 0 rfl) ?_
  refine tx_new (ci := 7) (fs := [.null, .null]) S hK hz hT hS inX6 tyX6 tyX6_ok kn_X10_34 kin_X6.1 kin_X6.2 rfl (by intro j hj; match j, hj with | 0, _ => rfl | 1, _ => rfl | j + 2, hj => exact absurd hj (by omega)) (Nat.le_of_ble_eq_true rfl) (Nat.le_of_ble_eq_true rfl) dX10_init_53 (fun q5 H hT hS => ?_)
  refine lv_dup hx hb dX10_init_56 rfl ?_
  refine x_cv (x_runI (b := q5) (As := []) (rest := [.ref q5, .ref a]) S (c_X6_init l E K F G ((a, .inr (11, [.ref q1, .ref q2, .ref q3, .ref q4, .null, .null, .null, .null, .null, .null, .null, .null, .null, .null, .null, .null, .null, .int 0, .int 0])) :: L) q5 1) mi_X6_init rfl km_X10_36 rfl rfl ⟨(Nat.le_of_ble_eq_true rfl), (Nat.le_of_ble_eq_true rfl)⟩ hK (fun _ => XPx.blind) (fun U hU hW => XPx.at hK hA hz hS hT hU hW) rfl hl.1 (Nat.le_of_ble_eq_true rfl) dX10_init_57 ⟨(Nat.le_of_ble_eq_true rfl), (Nat.le_of_ble_eq_true rfl)⟩) hS ?_
  rintro ⟨K, F, G⟩ H locs ⟨g, c_q5, n1⟩ hT hS
  dsimp only at g c_q5 n1 hT
  have hT : TX E K F G ((a, .inr (11, [.ref q1, .ref q2, .ref q3, .ref q4, .null, .null, .null, .null, .null, .null, .null, .null, .null, .null, .null, .null, .null, .int 0, .int 0])) :: L) H := hT
  have hgr := hgr.tr g
  have c_q1 := OBz.gr g (by decide) c_q1
  have c_q2 := RDz.gr g c_q2
  have c_q3 := BKz.gr g c_q3
  have c_q4 := RWz.gr g c_q4
  have hN : N11 K0 → N11 K := fun h => n1 (hN h)
  have c_q5 : RWz 1 K F G q5 := c_q5
  refine tx_putF (C := RX10) (T := TX10) (N := 19) (ci := 11) (ty := (.object "LateRules$Rows")) S hK hT hS inX10 tyX10 tyX10_ok nmX10 0 rfl rfl 4 (by decide) kf_X10_41 rfl hnm rfl (by decide +kernel) rfl rfl (Nat.le_of_ble_eq_true rfl) dX10_init_60 (fun H locs hT hS => ?_)
  have hT : TX E K F G ((a, .inr (11, [.ref q1, .ref q2, .ref q3, .ref q4, .ref q5, .null, .null, .null, .null, .null, .null, .null, .null, .null, .null, .null, .null, .int 0, .int 0])) :: L) H := hT
  refine lv_aload_n hx hb dX10_init_63 rfl (lv_at hl 0 rfl) ?_
  refine tx_new (ci := 7) (fs := [.null, .null]) S hK hz hT hS inX6 tyX6 tyX6_ok kn_X10_34 kin_X6.1 kin_X6.2 rfl (by intro j hj; match j, hj with | 0, _ => rfl | 1, _ => rfl | j + 2, hj => exact absurd hj (by omega)) (Nat.le_of_ble_eq_true rfl) (Nat.le_of_ble_eq_true rfl) dX10_init_64 (fun q6 H hT hS => ?_)
  refine lv_dup hx hb dX10_init_67 rfl ?_
  refine x_cv (x_runI (b := q6) (As := []) (rest := [.ref q6, .ref a]) S (c_X6_init l E K F G ((a, .inr (11, [.ref q1, .ref q2, .ref q3, .ref q4, .ref q5, .null, .null, .null, .null, .null, .null, .null, .null, .null, .null, .null, .null, .int 0, .int 0])) :: L) q6 2) mi_X6_init rfl km_X10_36 rfl rfl ⟨(Nat.le_of_ble_eq_true rfl), (Nat.le_of_ble_eq_true rfl)⟩ hK (fun _ => XPx.blind) (fun U hU hW => XPx.at hK hA hz hS hT hU hW) rfl hl.1 (Nat.le_of_ble_eq_true rfl) dX10_init_68 ⟨(Nat.le_of_ble_eq_true rfl), (Nat.le_of_ble_eq_true rfl)⟩) hS ?_
  rintro ⟨K, F, G⟩ H locs ⟨g, c_q6, n1⟩ hT hS
  dsimp only at g c_q6 n1 hT
  have hT : TX E K F G ((a, .inr (11, [.ref q1, .ref q2, .ref q3, .ref q4, .ref q5, .null, .null, .null, .null, .null, .null, .null, .null, .null, .null, .null, .null, .int 0, .int 0])) :: L) H := hT
  have hgr := hgr.tr g
  have c_q1 := OBz.gr g (by decide) c_q1
  have c_q2 := RDz.gr g c_q2
  have c_q3 := BKz.gr g c_q3
  have c_q4 := RWz.gr g c_q4
  have c_q5 := RWz.gr g c_q5
  have hN : N11 K0 → N11 K := fun h => n1 (hN h)
  have c_q6 : RWz 2 K F G q6 := c_q6
  refine tx_putF (C := RX10) (T := TX10) (N := 19) (ci := 11) (ty := (.object "LateRules$Rows")) S hK hT hS inX10 tyX10 tyX10_ok nmX10 0 rfl rfl 5 (by decide) kf_X10_44 rfl hnm rfl (by decide +kernel) rfl rfl (Nat.le_of_ble_eq_true rfl) dX10_init_71 (fun H locs hT hS => ?_)
  have hT : TX E K F G ((a, .inr (11, [.ref q1, .ref q2, .ref q3, .ref q4, .ref q5, .ref q6, .null, .null, .null, .null, .null, .null, .null, .null, .null, .null, .null, .int 0, .int 0])) :: L) H := hT
  refine lv_aload_n hx hb dX10_init_74 rfl (lv_at hl 0 rfl) ?_
  refine tx_new (ci := 7) (fs := [.null, .null]) S hK hz hT hS inX6 tyX6 tyX6_ok kn_X10_34 kin_X6.1 kin_X6.2 rfl (by intro j hj; match j, hj with | 0, _ => rfl | 1, _ => rfl | j + 2, hj => exact absurd hj (by omega)) (Nat.le_of_ble_eq_true rfl) (Nat.le_of_ble_eq_true rfl) dX10_init_75 (fun q7 H hT hS => ?_)
  refine lv_dup hx hb dX10_init_78 rfl ?_
  refine x_cv (x_runI (b := q7) (As := []) (rest := [.ref q7, .ref a]) S (c_X6_init l E K F G ((a, .inr (11, [.ref q1, .ref q2, .ref q3, .ref q4, .ref q5, .ref q6, .null, .null, .null, .null, .null, .null, .null, .null, .null, .null, .null, .int 0, .int 0])) :: L) q7 3) mi_X6_init rfl km_X10_36 rfl rfl ⟨(Nat.le_of_ble_eq_true rfl), (Nat.le_of_ble_eq_true rfl)⟩ hK (fun _ => XPx.blind) (fun U hU hW => XPx.at hK hA hz hS hT hU hW) rfl hl.1 (Nat.le_of_ble_eq_true rfl) dX10_init_79 ⟨(Nat.le_of_ble_eq_true rfl), (Nat.le_of_ble_eq_true rfl)⟩) hS ?_
  rintro ⟨K, F, G⟩ H locs ⟨g, c_q7, n1⟩ hT hS
  dsimp only at g c_q7 n1 hT
  have hT : TX E K F G ((a, .inr (11, [.ref q1, .ref q2, .ref q3, .ref q4, .ref q5, .ref q6, .null, .null, .null, .null, .null, .null, .null, .null, .null, .null, .null, .int 0, .int 0])) :: L) H := hT
  have hgr := hgr.tr g
  have c_q1 := OBz.gr g (by decide) c_q1
  have c_q2 := RDz.gr g c_q2
  have c_q3 := BKz.gr g c_q3
  have c_q4 := RWz.gr g c_q4
  have c_q5 := RWz.gr g c_q5
  have c_q6 := RWz.gr g c_q6
  have hN : N11 K0 → N11 K := fun h => n1 (hN h)
  have c_q7 : RWz 3 K F G q7 := c_q7
  refine tx_putF (C := RX10) (T := TX10) (N := 19) (ci := 11) (ty := (.object "LateRules$Rows")) S hK hT hS inX10 tyX10 tyX10_ok nmX10 0 rfl rfl 6 (by decide) kf_X10_47 rfl hnm rfl (by decide +kernel) rfl rfl (Nat.le_of_ble_eq_true rfl) dX10_init_82 (fun H locs hT hS => ?_)
  have hT : TX E K F G ((a, .inr (11, [.ref q1, .ref q2, .ref q3, .ref q4, .ref q5, .ref q6, .ref q7, .null, .null, .null, .null, .null, .null, .null, .null, .null, .null, .int 0, .int 0])) :: L) H := hT
  refine lv_aload_n hx hb dX10_init_85 rfl (lv_at hl 0 rfl) ?_
  refine lv_bipush (v := 8) hx hb dX10_init_86 (by decide) ?_
  refine tx_nq5 S hK hA.2 hz hT hS kn_X10_34 (N := 8) (by decide) (by decide) (Nat.le_of_ble_eq_true rfl) (Nat.le_of_ble_eq_true rfl) (Nat.le_of_ble_eq_true rfl) dX10_init_88 (fun q8 H hT hS => ?_)
  refine tx_putF (C := RX10) (T := TX10) (N := 19) (ci := 11) (ty := (.array (.object "LateRules$Rows"))) S hK hT hS inX10 tyX10 tyX10_ok nmX10 1 rfl rfl 7 (by decide) kf_X10_50 rfl hnm rfl (by decide +kernel) rfl rfl (Nat.le_of_ble_eq_true rfl) dX10_init_91 (fun H locs hT hS => ?_)
  have hT : TX E K F G ((q8, .inl (E.2.1 5, 8, .inr (.inr (.inr (.inr (fun _ => none)))))) :: (a, .inr (11, [.ref q1, .ref q2, .ref q3, .ref q4, .ref q5, .ref q6, .ref q7, .ref q8, .null, .null, .null, .null, .null, .null, .null, .null, .null, .int 0, .int 0])) :: L) H := hT
  refine lv_iconst (v := 0) hx hb dX10_init_94 (by decide) ?_
  refine lv_istore_n (lv' := [(1, .int 0), (0, .ref a)]) hx hb dX10_init_95 rfl hl (by decide) rfl (fun ls hl => ?_)
  refine lv_iload_n hx hb dX10_init_96 rfl (lv_at hl 0 rfl) ?_
  refine lv_bipush (v := 8) hx hb dX10_init_97 (by decide) ?_
  refine xi_cge (tgt := 121) hx hb ((by decide) : Int32.toInt 0 = (0 : Int)) ((by decide) : Int32.toInt 8 = (8 : Int)) dX10_init_99 (by decide) (fun c => absurd c (show ¬ ((8 : Int) ≤ (0 : Int)) by decide)) (fun _ => ?_)
  refine lv_aload_n hx hb dX10_init_102 rfl (lv_at hl 1 rfl) ?_
  refine tx_get (C := RX10) (T := TX10) (N := 19) (ci := 11) S hK hT inX10 1 rfl rfl 7 (by decide) kf_X10_50 rfl dX10_init_103 ?_
  refine lv_iload_n hx hb dX10_init_106 rfl (lv_at hl 0 rfl) ?_
  refine tx_new (ci := 7) (fs := [.null, .null]) S hK hz hT hS inX6 tyX6 tyX6_ok kn_X10_34 kin_X6.1 kin_X6.2 rfl (by intro j hj; match j, hj with | 0, _ => rfl | 1, _ => rfl | j + 2, hj => exact absurd hj (by omega)) (Nat.le_of_ble_eq_true rfl) (Nat.le_of_ble_eq_true rfl) dX10_init_107 (fun q9 H hT hS => ?_)
  refine lv_dup hx hb dX10_init_110 rfl ?_
  refine x_cv (x_runI (b := q9) (As := []) (rest := [.ref q9, .int 0, .ref q8]) S (c_X6_init l E K F G ((q8, .inl (E.2.1 5, 8, .inr (.inr (.inr (.inr (fun _ => none)))))) :: (a, .inr (11, [.ref q1, .ref q2, .ref q3, .ref q4, .ref q5, .ref q6, .ref q7, .ref q8, .null, .null, .null, .null, .null, .null, .null, .null, .null, .int 0, .int 0])) :: L) q9 4) mi_X6_init rfl km_X10_36 rfl rfl ⟨(Nat.le_of_ble_eq_true rfl), (Nat.le_of_ble_eq_true rfl)⟩ hK (fun _ => XPx.blind) (fun U hU hW => XPx.at hK hA hz hS hT hU hW) rfl hl.1 (Nat.le_of_ble_eq_true rfl) dX10_init_111 ⟨(Nat.le_of_ble_eq_true rfl), (Nat.le_of_ble_eq_true rfl)⟩) hS ?_
  rintro ⟨K, F, G⟩ H locs ⟨g, c_q9, n1⟩ hT hS
  dsimp only at g c_q9 n1 hT
  have hT : TX E K F G ((q8, .inl (E.2.1 5, 8, .inr (.inr (.inr (.inr (fun _ => none)))))) :: (a, .inr (11, [.ref q1, .ref q2, .ref q3, .ref q4, .ref q5, .ref q6, .ref q7, .ref q8, .null, .null, .null, .null, .null, .null, .null, .null, .null, .int 0, .int 0])) :: L) H := hT
  have hgr := hgr.tr g
  have c_q1 := OBz.gr g (by decide) c_q1
  have c_q2 := RDz.gr g c_q2
  have c_q3 := BKz.gr g c_q3
  have c_q4 := RWz.gr g c_q4
  have c_q5 := RWz.gr g c_q5
  have c_q6 := RWz.gr g c_q6
  have c_q7 := RWz.gr g c_q7
  have hN : N11 K0 → N11 K := fun h => n1 (hN h)
  have c_q9 : RWz 4 K F G q9 := c_q9
  refine tx_asq S hK hT hS 0 rfl (c_q9.1) (by decide) dX10_init_114 (fun H locs hT hS => ?_)
  have hT : TX E K F G ((q8, .inl (E.2.1 5, 8, .inr (.inr (.inr (.inr (va_up (fun _ => none) 0 (some q9))))))) :: (a, .inr (11, [.ref q1, .ref q2, .ref q3, .ref q4, .ref q5, .ref q6, .ref q7, .ref q8, .null, .null, .null, .null, .null, .null, .null, .null, .null, .int 0, .int 0])) :: L) H := hT
  refine xi_iinc (n := 1) (lv' := fun z9 => [(1, .int z9), (0, .ref a)]) (k := 0) hx hb ((by decide) : Int32.toInt 0 = (0 : Int)) (by decide) dX10_init_115 hl rfl (by decide) (fun _ => rfl) (fun x9 ls t9 hl => ?_)
  have hl : lv_has ls 2 [(1, .int x9), (0, .ref a)] := hl
  have e9 : (1 : Int32).toInt = 1 := by decide
  have h9 : x9 = 1 := Int32.toInt_inj.mp (by rw [e9]; omega)
  subst h9
  have hl : lv_has ls 2 [(1, .int 1), (0, .ref a)] := hl
  refine lv_goto (tgt := 96) hx hb dX10_init_118 (by decide) ?_
  refine lv_iload_n hx hb dX10_init_96 rfl (lv_at hl 0 rfl) ?_
  refine lv_bipush (v := 8) hx hb dX10_init_97 (by decide) ?_
  refine xi_cge (tgt := 121) hx hb ((by decide) : Int32.toInt 1 = (1 : Int)) ((by decide) : Int32.toInt 8 = (8 : Int)) dX10_init_99 (by decide) (fun c => absurd c (show ¬ ((8 : Int) ≤ (1 : Int)) by decide)) (fun _ => ?_)
  refine lv_aload_n hx hb dX10_init_102 rfl (lv_at hl 1 rfl) ?_
  refine tx_get (C := RX10) (T := TX10) (N := 19) (ci := 11) S hK hT inX10 1 rfl rfl 7 (by decide) kf_X10_50 rfl dX10_init_103 ?_
  refine lv_iload_n hx hb dX10_init_106 rfl (lv_at hl 0 rfl) ?_
  refine tx_new (ci := 7) (fs := [.null, .null]) S hK hz hT hS inX6 tyX6 tyX6_ok kn_X10_34 kin_X6.1 kin_X6.2 rfl (by intro j hj; match j, hj with | 0, _ => rfl | 1, _ => rfl | j + 2, hj => exact absurd hj (by omega)) (Nat.le_of_ble_eq_true rfl) (Nat.le_of_ble_eq_true rfl) dX10_init_107 (fun q10 H hT hS => ?_)
  refine lv_dup hx hb dX10_init_110 rfl ?_
  refine x_cv (x_runI (b := q10) (As := []) (rest := [.ref q10, .int 1, .ref q8]) S (c_X6_init l E K F G ((q8, .inl (E.2.1 5, 8, .inr (.inr (.inr (.inr (va_up (fun _ => none) 0 (some q9))))))) :: (a, .inr (11, [.ref q1, .ref q2, .ref q3, .ref q4, .ref q5, .ref q6, .ref q7, .ref q8, .null, .null, .null, .null, .null, .null, .null, .null, .null, .int 0, .int 0])) :: L) q10 5) mi_X6_init rfl km_X10_36 rfl rfl ⟨(Nat.le_of_ble_eq_true rfl), (Nat.le_of_ble_eq_true rfl)⟩ hK (fun _ => XPx.blind) (fun U hU hW => XPx.at hK hA hz hS hT hU hW) rfl hl.1 (Nat.le_of_ble_eq_true rfl) dX10_init_111 ⟨(Nat.le_of_ble_eq_true rfl), (Nat.le_of_ble_eq_true rfl)⟩) hS ?_
  rintro ⟨K, F, G⟩ H locs ⟨g, c_q10, n1⟩ hT hS
  dsimp only at g c_q10 n1 hT
  have hT : TX E K F G ((q8, .inl (E.2.1 5, 8, .inr (.inr (.inr (.inr (va_up (fun _ => none) 0 (some q9))))))) :: (a, .inr (11, [.ref q1, .ref q2, .ref q3, .ref q4, .ref q5, .ref q6, .ref q7, .ref q8, .null, .null, .null, .null, .null, .null, .null, .null, .null, .int 0, .int 0])) :: L) H := hT
  have hgr := hgr.tr g
  have c_q1 := OBz.gr g (by decide) c_q1
  have c_q2 := RDz.gr g c_q2
  have c_q3 := BKz.gr g c_q3
  have c_q4 := RWz.gr g c_q4
  have c_q5 := RWz.gr g c_q5
  have c_q6 := RWz.gr g c_q6
  have c_q7 := RWz.gr g c_q7
  have c_q9 := RWz.gr g c_q9
  have hN : N11 K0 → N11 K := fun h => n1 (hN h)
  have c_q10 : RWz 5 K F G q10 := c_q10
  refine tx_asq S hK hT hS 0 rfl (c_q10.1) (by decide) dX10_init_114 (fun H locs hT hS => ?_)
  have hT : TX E K F G ((q8, .inl (E.2.1 5, 8, .inr (.inr (.inr (.inr (va_up (va_up (fun _ => none) 0 (some q9)) 1 (some q10))))))) :: (a, .inr (11, [.ref q1, .ref q2, .ref q3, .ref q4, .ref q5, .ref q6, .ref q7, .ref q8, .null, .null, .null, .null, .null, .null, .null, .null, .null, .int 0, .int 0])) :: L) H := hT
  refine xi_iinc (n := 1) (lv' := fun z9 => [(1, .int z9), (0, .ref a)]) (k := 0) hx hb ((by decide) : Int32.toInt 1 = (1 : Int)) (by decide) dX10_init_115 hl rfl (by decide) (fun _ => rfl) (fun x9 ls t9 hl => ?_)
  have hl : lv_has ls 2 [(1, .int x9), (0, .ref a)] := hl
  have e9 : (2 : Int32).toInt = 2 := by decide
  have h9 : x9 = 2 := Int32.toInt_inj.mp (by rw [e9]; omega)
  subst h9
  have hl : lv_has ls 2 [(1, .int 2), (0, .ref a)] := hl
  refine lv_goto (tgt := 96) hx hb dX10_init_118 (by decide) ?_
  refine lv_iload_n hx hb dX10_init_96 rfl (lv_at hl 0 rfl) ?_
  refine lv_bipush (v := 8) hx hb dX10_init_97 (by decide) ?_
  refine xi_cge (tgt := 121) hx hb ((by decide) : Int32.toInt 2 = (2 : Int)) ((by decide) : Int32.toInt 8 = (8 : Int)) dX10_init_99 (by decide) (fun c => absurd c (show ¬ ((8 : Int) ≤ (2 : Int)) by decide)) (fun _ => ?_)
  refine lv_aload_n hx hb dX10_init_102 rfl (lv_at hl 1 rfl) ?_
  refine tx_get (C := RX10) (T := TX10) (N := 19) (ci := 11) S hK hT inX10 1 rfl rfl 7 (by decide) kf_X10_50 rfl dX10_init_103 ?_
  refine lv_iload_n hx hb dX10_init_106 rfl (lv_at hl 0 rfl) ?_
  refine tx_new (ci := 7) (fs := [.null, .null]) S hK hz hT hS inX6 tyX6 tyX6_ok kn_X10_34 kin_X6.1 kin_X6.2 rfl (by intro j hj; match j, hj with | 0, _ => rfl | 1, _ => rfl | j + 2, hj => exact absurd hj (by omega)) (Nat.le_of_ble_eq_true rfl) (Nat.le_of_ble_eq_true rfl) dX10_init_107 (fun q11 H hT hS => ?_)
  refine lv_dup hx hb dX10_init_110 rfl ?_
  refine x_cv (x_runI (b := q11) (As := []) (rest := [.ref q11, .int 2, .ref q8]) S (c_X6_init l E K F G ((q8, .inl (E.2.1 5, 8, .inr (.inr (.inr (.inr (va_up (va_up (fun _ => none) 0 (some q9)) 1 (some q10))))))) :: (a, .inr (11, [.ref q1, .ref q2, .ref q3, .ref q4, .ref q5, .ref q6, .ref q7, .ref q8, .null, .null, .null, .null, .null, .null, .null, .null, .null, .int 0, .int 0])) :: L) q11 6) mi_X6_init rfl km_X10_36 rfl rfl ⟨(Nat.le_of_ble_eq_true rfl), (Nat.le_of_ble_eq_true rfl)⟩ hK (fun _ => XPx.blind) (fun U hU hW => XPx.at hK hA hz hS hT hU hW) rfl hl.1 (Nat.le_of_ble_eq_true rfl) dX10_init_111 ⟨(Nat.le_of_ble_eq_true rfl), (Nat.le_of_ble_eq_true rfl)⟩) hS ?_
  rintro ⟨K, F, G⟩ H locs ⟨g, c_q11, n1⟩ hT hS
  dsimp only at g c_q11 n1 hT
  have hT : TX E K F G ((q8, .inl (E.2.1 5, 8, .inr (.inr (.inr (.inr (va_up (va_up (fun _ => none) 0 (some q9)) 1 (some q10))))))) :: (a, .inr (11, [.ref q1, .ref q2, .ref q3, .ref q4, .ref q5, .ref q6, .ref q7, .ref q8, .null, .null, .null, .null, .null, .null, .null, .null, .null, .int 0, .int 0])) :: L) H := hT
  have hgr := hgr.tr g
  have c_q1 := OBz.gr g (by decide) c_q1
  have c_q2 := RDz.gr g c_q2
  have c_q3 := BKz.gr g c_q3
  have c_q4 := RWz.gr g c_q4
  have c_q5 := RWz.gr g c_q5
  have c_q6 := RWz.gr g c_q6
  have c_q7 := RWz.gr g c_q7
  have c_q9 := RWz.gr g c_q9
  have c_q10 := RWz.gr g c_q10
  have hN : N11 K0 → N11 K := fun h => n1 (hN h)
  have c_q11 : RWz 6 K F G q11 := c_q11
  refine tx_asq S hK hT hS 0 rfl (c_q11.1) (by decide) dX10_init_114 (fun H locs hT hS => ?_)
  have hT : TX E K F G ((q8, .inl (E.2.1 5, 8, .inr (.inr (.inr (.inr (va_up (va_up (va_up (fun _ => none) 0 (some q9)) 1 (some q10)) 2 (some q11))))))) :: (a, .inr (11, [.ref q1, .ref q2, .ref q3, .ref q4, .ref q5, .ref q6, .ref q7, .ref q8, .null, .null, .null, .null, .null, .null, .null, .null, .null, .int 0, .int 0])) :: L) H := hT
  refine xi_iinc (n := 1) (lv' := fun z9 => [(1, .int z9), (0, .ref a)]) (k := 0) hx hb ((by decide) : Int32.toInt 2 = (2 : Int)) (by decide) dX10_init_115 hl rfl (by decide) (fun _ => rfl) (fun x9 ls t9 hl => ?_)
  have hl : lv_has ls 2 [(1, .int x9), (0, .ref a)] := hl
  have e9 : (3 : Int32).toInt = 3 := by decide
  have h9 : x9 = 3 := Int32.toInt_inj.mp (by rw [e9]; omega)
  subst h9
  have hl : lv_has ls 2 [(1, .int 3), (0, .ref a)] := hl
  refine lv_goto (tgt := 96) hx hb dX10_init_118 (by decide) ?_
  refine lv_iload_n hx hb dX10_init_96 rfl (lv_at hl 0 rfl) ?_
  refine lv_bipush (v := 8) hx hb dX10_init_97 (by decide) ?_
  refine xi_cge (tgt := 121) hx hb ((by decide) : Int32.toInt 3 = (3 : Int)) ((by decide) : Int32.toInt 8 = (8 : Int)) dX10_init_99 (by decide) (fun c => absurd c (show ¬ ((8 : Int) ≤ (3 : Int)) by decide)) (fun _ => ?_)
  refine lv_aload_n hx hb dX10_init_102 rfl (lv_at hl 1 rfl) ?_
  refine tx_get (C := RX10) (T := TX10) (N := 19) (ci := 11) S hK hT inX10 1 rfl rfl 7 (by decide) kf_X10_50 rfl dX10_init_103 ?_
  refine lv_iload_n hx hb dX10_init_106 rfl (lv_at hl 0 rfl) ?_
  refine tx_new (ci := 7) (fs := [.null, .null]) S hK hz hT hS inX6 tyX6 tyX6_ok kn_X10_34 kin_X6.1 kin_X6.2 rfl (by intro j hj; match j, hj with | 0, _ => rfl | 1, _ => rfl | j + 2, hj => exact absurd hj (by omega)) (Nat.le_of_ble_eq_true rfl) (Nat.le_of_ble_eq_true rfl) dX10_init_107 (fun q12 H hT hS => ?_)
  refine lv_dup hx hb dX10_init_110 rfl ?_
  refine x_cv (x_runI (b := q12) (As := []) (rest := [.ref q12, .int 3, .ref q8]) S (c_X6_init l E K F G ((q8, .inl (E.2.1 5, 8, .inr (.inr (.inr (.inr (va_up (va_up (va_up (fun _ => none) 0 (some q9)) 1 (some q10)) 2 (some q11))))))) :: (a, .inr (11, [.ref q1, .ref q2, .ref q3, .ref q4, .ref q5, .ref q6, .ref q7, .ref q8, .null, .null, .null, .null, .null, .null, .null, .null, .null, .int 0, .int 0])) :: L) q12 7) mi_X6_init rfl km_X10_36 rfl rfl ⟨(Nat.le_of_ble_eq_true rfl), (Nat.le_of_ble_eq_true rfl)⟩ hK (fun _ => XPx.blind) (fun U hU hW => XPx.at hK hA hz hS hT hU hW) rfl hl.1 (Nat.le_of_ble_eq_true rfl) dX10_init_111 ⟨(Nat.le_of_ble_eq_true rfl), (Nat.le_of_ble_eq_true rfl)⟩) hS ?_
  rintro ⟨K, F, G⟩ H locs ⟨g, c_q12, n1⟩ hT hS
  dsimp only at g c_q12 n1 hT
  have hT : TX E K F G ((q8, .inl (E.2.1 5, 8, .inr (.inr (.inr (.inr (va_up (va_up (va_up (fun _ => none) 0 (some q9)) 1 (some q10)) 2 (some q11))))))) :: (a, .inr (11, [.ref q1, .ref q2, .ref q3, .ref q4, .ref q5, .ref q6, .ref q7, .ref q8, .null, .null, .null, .null, .null, .null, .null, .null, .null, .int 0, .int 0])) :: L) H := hT
  have hgr := hgr.tr g
  have c_q1 := OBz.gr g (by decide) c_q1
  have c_q2 := RDz.gr g c_q2
  have c_q3 := BKz.gr g c_q3
  have c_q4 := RWz.gr g c_q4
  have c_q5 := RWz.gr g c_q5
  have c_q6 := RWz.gr g c_q6
  have c_q7 := RWz.gr g c_q7
  have c_q9 := RWz.gr g c_q9
  have c_q10 := RWz.gr g c_q10
  have c_q11 := RWz.gr g c_q11
  have hN : N11 K0 → N11 K := fun h => n1 (hN h)
  have c_q12 : RWz 7 K F G q12 := c_q12
  refine tx_asq S hK hT hS 0 rfl (c_q12.1) (by decide) dX10_init_114 (fun H locs hT hS => ?_)
  have hT : TX E K F G ((q8, .inl (E.2.1 5, 8, .inr (.inr (.inr (.inr (va_up (va_up (va_up (va_up (fun _ => none) 0 (some q9)) 1 (some q10)) 2 (some q11)) 3 (some q12))))))) :: (a, .inr (11, [.ref q1, .ref q2, .ref q3, .ref q4, .ref q5, .ref q6, .ref q7, .ref q8, .null, .null, .null, .null, .null, .null, .null, .null, .null, .int 0, .int 0])) :: L) H := hT
  refine xi_iinc (n := 1) (lv' := fun z9 => [(1, .int z9), (0, .ref a)]) (k := 0) hx hb ((by decide) : Int32.toInt 3 = (3 : Int)) (by decide) dX10_init_115 hl rfl (by decide) (fun _ => rfl) (fun x9 ls t9 hl => ?_)
  have hl : lv_has ls 2 [(1, .int x9), (0, .ref a)] := hl
  have e9 : (4 : Int32).toInt = 4 := by decide
  have h9 : x9 = 4 := Int32.toInt_inj.mp (by rw [e9]; omega)
  subst h9
  have hl : lv_has ls 2 [(1, .int 4), (0, .ref a)] := hl
  refine lv_goto (tgt := 96) hx hb dX10_init_118 (by decide) ?_
  refine lv_iload_n hx hb dX10_init_96 rfl (lv_at hl 0 rfl) ?_
  refine lv_bipush (v := 8) hx hb dX10_init_97 (by decide) ?_
  refine xi_cge (tgt := 121) hx hb ((by decide) : Int32.toInt 4 = (4 : Int)) ((by decide) : Int32.toInt 8 = (8 : Int)) dX10_init_99 (by decide) (fun c => absurd c (show ¬ ((8 : Int) ≤ (4 : Int)) by decide)) (fun _ => ?_)
  refine lv_aload_n hx hb dX10_init_102 rfl (lv_at hl 1 rfl) ?_
  refine tx_get (C := RX10) (T := TX10) (N := 19) (ci := 11) S hK hT inX10 1 rfl rfl 7 (by decide) kf_X10_50 rfl dX10_init_103 ?_
  refine lv_iload_n hx hb dX10_init_106 rfl (lv_at hl 0 rfl) ?_
  refine tx_new (ci := 7) (fs := [.null, .null]) S hK hz hT hS inX6 tyX6 tyX6_ok kn_X10_34 kin_X6.1 kin_X6.2 rfl (by intro j hj; match j, hj with | 0, _ => rfl | 1, _ => rfl | j + 2, hj => exact absurd hj (by omega)) (Nat.le_of_ble_eq_true rfl) (Nat.le_of_ble_eq_true rfl) dX10_init_107 (fun q13 H hT hS => ?_)
  refine lv_dup hx hb dX10_init_110 rfl ?_
  refine x_cv (x_runI (b := q13) (As := []) (rest := [.ref q13, .int 4, .ref q8]) S (c_X6_init l E K F G ((q8, .inl (E.2.1 5, 8, .inr (.inr (.inr (.inr (va_up (va_up (va_up (va_up (fun _ => none) 0 (some q9)) 1 (some q10)) 2 (some q11)) 3 (some q12))))))) :: (a, .inr (11, [.ref q1, .ref q2, .ref q3, .ref q4, .ref q5, .ref q6, .ref q7, .ref q8, .null, .null, .null, .null, .null, .null, .null, .null, .null, .int 0, .int 0])) :: L) q13 8) mi_X6_init rfl km_X10_36 rfl rfl ⟨(Nat.le_of_ble_eq_true rfl), (Nat.le_of_ble_eq_true rfl)⟩ hK (fun _ => XPx.blind) (fun U hU hW => XPx.at hK hA hz hS hT hU hW) rfl hl.1 (Nat.le_of_ble_eq_true rfl) dX10_init_111 ⟨(Nat.le_of_ble_eq_true rfl), (Nat.le_of_ble_eq_true rfl)⟩) hS ?_
  rintro ⟨K, F, G⟩ H locs ⟨g, c_q13, n1⟩ hT hS
  dsimp only at g c_q13 n1 hT
  have hT : TX E K F G ((q8, .inl (E.2.1 5, 8, .inr (.inr (.inr (.inr (va_up (va_up (va_up (va_up (fun _ => none) 0 (some q9)) 1 (some q10)) 2 (some q11)) 3 (some q12))))))) :: (a, .inr (11, [.ref q1, .ref q2, .ref q3, .ref q4, .ref q5, .ref q6, .ref q7, .ref q8, .null, .null, .null, .null, .null, .null, .null, .null, .null, .int 0, .int 0])) :: L) H := hT
  have hgr := hgr.tr g
  have c_q1 := OBz.gr g (by decide) c_q1
  have c_q2 := RDz.gr g c_q2
  have c_q3 := BKz.gr g c_q3
  have c_q4 := RWz.gr g c_q4
  have c_q5 := RWz.gr g c_q5
  have c_q6 := RWz.gr g c_q6
  have c_q7 := RWz.gr g c_q7
  have c_q9 := RWz.gr g c_q9
  have c_q10 := RWz.gr g c_q10
  have c_q11 := RWz.gr g c_q11
  have c_q12 := RWz.gr g c_q12
  have hN : N11 K0 → N11 K := fun h => n1 (hN h)
  have c_q13 : RWz 8 K F G q13 := c_q13
  refine tx_asq S hK hT hS 0 rfl (c_q13.1) (by decide) dX10_init_114 (fun H locs hT hS => ?_)
  have hT : TX E K F G ((q8, .inl (E.2.1 5, 8, .inr (.inr (.inr (.inr (va_up (va_up (va_up (va_up (va_up (fun _ => none) 0 (some q9)) 1 (some q10)) 2 (some q11)) 3 (some q12)) 4 (some q13))))))) :: (a, .inr (11, [.ref q1, .ref q2, .ref q3, .ref q4, .ref q5, .ref q6, .ref q7, .ref q8, .null, .null, .null, .null, .null, .null, .null, .null, .null, .int 0, .int 0])) :: L) H := hT
  refine xi_iinc (n := 1) (lv' := fun z9 => [(1, .int z9), (0, .ref a)]) (k := 0) hx hb ((by decide) : Int32.toInt 4 = (4 : Int)) (by decide) dX10_init_115 hl rfl (by decide) (fun _ => rfl) (fun x9 ls t9 hl => ?_)
  have hl : lv_has ls 2 [(1, .int x9), (0, .ref a)] := hl
  have e9 : (5 : Int32).toInt = 5 := by decide
  have h9 : x9 = 5 := Int32.toInt_inj.mp (by rw [e9]; omega)
  subst h9
  have hl : lv_has ls 2 [(1, .int 5), (0, .ref a)] := hl
  refine lv_goto (tgt := 96) hx hb dX10_init_118 (by decide) ?_
  refine lv_iload_n hx hb dX10_init_96 rfl (lv_at hl 0 rfl) ?_
  refine lv_bipush (v := 8) hx hb dX10_init_97 (by decide) ?_
  refine xi_cge (tgt := 121) hx hb ((by decide) : Int32.toInt 5 = (5 : Int)) ((by decide) : Int32.toInt 8 = (8 : Int)) dX10_init_99 (by decide) (fun c => absurd c (show ¬ ((8 : Int) ≤ (5 : Int)) by decide)) (fun _ => ?_)
  refine lv_aload_n hx hb dX10_init_102 rfl (lv_at hl 1 rfl) ?_
  refine tx_get (C := RX10) (T := TX10) (N := 19) (ci := 11) S hK hT inX10 1 rfl rfl 7 (by decide) kf_X10_50 rfl dX10_init_103 ?_
  refine lv_iload_n hx hb dX10_init_106 rfl (lv_at hl 0 rfl) ?_
  refine tx_new (ci := 7) (fs := [.null, .null]) S hK hz hT hS inX6 tyX6 tyX6_ok kn_X10_34 kin_X6.1 kin_X6.2 rfl (by intro j hj; match j, hj with | 0, _ => rfl | 1, _ => rfl | j + 2, hj => exact absurd hj (by omega)) (Nat.le_of_ble_eq_true rfl) (Nat.le_of_ble_eq_true rfl) dX10_init_107 (fun q14 H hT hS => ?_)
  refine lv_dup hx hb dX10_init_110 rfl ?_
  refine x_cv (x_runI (b := q14) (As := []) (rest := [.ref q14, .int 5, .ref q8]) S (c_X6_init l E K F G ((q8, .inl (E.2.1 5, 8, .inr (.inr (.inr (.inr (va_up (va_up (va_up (va_up (va_up (fun _ => none) 0 (some q9)) 1 (some q10)) 2 (some q11)) 3 (some q12)) 4 (some q13))))))) :: (a, .inr (11, [.ref q1, .ref q2, .ref q3, .ref q4, .ref q5, .ref q6, .ref q7, .ref q8, .null, .null, .null, .null, .null, .null, .null, .null, .null, .int 0, .int 0])) :: L) q14 9) mi_X6_init rfl km_X10_36 rfl rfl ⟨(Nat.le_of_ble_eq_true rfl), (Nat.le_of_ble_eq_true rfl)⟩ hK (fun _ => XPx.blind) (fun U hU hW => XPx.at hK hA hz hS hT hU hW) rfl hl.1 (Nat.le_of_ble_eq_true rfl) dX10_init_111 ⟨(Nat.le_of_ble_eq_true rfl), (Nat.le_of_ble_eq_true rfl)⟩) hS ?_
  rintro ⟨K, F, G⟩ H locs ⟨g, c_q14, n1⟩ hT hS
  dsimp only at g c_q14 n1 hT
  have hT : TX E K F G ((q8, .inl (E.2.1 5, 8, .inr (.inr (.inr (.inr (va_up (va_up (va_up (va_up (va_up (fun _ => none) 0 (some q9)) 1 (some q10)) 2 (some q11)) 3 (some q12)) 4 (some q13))))))) :: (a, .inr (11, [.ref q1, .ref q2, .ref q3, .ref q4, .ref q5, .ref q6, .ref q7, .ref q8, .null, .null, .null, .null, .null, .null, .null, .null, .null, .int 0, .int 0])) :: L) H := hT
  have hgr := hgr.tr g
  have c_q1 := OBz.gr g (by decide) c_q1
  have c_q2 := RDz.gr g c_q2
  have c_q3 := BKz.gr g c_q3
  have c_q4 := RWz.gr g c_q4
  have c_q5 := RWz.gr g c_q5
  have c_q6 := RWz.gr g c_q6
  have c_q7 := RWz.gr g c_q7
  have c_q9 := RWz.gr g c_q9
  have c_q10 := RWz.gr g c_q10
  have c_q11 := RWz.gr g c_q11
  have c_q12 := RWz.gr g c_q12
  have c_q13 := RWz.gr g c_q13
  have hN : N11 K0 → N11 K := fun h => n1 (hN h)
  have c_q14 : RWz 9 K F G q14 := c_q14
  refine tx_asq S hK hT hS 0 rfl (c_q14.1) (by decide) dX10_init_114 (fun H locs hT hS => ?_)
  have hT : TX E K F G ((q8, .inl (E.2.1 5, 8, .inr (.inr (.inr (.inr (va_up (va_up (va_up (va_up (va_up (va_up (fun _ => none) 0 (some q9)) 1 (some q10)) 2 (some q11)) 3 (some q12)) 4 (some q13)) 5 (some q14))))))) :: (a, .inr (11, [.ref q1, .ref q2, .ref q3, .ref q4, .ref q5, .ref q6, .ref q7, .ref q8, .null, .null, .null, .null, .null, .null, .null, .null, .null, .int 0, .int 0])) :: L) H := hT
  refine xi_iinc (n := 1) (lv' := fun z9 => [(1, .int z9), (0, .ref a)]) (k := 0) hx hb ((by decide) : Int32.toInt 5 = (5 : Int)) (by decide) dX10_init_115 hl rfl (by decide) (fun _ => rfl) (fun x9 ls t9 hl => ?_)
  have hl : lv_has ls 2 [(1, .int x9), (0, .ref a)] := hl
  have e9 : (6 : Int32).toInt = 6 := by decide
  have h9 : x9 = 6 := Int32.toInt_inj.mp (by rw [e9]; omega)
  subst h9
  have hl : lv_has ls 2 [(1, .int 6), (0, .ref a)] := hl
  refine lv_goto (tgt := 96) hx hb dX10_init_118 (by decide) ?_
  refine lv_iload_n hx hb dX10_init_96 rfl (lv_at hl 0 rfl) ?_
  refine lv_bipush (v := 8) hx hb dX10_init_97 (by decide) ?_
  refine xi_cge (tgt := 121) hx hb ((by decide) : Int32.toInt 6 = (6 : Int)) ((by decide) : Int32.toInt 8 = (8 : Int)) dX10_init_99 (by decide) (fun c => absurd c (show ¬ ((8 : Int) ≤ (6 : Int)) by decide)) (fun _ => ?_)
  refine lv_aload_n hx hb dX10_init_102 rfl (lv_at hl 1 rfl) ?_
  refine tx_get (C := RX10) (T := TX10) (N := 19) (ci := 11) S hK hT inX10 1 rfl rfl 7 (by decide) kf_X10_50 rfl dX10_init_103 ?_
  refine lv_iload_n hx hb dX10_init_106 rfl (lv_at hl 0 rfl) ?_
  refine tx_new (ci := 7) (fs := [.null, .null]) S hK hz hT hS inX6 tyX6 tyX6_ok kn_X10_34 kin_X6.1 kin_X6.2 rfl (by intro j hj; match j, hj with | 0, _ => rfl | 1, _ => rfl | j + 2, hj => exact absurd hj (by omega)) (Nat.le_of_ble_eq_true rfl) (Nat.le_of_ble_eq_true rfl) dX10_init_107 (fun q15 H hT hS => ?_)
  refine lv_dup hx hb dX10_init_110 rfl ?_
  refine x_cv (x_runI (b := q15) (As := []) (rest := [.ref q15, .int 6, .ref q8]) S (c_X6_init l E K F G ((q8, .inl (E.2.1 5, 8, .inr (.inr (.inr (.inr (va_up (va_up (va_up (va_up (va_up (va_up (fun _ => none) 0 (some q9)) 1 (some q10)) 2 (some q11)) 3 (some q12)) 4 (some q13)) 5 (some q14))))))) :: (a, .inr (11, [.ref q1, .ref q2, .ref q3, .ref q4, .ref q5, .ref q6, .ref q7, .ref q8, .null, .null, .null, .null, .null, .null, .null, .null, .null, .int 0, .int 0])) :: L) q15 10) mi_X6_init rfl km_X10_36 rfl rfl ⟨(Nat.le_of_ble_eq_true rfl), (Nat.le_of_ble_eq_true rfl)⟩ hK (fun _ => XPx.blind) (fun U hU hW => XPx.at hK hA hz hS hT hU hW) rfl hl.1 (Nat.le_of_ble_eq_true rfl) dX10_init_111 ⟨(Nat.le_of_ble_eq_true rfl), (Nat.le_of_ble_eq_true rfl)⟩) hS ?_
  rintro ⟨K, F, G⟩ H locs ⟨g, c_q15, n1⟩ hT hS
  dsimp only at g c_q15 n1 hT
  have hT : TX E K F G ((q8, .inl (E.2.1 5, 8, .inr (.inr (.inr (.inr (va_up (va_up (va_up (va_up (va_up (va_up (fun _ => none) 0 (some q9)) 1 (some q10)) 2 (some q11)) 3 (some q12)) 4 (some q13)) 5 (some q14))))))) :: (a, .inr (11, [.ref q1, .ref q2, .ref q3, .ref q4, .ref q5, .ref q6, .ref q7, .ref q8, .null, .null, .null, .null, .null, .null, .null, .null, .null, .int 0, .int 0])) :: L) H := hT
  have hgr := hgr.tr g
  have c_q1 := OBz.gr g (by decide) c_q1
  have c_q2 := RDz.gr g c_q2
  have c_q3 := BKz.gr g c_q3
  have c_q4 := RWz.gr g c_q4
  have c_q5 := RWz.gr g c_q5
  have c_q6 := RWz.gr g c_q6
  have c_q7 := RWz.gr g c_q7
  have c_q9 := RWz.gr g c_q9
  have c_q10 := RWz.gr g c_q10
  have c_q11 := RWz.gr g c_q11
  have c_q12 := RWz.gr g c_q12
  have c_q13 := RWz.gr g c_q13
  have c_q14 := RWz.gr g c_q14
  have hN : N11 K0 → N11 K := fun h => n1 (hN h)
  have c_q15 : RWz 10 K F G q15 := c_q15
  refine tx_asq S hK hT hS 0 rfl (c_q15.1) (by decide) dX10_init_114 (fun H locs hT hS => ?_)
  have hT : TX E K F G ((q8, .inl (E.2.1 5, 8, .inr (.inr (.inr (.inr (va_up (va_up (va_up (va_up (va_up (va_up (va_up (fun _ => none) 0 (some q9)) 1 (some q10)) 2 (some q11)) 3 (some q12)) 4 (some q13)) 5 (some q14)) 6 (some q15))))))) :: (a, .inr (11, [.ref q1, .ref q2, .ref q3, .ref q4, .ref q5, .ref q6, .ref q7, .ref q8, .null, .null, .null, .null, .null, .null, .null, .null, .null, .int 0, .int 0])) :: L) H := hT
  refine xi_iinc (n := 1) (lv' := fun z9 => [(1, .int z9), (0, .ref a)]) (k := 0) hx hb ((by decide) : Int32.toInt 6 = (6 : Int)) (by decide) dX10_init_115 hl rfl (by decide) (fun _ => rfl) (fun x9 ls t9 hl => ?_)
  have hl : lv_has ls 2 [(1, .int x9), (0, .ref a)] := hl
  have e9 : (7 : Int32).toInt = 7 := by decide
  have h9 : x9 = 7 := Int32.toInt_inj.mp (by rw [e9]; omega)
  subst h9
  have hl : lv_has ls 2 [(1, .int 7), (0, .ref a)] := hl
  refine lv_goto (tgt := 96) hx hb dX10_init_118 (by decide) ?_
  refine lv_iload_n hx hb dX10_init_96 rfl (lv_at hl 0 rfl) ?_
  refine lv_bipush (v := 8) hx hb dX10_init_97 (by decide) ?_
  refine xi_cge (tgt := 121) hx hb ((by decide) : Int32.toInt 7 = (7 : Int)) ((by decide) : Int32.toInt 8 = (8 : Int)) dX10_init_99 (by decide) (fun c => absurd c (show ¬ ((8 : Int) ≤ (7 : Int)) by decide)) (fun _ => ?_)
  refine lv_aload_n hx hb dX10_init_102 rfl (lv_at hl 1 rfl) ?_
  refine tx_get (C := RX10) (T := TX10) (N := 19) (ci := 11) S hK hT inX10 1 rfl rfl 7 (by decide) kf_X10_50 rfl dX10_init_103 ?_
  refine lv_iload_n hx hb dX10_init_106 rfl (lv_at hl 0 rfl) ?_
  refine tx_new (ci := 7) (fs := [.null, .null]) S hK hz hT hS inX6 tyX6 tyX6_ok kn_X10_34 kin_X6.1 kin_X6.2 rfl (by intro j hj; match j, hj with | 0, _ => rfl | 1, _ => rfl | j + 2, hj => exact absurd hj (by omega)) (Nat.le_of_ble_eq_true rfl) (Nat.le_of_ble_eq_true rfl) dX10_init_107 (fun q16 H hT hS => ?_)
  refine lv_dup hx hb dX10_init_110 rfl ?_
  refine x_cv (x_runI (b := q16) (As := []) (rest := [.ref q16, .int 7, .ref q8]) S (c_X6_init l E K F G ((q8, .inl (E.2.1 5, 8, .inr (.inr (.inr (.inr (va_up (va_up (va_up (va_up (va_up (va_up (va_up (fun _ => none) 0 (some q9)) 1 (some q10)) 2 (some q11)) 3 (some q12)) 4 (some q13)) 5 (some q14)) 6 (some q15))))))) :: (a, .inr (11, [.ref q1, .ref q2, .ref q3, .ref q4, .ref q5, .ref q6, .ref q7, .ref q8, .null, .null, .null, .null, .null, .null, .null, .null, .null, .int 0, .int 0])) :: L) q16 11) mi_X6_init rfl km_X10_36 rfl rfl ⟨(Nat.le_of_ble_eq_true rfl), (Nat.le_of_ble_eq_true rfl)⟩ hK (fun _ => XPx.blind) (fun U hU hW => XPx.at hK hA hz hS hT hU hW) rfl hl.1 (Nat.le_of_ble_eq_true rfl) dX10_init_111 ⟨(Nat.le_of_ble_eq_true rfl), (Nat.le_of_ble_eq_true rfl)⟩) hS ?_
  rintro ⟨K, F, G⟩ H locs ⟨g, c_q16, n1⟩ hT hS
  dsimp only at g c_q16 n1 hT
  have hT : TX E K F G ((q8, .inl (E.2.1 5, 8, .inr (.inr (.inr (.inr (va_up (va_up (va_up (va_up (va_up (va_up (va_up (fun _ => none) 0 (some q9)) 1 (some q10)) 2 (some q11)) 3 (some q12)) 4 (some q13)) 5 (some q14)) 6 (some q15))))))) :: (a, .inr (11, [.ref q1, .ref q2, .ref q3, .ref q4, .ref q5, .ref q6, .ref q7, .ref q8, .null, .null, .null, .null, .null, .null, .null, .null, .null, .int 0, .int 0])) :: L) H := hT
  have hgr := hgr.tr g
  have c_q1 := OBz.gr g (by decide) c_q1
  have c_q2 := RDz.gr g c_q2
  have c_q3 := BKz.gr g c_q3
  have c_q4 := RWz.gr g c_q4
  have c_q5 := RWz.gr g c_q5
  have c_q6 := RWz.gr g c_q6
  have c_q7 := RWz.gr g c_q7
  have c_q9 := RWz.gr g c_q9
  have c_q10 := RWz.gr g c_q10
  have c_q11 := RWz.gr g c_q11
  have c_q12 := RWz.gr g c_q12
  have c_q13 := RWz.gr g c_q13
  have c_q14 := RWz.gr g c_q14
  have c_q15 := RWz.gr g c_q15
  have hN : N11 K0 → N11 K := fun h => n1 (hN h)
  have c_q16 : RWz 11 K F G q16 := c_q16
  refine tx_asq S hK hT hS 0 rfl (c_q16.1) (by decide) dX10_init_114 (fun H locs hT hS => ?_)
  have hT : TX E K F G ((q8, .inl (E.2.1 5, 8, .inr (.inr (.inr (.inr (va_up (va_up (va_up (va_up (va_up (va_up (va_up (va_up (fun _ => none) 0 (some q9)) 1 (some q10)) 2 (some q11)) 3 (some q12)) 4 (some q13)) 5 (some q14)) 6 (some q15)) 7 (some q16))))))) :: (a, .inr (11, [.ref q1, .ref q2, .ref q3, .ref q4, .ref q5, .ref q6, .ref q7, .ref q8, .null, .null, .null, .null, .null, .null, .null, .null, .null, .int 0, .int 0])) :: L) H := hT
  refine xi_iinc (n := 1) (lv' := fun z9 => [(1, .int z9), (0, .ref a)]) (k := 0) hx hb ((by decide) : Int32.toInt 7 = (7 : Int)) (by decide) dX10_init_115 hl rfl (by decide) (fun _ => rfl) (fun x9 ls t9 hl => ?_)
  have hl : lv_has ls 2 [(1, .int x9), (0, .ref a)] := hl
  have e9 : (8 : Int32).toInt = 8 := by decide
  have h9 : x9 = 8 := Int32.toInt_inj.mp (by rw [e9]; omega)
  subst h9
  have hl : lv_has ls 2 [(1, .int 8), (0, .ref a)] := hl
  refine lv_goto (tgt := 96) hx hb dX10_init_118 (by decide) ?_
  refine lv_iload_n hx hb dX10_init_96 rfl (lv_at hl 0 rfl) ?_
  refine lv_bipush (v := 8) hx hb dX10_init_97 (by decide) ?_
  refine xi_cge (tgt := 121) hx hb ((by decide) : Int32.toInt 8 = (8 : Int)) ((by decide) : Int32.toInt 8 = (8 : Int)) dX10_init_99 (by decide) (fun _ => ?_) (fun c => absurd (show (8 : Int) ≤ 8 by decide) c)
  refine lv_aload_n hx hb dX10_init_121 rfl (lv_at hl 1 rfl) ?_
  refine tx_new (ci := 5) (fs := [.null, .null, .null, .null, .null, .null, .int 0]) S hK hz hT hS inX4 tyX4 tyX4_ok kn_X10_54 kin_X4.1 kin_X4.2 rfl (by intro j hj; match j, hj with | 0, _ => rfl | 1, _ => rfl | 2, _ => rfl | 3, _ => rfl | 4, _ => rfl | 5, _ => rfl | 6, _ => rfl | j + 7, hj => exact absurd hj (by omega)) (Nat.le_of_ble_eq_true rfl) (Nat.le_of_ble_eq_true rfl) dX10_init_122 (fun q17 H hT hS => ?_)
  refine lv_dup hx hb dX10_init_125 rfl ?_
  refine x_cv (x_runI (b := q17) (As := []) (rest := [.ref q17, .ref a]) S (c_X4_init l E K F G ((q8, .inl (E.2.1 5, 8, .inr (.inr (.inr (.inr (va_up (va_up (va_up (va_up (va_up (va_up (va_up (va_up (fun _ => none) 0 (some q9)) 1 (some q10)) 2 (some q11)) 3 (some q12)) 4 (some q13)) 5 (some q14)) 6 (some q15)) 7 (some q16))))))) :: (a, .inr (11, [.ref q1, .ref q2, .ref q3, .ref q4, .ref q5, .ref q6, .ref q7, .ref q8, .null, .null, .null, .null, .null, .null, .null, .null, .null, .int 0, .int 0])) :: L) q17 0) mi_X4_init rfl km_X10_56 rfl rfl ⟨(Nat.le_of_ble_eq_true rfl), (Nat.le_of_ble_eq_true rfl)⟩ hK (fun _ => XPx.blind) (fun U hU hW => XPx.at hK hA hz hS hT hU hW) rfl hl.1 (Nat.le_of_ble_eq_true rfl) dX10_init_126 ⟨(Nat.le_of_ble_eq_true rfl), (Nat.le_of_ble_eq_true rfl)⟩) hS ?_
  rintro ⟨K, F, G⟩ H locs ⟨g, c_q17, n1⟩ hT hS
  dsimp only at g c_q17 n1 hT
  have hT : TX E K F G ((q8, .inl (E.2.1 5, 8, .inr (.inr (.inr (.inr (va_up (va_up (va_up (va_up (va_up (va_up (va_up (va_up (fun _ => none) 0 (some q9)) 1 (some q10)) 2 (some q11)) 3 (some q12)) 4 (some q13)) 5 (some q14)) 6 (some q15)) 7 (some q16))))))) :: (a, .inr (11, [.ref q1, .ref q2, .ref q3, .ref q4, .ref q5, .ref q6, .ref q7, .ref q8, .null, .null, .null, .null, .null, .null, .null, .null, .null, .int 0, .int 0])) :: L) H := hT
  have hgr := hgr.tr g
  have c_q1 := OBz.gr g (by decide) c_q1
  have c_q2 := RDz.gr g c_q2
  have c_q3 := BKz.gr g c_q3
  have c_q4 := RWz.gr g c_q4
  have c_q5 := RWz.gr g c_q5
  have c_q6 := RWz.gr g c_q6
  have c_q7 := RWz.gr g c_q7
  have c_q9 := RWz.gr g c_q9
  have c_q10 := RWz.gr g c_q10
  have c_q11 := RWz.gr g c_q11
  have c_q12 := RWz.gr g c_q12
  have c_q13 := RWz.gr g c_q13
  have c_q14 := RWz.gr g c_q14
  have c_q15 := RWz.gr g c_q15
  have c_q16 := RWz.gr g c_q16
  have hN : N11 K0 → N11 K := fun h => n1 (hN h)
  have c_q17 : OBz 6 0 K F G q17 := c_q17
  refine tx_putF (C := RX10) (T := TX10) (N := 19) (ci := 11) (ty := (.object "LateRules$Questions")) S hK hT hS inX10 tyX10 tyX10_ok nmX10 1 rfl rfl 8 (by decide) kf_X10_57 rfl hnm rfl (by decide +kernel) rfl rfl (Nat.le_of_ble_eq_true rfl) dX10_init_129 (fun H locs hT hS => ?_)
  have hT : TX E K F G ((q8, .inl (E.2.1 5, 8, .inr (.inr (.inr (.inr (va_up (va_up (va_up (va_up (va_up (va_up (va_up (va_up (fun _ => none) 0 (some q9)) 1 (some q10)) 2 (some q11)) 3 (some q12)) 4 (some q13)) 5 (some q14)) 6 (some q15)) 7 (some q16))))))) :: (a, .inr (11, [.ref q1, .ref q2, .ref q3, .ref q4, .ref q5, .ref q6, .ref q7, .ref q8, .ref q17, .null, .null, .null, .null, .null, .null, .null, .null, .int 0, .int 0])) :: L) H := hT
  refine lv_aload_n hx hb dX10_init_132 rfl (lv_at hl 1 rfl) ?_
  refine tx_new (ci := 5) (fs := [.null, .null, .null, .null, .null, .null, .int 0]) S hK hz hT hS inX4 tyX4 tyX4_ok kn_X10_54 kin_X4.1 kin_X4.2 rfl (by intro j hj; match j, hj with | 0, _ => rfl | 1, _ => rfl | 2, _ => rfl | 3, _ => rfl | 4, _ => rfl | 5, _ => rfl | 6, _ => rfl | j + 7, hj => exact absurd hj (by omega)) (Nat.le_of_ble_eq_true rfl) (Nat.le_of_ble_eq_true rfl) dX10_init_133 (fun q18 H hT hS => ?_)
  refine lv_dup hx hb dX10_init_136 rfl ?_
  refine x_cv (x_runI (b := q18) (As := []) (rest := [.ref q18, .ref a]) S (c_X4_init l E K F G ((q8, .inl (E.2.1 5, 8, .inr (.inr (.inr (.inr (va_up (va_up (va_up (va_up (va_up (va_up (va_up (va_up (fun _ => none) 0 (some q9)) 1 (some q10)) 2 (some q11)) 3 (some q12)) 4 (some q13)) 5 (some q14)) 6 (some q15)) 7 (some q16))))))) :: (a, .inr (11, [.ref q1, .ref q2, .ref q3, .ref q4, .ref q5, .ref q6, .ref q7, .ref q8, .ref q17, .null, .null, .null, .null, .null, .null, .null, .null, .int 0, .int 0])) :: L) q18 1) mi_X4_init rfl km_X10_56 rfl rfl ⟨(Nat.le_of_ble_eq_true rfl), (Nat.le_of_ble_eq_true rfl)⟩ hK (fun _ => XPx.blind) (fun U hU hW => XPx.at hK hA hz hS hT hU hW) rfl hl.1 (Nat.le_of_ble_eq_true rfl) dX10_init_137 ⟨(Nat.le_of_ble_eq_true rfl), (Nat.le_of_ble_eq_true rfl)⟩) hS ?_
  rintro ⟨K, F, G⟩ H locs ⟨g, c_q18, n1⟩ hT hS
  dsimp only at g c_q18 n1 hT
  have hT : TX E K F G ((q8, .inl (E.2.1 5, 8, .inr (.inr (.inr (.inr (va_up (va_up (va_up (va_up (va_up (va_up (va_up (va_up (fun _ => none) 0 (some q9)) 1 (some q10)) 2 (some q11)) 3 (some q12)) 4 (some q13)) 5 (some q14)) 6 (some q15)) 7 (some q16))))))) :: (a, .inr (11, [.ref q1, .ref q2, .ref q3, .ref q4, .ref q5, .ref q6, .ref q7, .ref q8, .ref q17, .null, .null, .null, .null, .null, .null, .null, .null, .int 0, .int 0])) :: L) H := hT
  have hgr := hgr.tr g
  have c_q1 := OBz.gr g (by decide) c_q1
  have c_q2 := RDz.gr g c_q2
  have c_q3 := BKz.gr g c_q3
  have c_q4 := RWz.gr g c_q4
  have c_q5 := RWz.gr g c_q5
  have c_q6 := RWz.gr g c_q6
  have c_q7 := RWz.gr g c_q7
  have c_q9 := RWz.gr g c_q9
  have c_q10 := RWz.gr g c_q10
  have c_q11 := RWz.gr g c_q11
  have c_q12 := RWz.gr g c_q12
  have c_q13 := RWz.gr g c_q13
  have c_q14 := RWz.gr g c_q14
  have c_q15 := RWz.gr g c_q15
  have c_q16 := RWz.gr g c_q16
  have c_q17 := OBz.gr g (by decide) c_q17
  have hN : N11 K0 → N11 K := fun h => n1 (hN h)
  have c_q18 : OBz 6 1 K F G q18 := c_q18
  refine tx_putF (C := RX10) (T := TX10) (N := 19) (ci := 11) (ty := (.object "LateRules$Questions")) S hK hT hS inX10 tyX10 tyX10_ok nmX10 1 rfl rfl 9 (by decide) kf_X10_61 rfl hnm rfl (by decide +kernel) rfl rfl (Nat.le_of_ble_eq_true rfl) dX10_init_140 (fun H locs hT hS => ?_)
  have hT : TX E K F G ((q8, .inl (E.2.1 5, 8, .inr (.inr (.inr (.inr (va_up (va_up (va_up (va_up (va_up (va_up (va_up (va_up (fun _ => none) 0 (some q9)) 1 (some q10)) 2 (some q11)) 3 (some q12)) 4 (some q13)) 5 (some q14)) 6 (some q15)) 7 (some q16))))))) :: (a, .inr (11, [.ref q1, .ref q2, .ref q3, .ref q4, .ref q5, .ref q6, .ref q7, .ref q8, .ref q17, .ref q18, .null, .null, .null, .null, .null, .null, .null, .int 0, .int 0])) :: L) H := hT
  refine lv_aload_n hx hb dX10_init_143 rfl (lv_at hl 1 rfl) ?_
  refine tx_new (ci := 5) (fs := [.null, .null, .null, .null, .null, .null, .int 0]) S hK hz hT hS inX4 tyX4 tyX4_ok kn_X10_54 kin_X4.1 kin_X4.2 rfl (by intro j hj; match j, hj with | 0, _ => rfl | 1, _ => rfl | 2, _ => rfl | 3, _ => rfl | 4, _ => rfl | 5, _ => rfl | 6, _ => rfl | j + 7, hj => exact absurd hj (by omega)) (Nat.le_of_ble_eq_true rfl) (Nat.le_of_ble_eq_true rfl) dX10_init_144 (fun q19 H hT hS => ?_)
  refine lv_dup hx hb dX10_init_147 rfl ?_
  refine x_cv (x_runI (b := q19) (As := []) (rest := [.ref q19, .ref a]) S (c_X4_init l E K F G ((q8, .inl (E.2.1 5, 8, .inr (.inr (.inr (.inr (va_up (va_up (va_up (va_up (va_up (va_up (va_up (va_up (fun _ => none) 0 (some q9)) 1 (some q10)) 2 (some q11)) 3 (some q12)) 4 (some q13)) 5 (some q14)) 6 (some q15)) 7 (some q16))))))) :: (a, .inr (11, [.ref q1, .ref q2, .ref q3, .ref q4, .ref q5, .ref q6, .ref q7, .ref q8, .ref q17, .ref q18, .null, .null, .null, .null, .null, .null, .null, .int 0, .int 0])) :: L) q19 2) mi_X4_init rfl km_X10_56 rfl rfl ⟨(Nat.le_of_ble_eq_true rfl), (Nat.le_of_ble_eq_true rfl)⟩ hK (fun _ => XPx.blind) (fun U hU hW => XPx.at hK hA hz hS hT hU hW) rfl hl.1 (Nat.le_of_ble_eq_true rfl) dX10_init_148 ⟨(Nat.le_of_ble_eq_true rfl), (Nat.le_of_ble_eq_true rfl)⟩) hS ?_
  rintro ⟨K, F, G⟩ H locs ⟨g, c_q19, n1⟩ hT hS
  dsimp only at g c_q19 n1 hT
  have hT : TX E K F G ((q8, .inl (E.2.1 5, 8, .inr (.inr (.inr (.inr (va_up (va_up (va_up (va_up (va_up (va_up (va_up (va_up (fun _ => none) 0 (some q9)) 1 (some q10)) 2 (some q11)) 3 (some q12)) 4 (some q13)) 5 (some q14)) 6 (some q15)) 7 (some q16))))))) :: (a, .inr (11, [.ref q1, .ref q2, .ref q3, .ref q4, .ref q5, .ref q6, .ref q7, .ref q8, .ref q17, .ref q18, .null, .null, .null, .null, .null, .null, .null, .int 0, .int 0])) :: L) H := hT
  have hgr := hgr.tr g
  have c_q1 := OBz.gr g (by decide) c_q1
  have c_q2 := RDz.gr g c_q2
  have c_q3 := BKz.gr g c_q3
  have c_q4 := RWz.gr g c_q4
  have c_q5 := RWz.gr g c_q5
  have c_q6 := RWz.gr g c_q6
  have c_q7 := RWz.gr g c_q7
  have c_q9 := RWz.gr g c_q9
  have c_q10 := RWz.gr g c_q10
  have c_q11 := RWz.gr g c_q11
  have c_q12 := RWz.gr g c_q12
  have c_q13 := RWz.gr g c_q13
  have c_q14 := RWz.gr g c_q14
  have c_q15 := RWz.gr g c_q15
  have c_q16 := RWz.gr g c_q16
  have c_q17 := OBz.gr g (by decide) c_q17
  have c_q18 := OBz.gr g (by decide) c_q18
  have hN : N11 K0 → N11 K := fun h => n1 (hN h)
  have c_q19 : OBz 6 2 K F G q19 := c_q19
  refine tx_putF (C := RX10) (T := TX10) (N := 19) (ci := 11) (ty := (.object "LateRules$Questions")) S hK hT hS inX10 tyX10 tyX10_ok nmX10 1 rfl rfl 10 (by decide) kf_X10_64 rfl hnm rfl (by decide +kernel) rfl rfl (Nat.le_of_ble_eq_true rfl) dX10_init_151 (fun H locs hT hS => ?_)
  have hT : TX E K F G ((q8, .inl (E.2.1 5, 8, .inr (.inr (.inr (.inr (va_up (va_up (va_up (va_up (va_up (va_up (va_up (va_up (fun _ => none) 0 (some q9)) 1 (some q10)) 2 (some q11)) 3 (some q12)) 4 (some q13)) 5 (some q14)) 6 (some q15)) 7 (some q16))))))) :: (a, .inr (11, [.ref q1, .ref q2, .ref q3, .ref q4, .ref q5, .ref q6, .ref q7, .ref q8, .ref q17, .ref q18, .ref q19, .null, .null, .null, .null, .null, .null, .int 0, .int 0])) :: L) H := hT
  refine lv_aload_n hx hb dX10_init_154 rfl (lv_at hl 1 rfl) ?_
  refine tx_new (ci := 2) (fs := [.null, .null, .null, .int 0]) S hK hz hT hS inX1 tyX1 tyX1_ok kn_X10_67 kin_X1.1 kin_X1.2 rfl (by intro j hj; match j, hj with | 0, _ => rfl | 1, _ => rfl | 2, _ => rfl | 3, _ => rfl | j + 4, hj => exact absurd hj (by omega)) (Nat.le_of_ble_eq_true rfl) (Nat.le_of_ble_eq_true rfl) dX10_init_155 (fun q20 H hT hS => ?_)
  refine lv_dup hx hb dX10_init_158 rfl ?_
  refine x_cv (x_runI (b := q20) (As := []) (rest := [.ref q20, .ref a]) S (c_X1_init l E K F G ((q8, .inl (E.2.1 5, 8, .inr (.inr (.inr (.inr (va_up (va_up (va_up (va_up (va_up (va_up (va_up (va_up (fun _ => none) 0 (some q9)) 1 (some q10)) 2 (some q11)) 3 (some q12)) 4 (some q13)) 5 (some q14)) 6 (some q15)) 7 (some q16))))))) :: (a, .inr (11, [.ref q1, .ref q2, .ref q3, .ref q4, .ref q5, .ref q6, .ref q7, .ref q8, .ref q17, .ref q18, .ref q19, .null, .null, .null, .null, .null, .null, .int 0, .int 0])) :: L) q20) mi_X1_init rfl km_X10_69 rfl rfl ⟨(Nat.le_of_ble_eq_true rfl), (Nat.le_of_ble_eq_true rfl)⟩ hK (fun _ => XPx.blind) (fun U hU hW => XPx.at hK hA hz hS hT hU hW) rfl hl.1 (Nat.le_of_ble_eq_true rfl) dX10_init_159 ⟨(Nat.le_of_ble_eq_true rfl), (Nat.le_of_ble_eq_true rfl)⟩) hS ?_
  rintro ⟨K, F, G⟩ H locs ⟨g, c_q20, n1⟩ hT hS
  dsimp only at g c_q20 n1 hT
  have hT : TX E K F G ((q8, .inl (E.2.1 5, 8, .inr (.inr (.inr (.inr (va_up (va_up (va_up (va_up (va_up (va_up (va_up (va_up (fun _ => none) 0 (some q9)) 1 (some q10)) 2 (some q11)) 3 (some q12)) 4 (some q13)) 5 (some q14)) 6 (some q15)) 7 (some q16))))))) :: (a, .inr (11, [.ref q1, .ref q2, .ref q3, .ref q4, .ref q5, .ref q6, .ref q7, .ref q8, .ref q17, .ref q18, .ref q19, .null, .null, .null, .null, .null, .null, .int 0, .int 0])) :: L) H := hT
  have hgr := hgr.tr g
  have c_q1 := OBz.gr g (by decide) c_q1
  have c_q2 := RDz.gr g c_q2
  have c_q3 := BKz.gr g c_q3
  have c_q4 := RWz.gr g c_q4
  have c_q5 := RWz.gr g c_q5
  have c_q6 := RWz.gr g c_q6
  have c_q7 := RWz.gr g c_q7
  have c_q9 := RWz.gr g c_q9
  have c_q10 := RWz.gr g c_q10
  have c_q11 := RWz.gr g c_q11
  have c_q12 := RWz.gr g c_q12
  have c_q13 := RWz.gr g c_q13
  have c_q14 := RWz.gr g c_q14
  have c_q15 := RWz.gr g c_q15
  have c_q16 := RWz.gr g c_q16
  have c_q17 := OBz.gr g (by decide) c_q17
  have c_q18 := OBz.gr g (by decide) c_q18
  have c_q19 := OBz.gr g (by decide) c_q19
  have hN : N11 K0 → N11 K := fun h => n1 (hN h)
  have c_q20 : KNo 3 0 K F q20 := c_q20
  refine tx_putF (C := RX10) (T := TX10) (N := 19) (ci := 11) (ty := (.object "LateRules$Comparison")) S hK hT hS inX10 tyX10 tyX10_ok nmX10 1 rfl rfl 11 (by decide) kf_X10_70 rfl hnm rfl (by decide +kernel) rfl rfl (Nat.le_of_ble_eq_true rfl) dX10_init_162 (fun H locs hT hS => ?_)
  have hT : TX E K F G ((q8, .inl (E.2.1 5, 8, .inr (.inr (.inr (.inr (va_up (va_up (va_up (va_up (va_up (va_up (va_up (va_up (fun _ => none) 0 (some q9)) 1 (some q10)) 2 (some q11)) 3 (some q12)) 4 (some q13)) 5 (some q14)) 6 (some q15)) 7 (some q16))))))) :: (a, .inr (11, [.ref q1, .ref q2, .ref q3, .ref q4, .ref q5, .ref q6, .ref q7, .ref q8, .ref q17, .ref q18, .ref q19, .ref q20, .null, .null, .null, .null, .null, .int 0, .int 0])) :: L) H := hT
  refine lv_aload_n hx hb dX10_init_165 rfl (lv_at hl 1 rfl) ?_
  refine tx_new (ci := 3) (fs := [.null, .null, .null, .null, .int 0]) S hK hz hT hS inX2 tyX2 tyX2_ok kn_X10_74 kin_X2.1 kin_X2.2 rfl (by intro j hj; match j, hj with | 0, _ => rfl | 1, _ => rfl | 2, _ => rfl | 3, _ => rfl | 4, _ => rfl | j + 5, hj => exact absurd hj (by omega)) (Nat.le_of_ble_eq_true rfl) (Nat.le_of_ble_eq_true rfl) dX10_init_166 (fun q21 H hT hS => ?_)
  refine lv_dup hx hb dX10_init_169 rfl ?_
  refine x_cv (x_runI (b := q21) (As := []) (rest := [.ref q21, .ref a]) S (c_X2_init l E K F G ((q8, .inl (E.2.1 5, 8, .inr (.inr (.inr (.inr (va_up (va_up (va_up (va_up (va_up (va_up (va_up (va_up (fun _ => none) 0 (some q9)) 1 (some q10)) 2 (some q11)) 3 (some q12)) 4 (some q13)) 5 (some q14)) 6 (some q15)) 7 (some q16))))))) :: (a, .inr (11, [.ref q1, .ref q2, .ref q3, .ref q4, .ref q5, .ref q6, .ref q7, .ref q8, .ref q17, .ref q18, .ref q19, .ref q20, .null, .null, .null, .null, .null, .int 0, .int 0])) :: L) q21) mi_X2_init rfl km_X10_76 rfl rfl ⟨(Nat.le_of_ble_eq_true rfl), (Nat.le_of_ble_eq_true rfl)⟩ hK (fun _ => XPx.blind) (fun U hU hW => XPx.at hK hA hz hS hT hU hW) rfl hl.1 (Nat.le_of_ble_eq_true rfl) dX10_init_170 ⟨(Nat.le_of_ble_eq_true rfl), (Nat.le_of_ble_eq_true rfl)⟩) hS ?_
  rintro ⟨K, F, G⟩ H locs ⟨g, c_q21, n1⟩ hT hS
  dsimp only at g c_q21 n1 hT
  have hT : TX E K F G ((q8, .inl (E.2.1 5, 8, .inr (.inr (.inr (.inr (va_up (va_up (va_up (va_up (va_up (va_up (va_up (va_up (fun _ => none) 0 (some q9)) 1 (some q10)) 2 (some q11)) 3 (some q12)) 4 (some q13)) 5 (some q14)) 6 (some q15)) 7 (some q16))))))) :: (a, .inr (11, [.ref q1, .ref q2, .ref q3, .ref q4, .ref q5, .ref q6, .ref q7, .ref q8, .ref q17, .ref q18, .ref q19, .ref q20, .null, .null, .null, .null, .null, .int 0, .int 0])) :: L) H := hT
  have hgr := hgr.tr g
  have c_q1 := OBz.gr g (by decide) c_q1
  have c_q2 := RDz.gr g c_q2
  have c_q3 := BKz.gr g c_q3
  have c_q4 := RWz.gr g c_q4
  have c_q5 := RWz.gr g c_q5
  have c_q6 := RWz.gr g c_q6
  have c_q7 := RWz.gr g c_q7
  have c_q9 := RWz.gr g c_q9
  have c_q10 := RWz.gr g c_q10
  have c_q11 := RWz.gr g c_q11
  have c_q12 := RWz.gr g c_q12
  have c_q13 := RWz.gr g c_q13
  have c_q14 := RWz.gr g c_q14
  have c_q15 := RWz.gr g c_q15
  have c_q16 := RWz.gr g c_q16
  have c_q17 := OBz.gr g (by decide) c_q17
  have c_q18 := OBz.gr g (by decide) c_q18
  have c_q19 := OBz.gr g (by decide) c_q19
  have c_q20 := KNo.gr g (by decide) c_q20
  have hN : N11 K0 → N11 K := fun h => n1 (hN h)
  have c_q21 : KNo 4 0 K F q21 := c_q21
  refine tx_putF (C := RX10) (T := TX10) (N := 19) (ci := 11) (ty := (.object "LateRules$Followers")) S hK hT hS inX10 tyX10 tyX10_ok nmX10 1 rfl rfl 12 (by decide) kf_X10_77 rfl hnm rfl (by decide +kernel) rfl rfl (Nat.le_of_ble_eq_true rfl) dX10_init_173 (fun H locs hT hS => ?_)
  have hT : TX E K F G ((q8, .inl (E.2.1 5, 8, .inr (.inr (.inr (.inr (va_up (va_up (va_up (va_up (va_up (va_up (va_up (va_up (fun _ => none) 0 (some q9)) 1 (some q10)) 2 (some q11)) 3 (some q12)) 4 (some q13)) 5 (some q14)) 6 (some q15)) 7 (some q16))))))) :: (a, .inr (11, [.ref q1, .ref q2, .ref q3, .ref q4, .ref q5, .ref q6, .ref q7, .ref q8, .ref q17, .ref q18, .ref q19, .ref q20, .ref q21, .null, .null, .null, .null, .int 0, .int 0])) :: L) H := hT
  refine lv_aload_n hx hb dX10_init_176 rfl (lv_at hl 1 rfl) ?_
  refine tx_new (ci := 4) (fs := [.null, .null, .null, .int 0]) S hK hz hT hS inX3 tyX3 tyX3_ok kn_X10_81 kin_X3.1 kin_X3.2 rfl (by intro j hj; match j, hj with | 0, _ => rfl | 1, _ => rfl | 2, _ => rfl | 3, _ => rfl | j + 4, hj => exact absurd hj (by omega)) (Nat.le_of_ble_eq_true rfl) (Nat.le_of_ble_eq_true rfl) dX10_init_177 (fun q22 H hT hS => ?_)
  refine lv_dup hx hb dX10_init_180 rfl ?_
  refine x_cv (x_runI (b := q22) (As := []) (rest := [.ref q22, .ref a]) S (c_X3_init l E K F G ((q8, .inl (E.2.1 5, 8, .inr (.inr (.inr (.inr (va_up (va_up (va_up (va_up (va_up (va_up (va_up (va_up (fun _ => none) 0 (some q9)) 1 (some q10)) 2 (some q11)) 3 (some q12)) 4 (some q13)) 5 (some q14)) 6 (some q15)) 7 (some q16))))))) :: (a, .inr (11, [.ref q1, .ref q2, .ref q3, .ref q4, .ref q5, .ref q6, .ref q7, .ref q8, .ref q17, .ref q18, .ref q19, .ref q20, .ref q21, .null, .null, .null, .null, .int 0, .int 0])) :: L) q22) mi_X3_init rfl km_X10_83 rfl rfl ⟨(Nat.le_of_ble_eq_true rfl), (Nat.le_of_ble_eq_true rfl)⟩ hK (fun _ => XPx.blind) (fun U hU hW => XPx.at hK hA hz hS hT hU hW) rfl hl.1 (Nat.le_of_ble_eq_true rfl) dX10_init_181 ⟨(Nat.le_of_ble_eq_true rfl), (Nat.le_of_ble_eq_true rfl)⟩) hS ?_
  rintro ⟨K, F, G⟩ H locs ⟨g, c_q22, n1⟩ hT hS
  dsimp only at g c_q22 n1 hT
  have hT : TX E K F G ((q8, .inl (E.2.1 5, 8, .inr (.inr (.inr (.inr (va_up (va_up (va_up (va_up (va_up (va_up (va_up (va_up (fun _ => none) 0 (some q9)) 1 (some q10)) 2 (some q11)) 3 (some q12)) 4 (some q13)) 5 (some q14)) 6 (some q15)) 7 (some q16))))))) :: (a, .inr (11, [.ref q1, .ref q2, .ref q3, .ref q4, .ref q5, .ref q6, .ref q7, .ref q8, .ref q17, .ref q18, .ref q19, .ref q20, .ref q21, .null, .null, .null, .null, .int 0, .int 0])) :: L) H := hT
  have hgr := hgr.tr g
  have c_q1 := OBz.gr g (by decide) c_q1
  have c_q2 := RDz.gr g c_q2
  have c_q3 := BKz.gr g c_q3
  have c_q4 := RWz.gr g c_q4
  have c_q5 := RWz.gr g c_q5
  have c_q6 := RWz.gr g c_q6
  have c_q7 := RWz.gr g c_q7
  have c_q9 := RWz.gr g c_q9
  have c_q10 := RWz.gr g c_q10
  have c_q11 := RWz.gr g c_q11
  have c_q12 := RWz.gr g c_q12
  have c_q13 := RWz.gr g c_q13
  have c_q14 := RWz.gr g c_q14
  have c_q15 := RWz.gr g c_q15
  have c_q16 := RWz.gr g c_q16
  have c_q17 := OBz.gr g (by decide) c_q17
  have c_q18 := OBz.gr g (by decide) c_q18
  have c_q19 := OBz.gr g (by decide) c_q19
  have c_q20 := KNo.gr g (by decide) c_q20
  have c_q21 := KNo.gr g (by decide) c_q21
  have hN : N11 K0 → N11 K := fun h => n1 (hN h)
  have c_q22 : KNo 5 0 K F q22 := c_q22
  refine tx_putF (C := RX10) (T := TX10) (N := 19) (ci := 11) (ty := (.object "LateRules$Leaners")) S hK hT hS inX10 tyX10 tyX10_ok nmX10 1 rfl rfl 13 (by decide) kf_X10_84 rfl hnm rfl (by decide +kernel) rfl rfl (Nat.le_of_ble_eq_true rfl) dX10_init_184 (fun H locs hT hS => ?_)
  have hT : TX E K F G ((q8, .inl (E.2.1 5, 8, .inr (.inr (.inr (.inr (va_up (va_up (va_up (va_up (va_up (va_up (va_up (va_up (fun _ => none) 0 (some q9)) 1 (some q10)) 2 (some q11)) 3 (some q12)) 4 (some q13)) 5 (some q14)) 6 (some q15)) 7 (some q16))))))) :: (a, .inr (11, [.ref q1, .ref q2, .ref q3, .ref q4, .ref q5, .ref q6, .ref q7, .ref q8, .ref q17, .ref q18, .ref q19, .ref q20, .ref q21, .ref q22, .null, .null, .null, .int 0, .int 0])) :: L) H := hT
  refine lv_aload_n hx hb dX10_init_187 rfl (lv_at hl 1 rfl) ?_
  refine tx_new (ci := 10) (fs := [.null, .int 0, .int 0, .int 0]) S hK hz hT hS inX9 tyX9 tyX9_ok kn_X10_88 kin_X9.1 kin_X9.2 rfl (by intro j hj; match j, hj with | 0, _ => rfl | 1, _ => rfl | 2, _ => rfl | 3, _ => rfl | j + 4, hj => exact absurd hj (by omega)) (Nat.le_of_ble_eq_true rfl) (Nat.le_of_ble_eq_true rfl) dX10_init_188 (fun q23 H hT hS => ?_)
  refine lv_dup hx hb dX10_init_191 rfl ?_
  refine x_cv (x_runI (b := q23) (As := []) (rest := [.ref q23, .ref a]) S (c_X9_init l E K F G ((q8, .inl (E.2.1 5, 8, .inr (.inr (.inr (.inr (va_up (va_up (va_up (va_up (va_up (va_up (va_up (va_up (fun _ => none) 0 (some q9)) 1 (some q10)) 2 (some q11)) 3 (some q12)) 4 (some q13)) 5 (some q14)) 6 (some q15)) 7 (some q16))))))) :: (a, .inr (11, [.ref q1, .ref q2, .ref q3, .ref q4, .ref q5, .ref q6, .ref q7, .ref q8, .ref q17, .ref q18, .ref q19, .ref q20, .ref q21, .ref q22, .null, .null, .null, .int 0, .int 0])) :: L) q23) mi_X9_init rfl km_X10_90 rfl rfl ⟨(Nat.le_of_ble_eq_true rfl), (Nat.le_of_ble_eq_true rfl)⟩ hK (fun _ => XPx.blind) (fun U hU hW => XPx.at hK hA hz hS hT hU hW) rfl hl.1 (Nat.le_of_ble_eq_true rfl) dX10_init_192 ⟨(Nat.le_of_ble_eq_true rfl), (Nat.le_of_ble_eq_true rfl)⟩) hS ?_
  rintro ⟨q24, q25⟩ H locs - hT hS
  have hT : TX E K F G ((q23, .inr (10, [.ref q24, .int 0, .int 0, .int 0])) :: (q24, .inr (0, [.ref q25, .int 0, .int 0, .int 0])) :: (q25, .inl (E.2.1 2, 16, .inl (fun _ => 0))) :: (q8, .inl (E.2.1 5, 8, .inr (.inr (.inr (.inr (va_up (va_up (va_up (va_up (va_up (va_up (va_up (va_up (fun _ => none) 0 (some q9)) 1 (some q10)) 2 (some q11)) 3 (some q12)) 4 (some q13)) 5 (some q14)) 6 (some q15)) 7 (some q16))))))) :: (a, .inr (11, [.ref q1, .ref q2, .ref q3, .ref q4, .ref q5, .ref q6, .ref q7, .ref q8, .ref q17, .ref q18, .ref q19, .ref q20, .ref q21, .ref q22, .null, .null, .null, .int 0, .int 0])) :: L) H := hT
  refine tx_putF (C := RX10) (T := TX10) (N := 19) (ci := 11) (ty := (.object "LateRules$Verdict")) S hK hT hS inX10 tyX10 tyX10_ok nmX10 4 rfl rfl 14 (by decide) kf_X10_91 rfl hnm rfl (by decide +kernel) rfl rfl (Nat.le_of_ble_eq_true rfl) dX10_init_195 (fun H locs hT hS => ?_)
  have hT : TX E K F G ((q23, .inr (10, [.ref q24, .int 0, .int 0, .int 0])) :: (q24, .inr (0, [.ref q25, .int 0, .int 0, .int 0])) :: (q25, .inl (E.2.1 2, 16, .inl (fun _ => 0))) :: (q8, .inl (E.2.1 5, 8, .inr (.inr (.inr (.inr (va_up (va_up (va_up (va_up (va_up (va_up (va_up (va_up (fun _ => none) 0 (some q9)) 1 (some q10)) 2 (some q11)) 3 (some q12)) 4 (some q13)) 5 (some q14)) 6 (some q15)) 7 (some q16))))))) :: (a, .inr (11, [.ref q1, .ref q2, .ref q3, .ref q4, .ref q5, .ref q6, .ref q7, .ref q8, .ref q17, .ref q18, .ref q19, .ref q20, .ref q21, .ref q22, .ref q23, .null, .null, .int 0, .int 0])) :: L) H := hT
  refine lv_aload_n hx hb dX10_init_198 rfl (lv_at hl 1 rfl) ?_
  refine lv_bipush (v := 6) hx hb dX10_init_199 (by decide) ?_
  refine tx_na0 S hK hz hT hS (N := 6) (by decide) (by decide) (Nat.le_of_ble_eq_true rfl) (Nat.le_of_ble_eq_true rfl) (Nat.le_of_ble_eq_true rfl) dX10_init_201 (fun q26 H hT hS => ?_)
  refine tx_putF (C := RX10) (T := TX10) (N := 19) (ci := 11) (ty := (.array .int)) S hK hT hS inX10 tyX10 tyX10_ok nmX10 5 rfl rfl 15 (by decide) kf_X10_95 rfl hnm rfl (by decide +kernel) rfl rfl (Nat.le_of_ble_eq_true rfl) dX10_init_203 (fun H locs hT hS => ?_)
  have hT : TX E K F G ((q26, .inl (E.2.1 0, 6, .inl (fun _ => 0))) :: (q23, .inr (10, [.ref q24, .int 0, .int 0, .int 0])) :: (q24, .inr (0, [.ref q25, .int 0, .int 0, .int 0])) :: (q25, .inl (E.2.1 2, 16, .inl (fun _ => 0))) :: (q8, .inl (E.2.1 5, 8, .inr (.inr (.inr (.inr (va_up (va_up (va_up (va_up (va_up (va_up (va_up (va_up (fun _ => none) 0 (some q9)) 1 (some q10)) 2 (some q11)) 3 (some q12)) 4 (some q13)) 5 (some q14)) 6 (some q15)) 7 (some q16))))))) :: (a, .inr (11, [.ref q1, .ref q2, .ref q3, .ref q4, .ref q5, .ref q6, .ref q7, .ref q8, .ref q17, .ref q18, .ref q19, .ref q20, .ref q21, .ref q22, .ref q23, .ref q26, .null, .int 0, .int 0])) :: L) H := hT
  refine lv_aload_n hx hb dX10_init_206 rfl (lv_at hl 1 rfl) ?_
  refine lv_iconst (v := 4) hx hb dX10_init_207 (by decide) ?_
  refine tx_na0 S hK hz hT hS (N := 4) (by decide) (by decide) (Nat.le_of_ble_eq_true rfl) (Nat.le_of_ble_eq_true rfl) (Nat.le_of_ble_eq_true rfl) dX10_init_208 (fun q27 H hT hS => ?_)
  refine tx_putF (C := RX10) (T := TX10) (N := 19) (ci := 11) (ty := (.array .int)) S hK hT hS inX10 tyX10 tyX10_ok nmX10 6 rfl rfl 16 (by decide) kf_X10_99 rfl hnm rfl (by decide +kernel) rfl rfl (Nat.le_of_ble_eq_true rfl) dX10_init_210 (fun H locs hT hS => ?_)
  have hT : TX E K F G ((q27, .inl (E.2.1 0, 4, .inl (fun _ => 0))) :: (q26, .inl (E.2.1 0, 6, .inl (fun _ => 0))) :: (q23, .inr (10, [.ref q24, .int 0, .int 0, .int 0])) :: (q24, .inr (0, [.ref q25, .int 0, .int 0, .int 0])) :: (q25, .inl (E.2.1 2, 16, .inl (fun _ => 0))) :: (q8, .inl (E.2.1 5, 8, .inr (.inr (.inr (.inr (va_up (va_up (va_up (va_up (va_up (va_up (va_up (va_up (fun _ => none) 0 (some q9)) 1 (some q10)) 2 (some q11)) 3 (some q12)) 4 (some q13)) 5 (some q14)) 6 (some q15)) 7 (some q16))))))) :: (a, .inr (11, [.ref q1, .ref q2, .ref q3, .ref q4, .ref q5, .ref q6, .ref q7, .ref q8, .ref q17, .ref q18, .ref q19, .ref q20, .ref q21, .ref q22, .ref q23, .ref q26, .ref q27, .int 0, .int 0])) :: L) H := hT
  obtain ⟨K, F, G, g, hall, n1, hT⟩ := TX.cls (L := ((q23, .inr (10, [.ref q24, .int 0, .int 0, .int 0])) :: (q24, .inr (0, [.ref q25, .int 0, .int 0, .int 0])) :: (q25, .inl (E.2.1 2, 16, .inl (fun _ => 0))) :: (q8, .inl (E.2.1 5, 8, .inr (.inr (.inr (.inr (va_up (va_up (va_up (va_up (va_up (va_up (va_up (va_up (fun _ => none) 0 (some q9)) 1 (some q10)) 2 (some q11)) 3 (some q12)) 4 (some q13)) 5 (some q14)) 6 (some q15)) 7 (some q16))))))) :: (a, .inr (11, [.ref q1, .ref q2, .ref q3, .ref q4, .ref q5, .ref q6, .ref q7, .ref q8, .ref q17, .ref q18, .ref q19, .ref q20, .ref q21, .ref q22, .ref q23, .ref q26, .ref q27, .int 0, .int 0])) :: L)) [(q27, 27, 0, 0, 4, (fun _ => 0)), (q26, 26, 0, 0, 6, (fun _ => 0))] hT (List.forall_mem_cons.mpr ⟨⟨(show (27 : Nat) ≠ 0 by decide), (show (27 : Nat) ≠ 11 by decide), fun _ _ _ _ _ => ⟨0, 4, rfl, rfl, (fun _ => trivial)⟩⟩, List.forall_mem_cons.mpr ⟨⟨(show (26 : Nat) ≠ 0 by decide), (show (26 : Nat) ≠ 11 by decide), fun _ _ _ _ _ => ⟨0, 6, rfl, rfl, (fun _ => trivial)⟩⟩, List.forall_mem_nil _⟩⟩)
  have hgr := hgr.tr g
  have c_q1 := OBz.gr g (by decide) c_q1
  have c_q2 := RDz.gr g c_q2
  have c_q3 := BKz.gr g c_q3
  have c_q4 := RWz.gr g c_q4
  have c_q5 := RWz.gr g c_q5
  have c_q6 := RWz.gr g c_q6
  have c_q7 := RWz.gr g c_q7
  have c_q9 := RWz.gr g c_q9
  have c_q10 := RWz.gr g c_q10
  have c_q11 := RWz.gr g c_q11
  have c_q12 := RWz.gr g c_q12
  have c_q13 := RWz.gr g c_q13
  have c_q14 := RWz.gr g c_q14
  have c_q15 := RWz.gr g c_q15
  have c_q16 := RWz.gr g c_q16
  have c_q17 := OBz.gr g (by decide) c_q17
  have c_q18 := OBz.gr g (by decide) c_q18
  have c_q19 := OBz.gr g (by decide) c_q19
  have c_q20 := KNo.gr g (by decide) c_q20
  have c_q21 := KNo.gr g (by decide) c_q21
  have c_q22 := KNo.gr g (by decide) c_q22
  have hN : N11 K0 → N11 K := fun h => n1 (hN h)
  have a_q27 : K q27 = 27 ∧ F q27 99 = 0 ∧ G.2.1 q27 = (fun _ => 0) := hall _ (List.mem_of_getElem? (i := 0) rfl)
  have a_q26 : K q26 = 26 ∧ F q26 99 = 0 ∧ G.2.1 q26 = (fun _ => 0) := hall _ (List.mem_of_getElem? (i := 1) rfl)
  have hT := TX.vd q24 (by rw [eK] at hN; exact hN hN9) hT
  obtain ⟨E9, eE⟩ : ∃ E9 : XE, E9 = (E.1, E.2.1, E.2.2.1, q24, E.2.2.2.2) := ⟨_, rfl⟩
  have hT : TX E9 K F G ((q23, .inr (10, [.ref q24, .int 0, .int 0, .int 0])) :: (q24, .inr (0, [.ref q25, .int 0, .int 0, .int 0])) :: (q25, .inl (E.2.1 2, 16, .inl (fun _ => 0))) :: (q8, .inl (E.2.1 5, 8, .inr (.inr (.inr (.inr (va_up (va_up (va_up (va_up (va_up (va_up (va_up (va_up (fun _ => none) 0 (some q9)) 1 (some q10)) 2 (some q11)) 3 (some q12)) 4 (some q13)) 5 (some q14)) 6 (some q15)) 7 (some q16))))))) :: (a, .inr (11, [.ref q1, .ref q2, .ref q3, .ref q4, .ref q5, .ref q6, .ref q7, .ref q8, .ref q17, .ref q18, .ref q19, .ref q20, .ref q21, .ref q22, .ref q23, .ref q26, .ref q27, .int 0, .int 0])) :: L) H := by rw [eE]; exact hT
  have e5 : E9.2.2.2.1 = q24 := by rw [eE]
  have e6 : E9.2.1 = E.2.1 := by rw [eE]
  obtain ⟨K, F, G, g, k_vd, f_vd, -, -, -, -, hT⟩ := TX.cl (a := q23) hT 11 (fvx 0 []) (fun _ => 0) (fun _ => 0) (fun _ => none) (by decide) (fun K1 F1 hM hFF hF => ⟨by rw [e5] <;> rfl, Or.inl rfl⟩)
  have hgr := hgr.tr g
  have c_q1 := OBz.gr g (by decide) c_q1
  have c_q2 := RDz.gr g c_q2
  have c_q3 := BKz.gr g c_q3
  have c_q4 := RWz.gr g c_q4
  have c_q5 := RWz.gr g c_q5
  have c_q6 := RWz.gr g c_q6
  have c_q7 := RWz.gr g c_q7
  have c_q9 := RWz.gr g c_q9
  have c_q10 := RWz.gr g c_q10
  have c_q11 := RWz.gr g c_q11
  have c_q12 := RWz.gr g c_q12
  have c_q13 := RWz.gr g c_q13
  have c_q14 := RWz.gr g c_q14
  have c_q15 := RWz.gr g c_q15
  have c_q16 := RWz.gr g c_q16
  have c_q17 := OBz.gr g (by decide) c_q17
  have c_q18 := OBz.gr g (by decide) c_q18
  have c_q19 := OBz.gr g (by decide) c_q19
  have c_q20 := KNo.gr g (by decide) c_q20
  have c_q21 := KNo.gr g (by decide) c_q21
  have c_q22 := KNo.gr g (by decide) c_q22
  have a_q27 : K q27 = 27 ∧ F q27 99 = 0 ∧ G.2.1 q27 = (fun _ => 0) := ⟨g.k a_q27.1 (by decide), by rw [(g.at a_q27.1 (by decide)).1]; exact a_q27.2.1, (g.at a_q27.1 (by decide)).2.2.1.trans a_q27.2.2⟩
  have a_q26 : K q26 = 26 ∧ F q26 99 = 0 ∧ G.2.1 q26 = (fun _ => 0) := ⟨g.k a_q26.1 (by decide), by rw [(g.at a_q26.1 (by decide)).1]; exact a_q26.2.1, (g.at a_q26.1 (by decide)).2.2.1.trans a_q26.2.2⟩
  have c_vd : KNo 11 0 K F q23 := ⟨k_vd, by rw [f_vd]; rfl⟩
  have hT := hT.rot
  have hT : TX E9 K F G ((q8, .inl (E.2.1 5, 8, .inr (.inr (.inr (.inr (va_up (va_up (va_up (va_up (va_up (va_up (va_up (va_up (fun _ => none) 0 (some q9)) 1 (some q10)) 2 (some q11)) 3 (some q12)) 4 (some q13)) 5 (some q14)) 6 (some q15)) 7 (some q16))))))) :: (q24, .inr (0, [.ref q25, .int 0, .int 0, .int 0])) :: (q25, .inl (E.2.1 2, 16, .inl (fun _ => 0))) :: (a, .inr (11, [.ref q1, .ref q2, .ref q3, .ref q4, .ref q5, .ref q6, .ref q7, .ref q8, .ref q17, .ref q18, .ref q19, .ref q20, .ref q21, .ref q22, .ref q23, .ref q26, .ref q27, .int 0, .int 0])) :: L) H := hT
  obtain ⟨K, F, G, g, k_mk, f_mk, -, -, r_mk, -, hT⟩ := TX.cl (a := q8) hT 16 (fvx 0 []) (fun _ => 0) (fun _ => 0) (va_up (va_up (va_up (va_up (va_up (va_up (va_up (va_up (fun _ => none) 0 (some q9)) 1 (some q10)) 2 (some q11)) 3 (some q12)) 4 (some q13)) 5 (some q14)) 6 (some q15)) 7 (some q16)) (by decide) (fun K1 F1 hM hFF hF => ⟨by rw [e6] <;> rfl, fun i hi => by match i, hi with | 0, _ => exact ⟨q9, rfl, hM _ _ c_q9.1 (by decide), (congrFun (hFF q9 (by rw [c_q9.1]; decide)) 99).trans c_q9.2.1⟩ | 1, _ => exact ⟨q10, rfl, hM _ _ c_q10.1 (by decide), (congrFun (hFF q10 (by rw [c_q10.1]; decide)) 99).trans c_q10.2.1⟩ | 2, _ => exact ⟨q11, rfl, hM _ _ c_q11.1 (by decide), (congrFun (hFF q11 (by rw [c_q11.1]; decide)) 99).trans c_q11.2.1⟩ | 3, _ => exact ⟨q12, rfl, hM _ _ c_q12.1 (by decide), (congrFun (hFF q12 (by rw [c_q12.1]; decide)) 99).trans c_q12.2.1⟩ | 4, _ => exact ⟨q13, rfl, hM _ _ c_q13.1 (by decide), (congrFun (hFF q13 (by rw [c_q13.1]; decide)) 99).trans c_q13.2.1⟩ | 5, _ => exact ⟨q14, rfl, hM _ _ c_q14.1 (by decide), (congrFun (hFF q14 (by rw [c_q14.1]; decide)) 99).trans c_q14.2.1⟩ | 6, _ => exact ⟨q15, rfl, hM _ _ c_q15.1 (by decide), (congrFun (hFF q15 (by rw [c_q15.1]; decide)) 99).trans c_q15.2.1⟩ | 7, _ => exact ⟨q16, rfl, hM _ _ c_q16.1 (by decide), (congrFun (hFF q16 (by rw [c_q16.1]; decide)) 99).trans c_q16.2.1⟩ | i + 8, hi => exact absurd hi (by omega)⟩)
  have hgr := hgr.tr g
  have c_q1 := OBz.gr g (by decide) c_q1
  have c_q2 := RDz.gr g c_q2
  have c_q3 := BKz.gr g c_q3
  have c_q4 := RWz.gr g c_q4
  have c_q5 := RWz.gr g c_q5
  have c_q6 := RWz.gr g c_q6
  have c_q7 := RWz.gr g c_q7
  have c_q9 := RWz.gr g c_q9
  have c_q10 := RWz.gr g c_q10
  have c_q11 := RWz.gr g c_q11
  have c_q12 := RWz.gr g c_q12
  have c_q13 := RWz.gr g c_q13
  have c_q14 := RWz.gr g c_q14
  have c_q15 := RWz.gr g c_q15
  have c_q16 := RWz.gr g c_q16
  have c_q17 := OBz.gr g (by decide) c_q17
  have c_q18 := OBz.gr g (by decide) c_q18
  have c_q19 := OBz.gr g (by decide) c_q19
  have c_q20 := KNo.gr g (by decide) c_q20
  have c_q21 := KNo.gr g (by decide) c_q21
  have c_q22 := KNo.gr g (by decide) c_q22
  have a_q27 : K q27 = 27 ∧ F q27 99 = 0 ∧ G.2.1 q27 = (fun _ => 0) := ⟨g.k a_q27.1 (by decide), by rw [(g.at a_q27.1 (by decide)).1]; exact a_q27.2.1, (g.at a_q27.1 (by decide)).2.2.1.trans a_q27.2.2⟩
  have a_q26 : K q26 = 26 ∧ F q26 99 = 0 ∧ G.2.1 q26 = (fun _ => 0) := ⟨g.k a_q26.1 (by decide), by rw [(g.at a_q26.1 (by decide)).1]; exact a_q26.2.1, (g.at a_q26.1 (by decide)).2.2.1.trans a_q26.2.2⟩
  have c_vd := KNo.gr g (by decide) c_vd
  have c_mk : K q8 = 16 ∧ F q8 99 = 0 ∧ G.2.2.1 q8 = (va_up (va_up (va_up (va_up (va_up (va_up (va_up (va_up (fun _ => none) 0 (some q9)) 1 (some q10)) 2 (some q11)) 3 (some q12)) 4 (some q13)) 5 (some q14)) 6 (some q15)) 7 (some q16)) := ⟨k_mk, by rw [f_mk]; rfl, r_mk⟩
  have hT := hT.rot
  have hT : TX E9 K F G ((a, .inr (11, [.ref q1, .ref q2, .ref q3, .ref q4, .ref q5, .ref q6, .ref q7, .ref q8, .ref q17, .ref q18, .ref q19, .ref q20, .ref q21, .ref q22, .ref q23, .ref q26, .ref q27, .int 0, .int 0])) :: (q24, .inr (0, [.ref q25, .int 0, .int 0, .int 0])) :: (q25, .inl (E.2.1 2, 16, .inl (fun _ => 0))) :: L) H := hT
  obtain ⟨K, F, G, g, hk, hFa, hd, -, -, -, hT⟩ := TX.cl (a := a) hT 12 (fvx 0 [q1, q2, q3, q4, q5, q6, q7, q8, q17, q18, q19, q20, q21, q22, q23, q26, q27, 0, 0]) (fun _ => 0) (fun _ => 0) (fun _ => none) (by decide) (fun K1 F1 hM hFF hF => ⟨by rw [hF] <;> rfl, by rw [hF]; exact hM _ _ (c_q1.1) (by decide), by rw [hF]; exact (congrFun (hFF q1 (by rw [c_q1.1]; decide)) 99).trans (c_q1.2.1), by rw [hF]; exact hM _ _ (c_q2.1) (by decide), by rw [hF]; exact (congrFun (hFF q2 (by rw [c_q2.1]; decide)) 99).trans (c_q2.2.1), by rw [hF]; exact hM _ _ (c_q3.1) (by decide), by rw [hF]; exact (congrFun (hFF q3 (by rw [c_q3.1]; decide)) 99).trans (c_q3.2.1), by rw [hF]; exact hM _ _ (c_q4.1) (by decide), by rw [hF]; exact (congrFun (hFF q4 (by rw [c_q4.1]; decide)) 99).trans (c_q4.2.1), by rw [hF]; exact hM _ _ (c_q5.1) (by decide), by rw [hF]; exact (congrFun (hFF q5 (by rw [c_q5.1]; decide)) 99).trans (c_q5.2.1), by rw [hF]; exact hM _ _ (c_q6.1) (by decide), by rw [hF]; exact (congrFun (hFF q6 (by rw [c_q6.1]; decide)) 99).trans (c_q6.2.1), by rw [hF]; exact hM _ _ (c_q7.1) (by decide), by rw [hF]; exact (congrFun (hFF q7 (by rw [c_q7.1]; decide)) 99).trans (c_q7.2.1), by rw [hF]; exact hM _ _ (c_mk.1) (by decide), by rw [hF]; exact (congrFun (hFF q8 (by rw [c_mk.1]; decide)) 99).trans (c_mk.2.1), by rw [hF]; exact hM _ _ (c_q17.1) (by decide), by rw [hF]; exact (congrFun (hFF q17 (by rw [c_q17.1]; decide)) 99).trans (c_q17.2.1), by rw [hF]; exact hM _ _ (c_q18.1) (by decide), by rw [hF]; exact (congrFun (hFF q18 (by rw [c_q18.1]; decide)) 99).trans (c_q18.2.1), by rw [hF]; exact hM _ _ (c_q19.1) (by decide), by rw [hF]; exact (congrFun (hFF q19 (by rw [c_q19.1]; decide)) 99).trans (c_q19.2.1), by rw [hF]; exact hM _ _ (c_q20.1) (by decide), by rw [hF]; exact (congrFun (hFF q20 (by rw [c_q20.1]; decide)) 99).trans (c_q20.2), by rw [hF]; exact hM _ _ (c_q21.1) (by decide), by rw [hF]; exact (congrFun (hFF q21 (by rw [c_q21.1]; decide)) 99).trans (c_q21.2), by rw [hF]; exact hM _ _ (c_q22.1) (by decide), by rw [hF]; exact (congrFun (hFF q22 (by rw [c_q22.1]; decide)) 99).trans (c_q22.2), by rw [hF]; exact hM _ _ (c_vd.1) (by decide), by rw [hF]; exact (congrFun (hFF q23 (by rw [c_vd.1]; decide)) 99).trans (c_vd.2), by rw [hF]; exact hM _ _ (a_q26.1) (by decide), by rw [hF]; exact (congrFun (hFF q26 (by rw [a_q26.1]; decide)) 99).trans (a_q26.2.1), by rw [hF]; exact hM _ _ (a_q27.1) (by decide), by rw [hF]; exact (congrFun (hFF q27 (by rw [a_q27.1]; decide)) 99).trans (a_q27.2.1), Or.inl rfl⟩)
  have hgr := hgr.tr g
  have c_q1 := OBz.gr g (by decide) c_q1
  have c_q2 := RDz.gr g c_q2
  have c_q3 := BKz.gr g c_q3
  have c_q4 := RWz.gr g c_q4
  have c_q5 := RWz.gr g c_q5
  have c_q6 := RWz.gr g c_q6
  have c_q7 := RWz.gr g c_q7
  have c_q9 := RWz.gr g c_q9
  have c_q10 := RWz.gr g c_q10
  have c_q11 := RWz.gr g c_q11
  have c_q12 := RWz.gr g c_q12
  have c_q13 := RWz.gr g c_q13
  have c_q14 := RWz.gr g c_q14
  have c_q15 := RWz.gr g c_q15
  have c_q16 := RWz.gr g c_q16
  have c_q17 := OBz.gr g (by decide) c_q17
  have c_q18 := OBz.gr g (by decide) c_q18
  have c_q19 := OBz.gr g (by decide) c_q19
  have c_q20 := KNo.gr g (by decide) c_q20
  have c_q21 := KNo.gr g (by decide) c_q21
  have c_q22 := KNo.gr g (by decide) c_q22
  have a_q27 : K q27 = 27 ∧ F q27 99 = 0 ∧ G.2.1 q27 = (fun _ => 0) := ⟨g.k a_q27.1 (by decide), by rw [(g.at a_q27.1 (by decide)).1]; exact a_q27.2.1, (g.at a_q27.1 (by decide)).2.2.1.trans a_q27.2.2⟩
  have a_q26 : K q26 = 26 ∧ F q26 99 = 0 ∧ G.2.1 q26 = (fun _ => 0) := ⟨g.k a_q26.1 (by decide), by rw [(g.at a_q26.1 (by decide)).1]; exact a_q26.2.1, (g.at a_q26.1 (by decide)).2.2.1.trans a_q26.2.2⟩
  have c_vd := KNo.gr g (by decide) c_vd
  have c_mk : K q8 = 16 ∧ F q8 99 = 0 ∧ G.2.2.1 q8 = (va_up (va_up (va_up (va_up (va_up (va_up (va_up (va_up (fun _ => none) 0 (some q9)) 1 (some q10)) 2 (some q11)) 3 (some q12)) 4 (some q13)) 5 (some q14)) 6 (some q15)) 7 (some q16)) := ⟨g.k c_mk.1 (by decide), by rw [(g.at c_mk.1 (by decide)).1]; exact c_mk.2.1, (g.at c_mk.1 (by decide)).2.2.2.trans c_mk.2.2⟩
  have hcl : CLz K F G a := by
    unfold CLz
    rw [hFa]
    refine ⟨hk, hd, c_q1, c_q2, c_q3, c_q4, c_q5, c_q7, ⟨c_mk.1, fun i hi => ?_⟩, c_q17⟩
    show ∃ q : Nat, G.2.2.1 q8 i = some q ∧ RWz (4 + i) K F G q
    rw [c_mk.2.2]
    match i, hi with
    | 0, _ => exact ⟨q9, rfl, c_q9⟩
    | 1, _ => exact ⟨q10, rfl, c_q10⟩
    | 2, _ => exact ⟨q11, rfl, c_q11⟩
    | 3, _ => exact ⟨q12, rfl, c_q12⟩
    | 4, _ => exact ⟨q13, rfl, c_q13⟩
    | 5, _ => exact ⟨q14, rfl, c_q14⟩
    | 6, _ => exact ⟨q15, rfl, c_q15⟩
    | 7, _ => exact ⟨q16, rfl, c_q16⟩
    | i + 8, hi => exact absurd hi (by omega)
  rw [eE] at hT
  rw [eK, eF, eG] at hgr
  exact x_rv hx hb hr hlk hQ (Nat.le_of_ble_eq_true rfl) (Nat.le_of_ble_eq_true rfl) hS dX10_init_213 (q24, q25, K, F, G) ⟨hgr, hcl⟩ hT
