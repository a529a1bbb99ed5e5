theorem v_X11_least_116_25 {F : Nat → Nat → Nat} (G81 : XG) (G_47 : XG) (a : Nat) (x36 : Int32) (l6_47 : Int32) (p0 : Int32) (p2 : Int32) (p1 : Int32) (G : XG) (x8 : Int32) (x15 : Int32) (x30 : Int32) (x34 : Int32)
    (hG81 : G81 = cput G_47 (F a 1) x36.toNatClampNeg l6_47)
    (fl : aI (G_47.2.1 (F a 1)) (0 + 4 * (30 * p0.toInt + p1.toInt)) = 1)
    (z5 : ¬ (0 ≤ p0.toInt ∧ p0.toInt < 3 ∧ 0 ≤ p1.toInt ∧ p1.toInt < 30) → (cel (mw (G.2.1 (F a 1)) 0) (p0.toInt) (p1.toInt) 0) = -2000)
    (t8 : (x8.toInt = 1 ∧ (cel (mw (G.2.1 (F a 1)) 0) (p0.toInt) (p1.toInt) 0) ≠ -2000) ∨ (x8.toInt = 0 ∧ (cel (mw (G.2.1 (F a 1)) 0) (p0.toInt) (p1.toInt) 0) = -2000))
    (c11 : ¬ (x8.toInt = 0))
    (t15 : (x15.toInt = 1 ∧ 0 ≤ p2.toInt ∧ p2.toInt ≤ 2) ∨ (x15.toInt = 0 ∧ (p2.toInt < 0 ∨ 2 < p2.toInt)))
    (c18 : x15.toInt ≠ 0)
    (t30 : 0 ≤ p0.toInt ∧ p0.toInt ≤ 2 ∧ 0 ≤ p1.toInt ∧ p1.toInt ≤ 29 → x30.toInt = 4 * (30 * p0.toInt + p1.toInt))
    (t34 : x34.toInt = x30.toInt + (1 : Int) ∨ x30.toInt + (1 : Int) < -2147483648 ∨ 2147483648 ≤ x30.toInt + (1 : Int))
    (t36 : x36.toInt = x34.toInt + p2.toInt ∨ x34.toInt + p2.toInt < -2147483648 ∨ 2147483648 ≤ x34.toInt + p2.toInt)
    (I47_0 : -99 ≤ l6_47.toInt ∧ l6_47.toInt ≤ 100)
    (c51 : ¬ ((99 : Int) < l6_47.toInt)) :
    aI (G81.2.1 (F a 1)) (0 + 4 * (30 * p0.toInt + p1.toInt)) = 1 := by
  have hb9 : (0 ≤ p0.toInt ∧ p0.toInt < 3) ∧ (0 ≤ p1.toInt ∧ p1.toInt < 30) ∧ (0 ≤ p2.toInt ∧ p2.toInt ≤ 2) := by omega
  have hc9 : (cel (mw (G.2.1 (F a 1)) 0) (p0.toInt) (p1.toInt) 0) ≠ -2000 := by omega
  have hx9 : x36.toInt = 4 * (30 * p0.toInt + p1.toInt) + 1 + p2.toInt := by omega
  clear z5 t8 t15 t30 t34 t36
  first
    | exact fl
    | (rw [aI_pu hG81 rfl rfl rfl (by omega) _ (by omega), if_neg (by omega)]; exact fl)
theorem v_X11_least_116_26 {K : Nat → Nat} {F : Nat → Nat → Nat} (a : Nat) (G : XG) (G25 : XG) (G_47 : XG) (G81 : XG) (x36 : Int32) (l6_47 : Int32) (G92 : XG) (G97 : XG) (p0 : Int32) (p2 : Int32) (p1 : Int32) (l5_47 : Int32) (x97 : Int32) (x8 : Int32) (x15 : Int32) (x30 : Int32) (x34 : Int32) (N47 : Nat)
    (ha : K a = 13)
    (hG81 : G81 = cput G_47 (F a 1) x36.toNatClampNeg l6_47)
    (oq25 : mw (G25.2.1 (F a 4)) 0 = mw (G.2.1 (F a 1)) 0)
    (oq25a : RM (G25.2.1 (F a 4)) 0)
    (pm : ∀ v : Int, rset (mw (G_47.2.1 (F a 1)) 0) (90 * p0.toInt + 30 * p2.toInt + p1.toInt) v = rset (mw (G.2.1 (F a 1)) 0) (90 * p0.toInt + 30 * p2.toInt + p1.toInt) v)
    (fl : aI (G_47.2.1 (F a 1)) (0 + 4 * (30 * p0.toInt + p1.toInt)) = 1)
    (lp : (l5_47.toInt = -2147483648 ∧ ∀ v : Int, -99 ≤ v → v < l6_47.toInt → v ≠ (cel (mw (G.2.1 (F a 1)) 0) p0.toInt p1.toInt p2.toInt) → ffP (G.2.1 (F a 10)) (rset (mw (G.2.1 (F a 1)) 0) (90 * p0.toInt + 30 * p2.toInt + p1.toInt) v) (fuO (G.2.1 (F a 10)) (mw (G.2.1 (F a 1)) 0) (rset (mw (G.2.1 (F a 1)) 0) (90 * p0.toInt + 30 * p2.toInt + p1.toInt) v) 2) ≠ -1) ∨ (l5_47.toInt ≠ -2147483648 ∧ LsS (fun v => ffP (G.2.1 (F a 10)) (rset (mw (G.2.1 (F a 1)) 0) (90 * p0.toInt + 30 * p2.toInt + p1.toInt) v) (fuO (G.2.1 (F a 10)) (mw (G.2.1 (F a 1)) 0) (rset (mw (G.2.1 (F a 1)) 0) (90 * p0.toInt + 30 * p2.toInt + p1.toInt) v) 2) = -1) (cel (mw (G.2.1 (F a 1)) 0) p0.toInt p1.toInt p2.toInt) l5_47.toInt))
    (oq92a : G92.2.2.2 = G81.2.2.2)
    (oq97 : pL G97 F a = fuO (G.2.1 (F a 10)) (mw (G.2.1 (F a 1)) 0) (mw (G81.2.1 (F a 1)) 0) (2 : Int))
    (oq97a : x97.toInt = ffP (G.2.1 (F a 10)) (mw (G81.2.1 (F a 1)) 0) (pL G97 F a))
    (oq97b : 0 ≤ ((G97.1 a 19).toInt) ∧ ((G97.1 a 19).toInt) ≤ 2388 ∧ x97.toInt < ((G97.1 a 19).toInt))
    (z5 : ¬ (0 ≤ p0.toInt ∧ p0.toInt < 3 ∧ 0 ≤ p1.toInt ∧ p1.toInt < 30) → (cel (mw (G.2.1 (F a 1)) 0) (p0.toInt) (p1.toInt) 0) = -2000)
    (t8 : (x8.toInt = 1 ∧ (cel (mw (G.2.1 (F a 1)) 0) (p0.toInt) (p1.toInt) 0) ≠ -2000) ∨ (x8.toInt = 0 ∧ (cel (mw (G.2.1 (F a 1)) 0) (p0.toInt) (p1.toInt) 0) = -2000))
    (c11 : ¬ (x8.toInt = 0))
    (t15 : (x15.toInt = 1 ∧ 0 ≤ p2.toInt ∧ p2.toInt ≤ 2) ∨ (x15.toInt = 0 ∧ (p2.toInt < 0 ∨ 2 < p2.toInt)))
    (c18 : x15.toInt ≠ 0)
    (t30 : 0 ≤ p0.toInt ∧ p0.toInt ≤ 2 ∧ 0 ≤ p1.toInt ∧ p1.toInt ≤ 29 → x30.toInt = 4 * (30 * p0.toInt + p1.toInt))
    (t34 : x34.toInt = x30.toInt + (1 : Int) ∨ x30.toInt + (1 : Int) < -2147483648 ∨ 2147483648 ≤ x30.toInt + (1 : Int))
    (t36 : x36.toInt = x34.toInt + p2.toInt ∨ x34.toInt + p2.toInt < -2147483648 ∨ 2147483648 ≤ x34.toInt + p2.toInt)
    (I47_0 : -99 ≤ l6_47.toInt ∧ l6_47.toInt ≤ 100)
    (hm47 : 200 - l6_47.toInt < (((N47) + 1 : Nat) : Int))
    (c51 : ¬ ((99 : Int) < l6_47.toInt))
    (c58 : ¬ (l5_47.toInt ≠ (-2147483648 : Int)))
    (c70 : ¬ (l6_47.toInt = (aI (G25.2.1 (F a 4)) (x36.toInt))))
    (t97 : -1 ≤ x97.toInt)
    (c101 : x97.toInt ≠ (-1 : Int)) :
    ((-2147483648 : Int) = -2147483648 ∧ ∀ v : Int, -99 ≤ v → v < (l6_47.toInt + 1) → v ≠ (cel (mw (G.2.1 (F a 1)) 0) p0.toInt p1.toInt p2.toInt) → ffP (G.2.1 (F a 10)) (rset (mw (G.2.1 (F a 1)) 0) (90 * p0.toInt + 30 * p2.toInt + p1.toInt) v) (fuO (G.2.1 (F a 10)) (mw (G.2.1 (F a 1)) 0) (rset (mw (G.2.1 (F a 1)) 0) (90 * p0.toInt + 30 * p2.toInt + p1.toInt) v) 2) ≠ -1) ∨ ((-2147483648 : Int) ≠ -2147483648 ∧ LsS (fun v => ffP (G.2.1 (F a 10)) (rset (mw (G.2.1 (F a 1)) 0) (90 * p0.toInt + 30 * p2.toInt + p1.toInt) v) (fuO (G.2.1 (F a 10)) (mw (G.2.1 (F a 1)) 0) (rset (mw (G.2.1 (F a 1)) 0) (90 * p0.toInt + 30 * p2.toInt + p1.toInt) v) 2) = -1) (cel (mw (G.2.1 (F a 1)) 0) p0.toInt p1.toInt p2.toInt) (-2147483648 : Int)) := by
  have hb9 : (0 ≤ p0.toInt ∧ p0.toInt < 3) ∧ (0 ≤ p1.toInt ∧ p1.toInt < 30) ∧ (0 ≤ p2.toInt ∧ p2.toInt ≤ 2) := by omega
  have hc9 : (cel (mw (G.2.1 (F a 1)) 0) (p0.toInt) (p1.toInt) 0) ≠ -2000 := by omega
  have hx9 : x36.toInt = 4 * (30 * p0.toInt + p1.toInt) + 1 + p2.toInt := by omega
  clear z5 t8 t15 t30 t34 t36
  have e3 : aI (G25.2.1 (F a 4)) x36.toInt = cel (mw (G.2.1 (F a 1)) 0) p0.toInt p1.toInt p2.toInt := by
    have h := oq25a.cel0 (t := p0.toInt) (k := p1.toInt) (c := p2.toInt) (by omega) (by rw [oq25]; omega)
    rw [oq25] at h
    rw [show x36.toInt = 4 * (30 * p0.toInt + p1.toInt) + 1 + p2.toInt from by omega]
    exact h
  rcases lp with ⟨e, h⟩ | ⟨e, -⟩
  · first
      | exact Or.inl ⟨by omega, fun v a1 a2 a3 => h v a1 (by omega) a3⟩
      | (have ew := mw_set (b := 0) (t := p0.toInt) (k := p1.toInt) (c := p2.toInt) (by omega) (by decide) (by omega) (aI_pu hG81 rfl rfl rfl (by omega)) fl
         rw [pm] at ew
         rw [ew] at oq97 oq97a
         rw [oq97] at oq97a
         first
           | exact Or.inl ⟨rfl, fun v a1 a2 a3 => by
               by_cases g : v = l6_47.toInt
               · rw [g, ← oq97a]; exact c101
               · exact h v a1 (by omega) a3⟩
           | exact Or.inr ⟨by omega, LsS_yes ⟨by omega, by omega, by omega⟩ (oq97a.symm.trans (by omega)) h⟩)
  · exact absurd (show l5_47.toInt = -2147483648 by omega) e
theorem v_X11_least_116_27 {F : Nat → Nat → Nat} (G81 : XG) (G_47 : XG) (a : Nat) (x36 : Int32) (l6_47 : Int32) (p0 : Int32) (p2 : Int32) (p1 : Int32) (G : XG) (x8 : Int32) (x15 : Int32) (x30 : Int32) (x34 : Int32)
    (hG81 : G81 = cput G_47 (F a 1) x36.toNatClampNeg l6_47)
    (rm : RM (G_47.2.1 (F a 1)) 0)
    (fl : aI (G_47.2.1 (F a 1)) (0 + 4 * (30 * p0.toInt + p1.toInt)) = 1)
    (z5 : ¬ (0 ≤ p0.toInt ∧ p0.toInt < 3 ∧ 0 ≤ p1.toInt ∧ p1.toInt < 30) → (cel (mw (G.2.1 (F a 1)) 0) (p0.toInt) (p1.toInt) 0) = -2000)
    (t8 : (x8.toInt = 1 ∧ (cel (mw (G.2.1 (F a 1)) 0) (p0.toInt) (p1.toInt) 0) ≠ -2000) ∨ (x8.toInt = 0 ∧ (cel (mw (G.2.1 (F a 1)) 0) (p0.toInt) (p1.toInt) 0) = -2000))
    (c11 : ¬ (x8.toInt = 0))
    (t15 : (x15.toInt = 1 ∧ 0 ≤ p2.toInt ∧ p2.toInt ≤ 2) ∨ (x15.toInt = 0 ∧ (p2.toInt < 0 ∨ 2 < p2.toInt)))
    (c18 : x15.toInt ≠ 0)
    (t30 : 0 ≤ p0.toInt ∧ p0.toInt ≤ 2 ∧ 0 ≤ p1.toInt ∧ p1.toInt ≤ 29 → x30.toInt = 4 * (30 * p0.toInt + p1.toInt))
    (t34 : x34.toInt = x30.toInt + (1 : Int) ∨ x30.toInt + (1 : Int) < -2147483648 ∨ 2147483648 ≤ x30.toInt + (1 : Int))
    (t36 : x36.toInt = x34.toInt + p2.toInt ∨ x34.toInt + p2.toInt < -2147483648 ∨ 2147483648 ≤ x34.toInt + p2.toInt)
    (I47_0 : -99 ≤ l6_47.toInt ∧ l6_47.toInt ≤ 100)
    (c51 : ¬ ((99 : Int) < l6_47.toInt)) :
    RM (G81.2.1 (F a 1)) 0 := by
  have hb9 : (0 ≤ p0.toInt ∧ p0.toInt < 3) ∧ (0 ≤ p1.toInt ∧ p1.toInt < 30) ∧ (0 ≤ p2.toInt ∧ p2.toInt ≤ 2) := by omega
  have hc9 : (cel (mw (G.2.1 (F a 1)) 0) (p0.toInt) (p1.toInt) 0) ≠ -2000 := by omega
  have hx9 : x36.toInt = 4 * (30 * p0.toInt + p1.toInt) + 1 + p2.toInt := by omega
  clear z5 t8 t15 t30 t34 t36
  first
    | exact rm
    | exact rm.set (t := p0.toInt) (k := p1.toInt) (c := p2.toInt) (by omega) (by decide) (by omega) (aI_pu hG81 rfl rfl rfl (by omega)) (by omega)
theorem v_X11_least_116_28 {F : Nat → Nat → Nat} (G81 : XG) (G_47 : XG) (a : Nat) (x36 : Int32) (l6_47 : Int32) (p0 : Int32) (p2 : Int32) (p1 : Int32) (G : XG) (x8 : Int32) (x15 : Int32) (x30 : Int32) (x34 : Int32)
    (hG81 : G81 = cput G_47 (F a 1) x36.toNatClampNeg l6_47)
    (pm : ∀ v : Int, rset (mw (G_47.2.1 (F a 1)) 0) (90 * p0.toInt + 30 * p2.toInt + p1.toInt) v = rset (mw (G.2.1 (F a 1)) 0) (90 * p0.toInt + 30 * p2.toInt + p1.toInt) v)
    (fl : aI (G_47.2.1 (F a 1)) (0 + 4 * (30 * p0.toInt + p1.toInt)) = 1)
    (z5 : ¬ (0 ≤ p0.toInt ∧ p0.toInt < 3 ∧ 0 ≤ p1.toInt ∧ p1.toInt < 30) → (cel (mw (G.2.1 (F a 1)) 0) (p0.toInt) (p1.toInt) 0) = -2000)
    (t8 : (x8.toInt = 1 ∧ (cel (mw (G.2.1 (F a 1)) 0) (p0.toInt) (p1.toInt) 0) ≠ -2000) ∨ (x8.toInt = 0 ∧ (cel (mw (G.2.1 (F a 1)) 0) (p0.toInt) (p1.toInt) 0) = -2000))
    (c11 : ¬ (x8.toInt = 0))
    (t15 : (x15.toInt = 1 ∧ 0 ≤ p2.toInt ∧ p2.toInt ≤ 2) ∨ (x15.toInt = 0 ∧ (p2.toInt < 0 ∨ 2 < p2.toInt)))
    (c18 : x15.toInt ≠ 0)
    (t30 : 0 ≤ p0.toInt ∧ p0.toInt ≤ 2 ∧ 0 ≤ p1.toInt ∧ p1.toInt ≤ 29 → x30.toInt = 4 * (30 * p0.toInt + p1.toInt))
    (t34 : x34.toInt = x30.toInt + (1 : Int) ∨ x30.toInt + (1 : Int) < -2147483648 ∨ 2147483648 ≤ x30.toInt + (1 : Int))
    (t36 : x36.toInt = x34.toInt + p2.toInt ∨ x34.toInt + p2.toInt < -2147483648 ∨ 2147483648 ≤ x34.toInt + p2.toInt)
    (I47_0 : -99 ≤ l6_47.toInt ∧ l6_47.toInt ≤ 100)
    (c51 : ¬ ((99 : Int) < l6_47.toInt)) :
    ∀ v : Int, rset (mw (G81.2.1 (F a 1)) 0) (90 * p0.toInt + 30 * p2.toInt + p1.toInt) v = rset (mw (G.2.1 (F a 1)) 0) (90 * p0.toInt + 30 * p2.toInt + p1.toInt) v := by
  have hb9 : (0 ≤ p0.toInt ∧ p0.toInt < 3) ∧ (0 ≤ p1.toInt ∧ p1.toInt < 30) ∧ (0 ≤ p2.toInt ∧ p2.toInt ≤ 2) := by omega
  have hc9 : (cel (mw (G.2.1 (F a 1)) 0) (p0.toInt) (p1.toInt) 0) ≠ -2000 := by omega
  have hx9 : x36.toInt = 4 * (30 * p0.toInt + p1.toInt) + 1 + p2.toInt := by omega
  clear z5 t8 t15 t30 t34 t36
  intro v
  first
    | exact pm v
    | (rw [mw_set (b := 0) (t := p0.toInt) (k := p1.toInt) (c := p2.toInt) (by omega) (by decide) (by omega) (aI_pu hG81 rfl rfl rfl (by omega)) fl, rset_rset]; exact pm v)
theorem v_X11_least_116_29 {F : Nat → Nat → Nat} (G81 : XG) (G_47 : XG) (a : Nat) (x36 : Int32) (l6_47 : Int32) (p0 : Int32) (p2 : Int32) (p1 : Int32) (G : XG) (x8 : Int32) (x15 : Int32) (x30 : Int32) (x34 : Int32)
    (hG81 : G81 = cput G_47 (F a 1) x36.toNatClampNeg l6_47)
    (fl : aI (G_47.2.1 (F a 1)) (0 + 4 * (30 * p0.toInt + p1.toInt)) = 1)
    (z5 : ¬ (0 ≤ p0.toInt ∧ p0.toInt < 3 ∧ 0 ≤ p1.toInt ∧ p1.toInt < 30) → (cel (mw (G.2.1 (F a 1)) 0) (p0.toInt) (p1.toInt) 0) = -2000)
    (t8 : (x8.toInt = 1 ∧ (cel (mw (G.2.1 (F a 1)) 0) (p0.toInt) (p1.toInt) 0) ≠ -2000) ∨ (x8.toInt = 0 ∧ (cel (mw (G.2.1 (F a 1)) 0) (p0.toInt) (p1.toInt) 0) = -2000))
    (c11 : ¬ (x8.toInt = 0))
    (t15 : (x15.toInt = 1 ∧ 0 ≤ p2.toInt ∧ p2.toInt ≤ 2) ∨ (x15.toInt = 0 ∧ (p2.toInt < 0 ∨ 2 < p2.toInt)))
    (c18 : x15.toInt ≠ 0)
    (t30 : 0 ≤ p0.toInt ∧ p0.toInt ≤ 2 ∧ 0 ≤ p1.toInt ∧ p1.toInt ≤ 29 → x30.toInt = 4 * (30 * p0.toInt + p1.toInt))
    (t34 : x34.toInt = x30.toInt + (1 : Int) ∨ x30.toInt + (1 : Int) < -2147483648 ∨ 2147483648 ≤ x30.toInt + (1 : Int))
    (t36 : x36.toInt = x34.toInt + p2.toInt ∨ x34.toInt + p2.toInt < -2147483648 ∨ 2147483648 ≤ x34.toInt + p2.toInt)
    (I47_0 : -99 ≤ l6_47.toInt ∧ l6_47.toInt ≤ 100)
    (c51 : ¬ ((99 : Int) < l6_47.toInt)) :
    aI (G81.2.1 (F a 1)) (0 + 4 * (30 * p0.toInt + p1.toInt)) = 1 := by
  have hb9 : (0 ≤ p0.toInt ∧ p0.toInt < 3) ∧ (0 ≤ p1.toInt ∧ p1.toInt < 30) ∧ (0 ≤ p2.toInt ∧ p2.toInt ≤ 2) := by omega
  have hc9 : (cel (mw (G.2.1 (F a 1)) 0) (p0.toInt) (p1.toInt) 0) ≠ -2000 := by omega
  have hx9 : x36.toInt = 4 * (30 * p0.toInt + p1.toInt) + 1 + p2.toInt := by omega
  clear z5 t8 t15 t30 t34 t36
  first
    | exact fl
    | (rw [aI_pu hG81 rfl rfl rfl (by omega) _ (by omega), if_neg (by omega)]; exact fl)
theorem v_X11_least_116_30 {K : Nat → Nat} {F : Nat → Nat → Nat} (a : Nat) (G : XG) (G25 : XG) (G_47 : XG) (G81 : XG) (x36 : Int32) (l6_47 : Int32) (G92 : XG) (G97 : XG) (p0 : Int32) (p2 : Int32) (p1 : Int32) (l5_47 : Int32) (x97 : Int32) (x8 : Int32) (x15 : Int32) (x30 : Int32) (x34 : Int32) (N47 : Nat)
    (ha : K a = 13)
    (hG81 : G81 = cput G_47 (F a 1) x36.toNatClampNeg l6_47)
    (oq25 : mw (G25.2.1 (F a 4)) 0 = mw (G.2.1 (F a 1)) 0)
    (oq25a : RM (G25.2.1 (F a 4)) 0)
    (pm : ∀ v : Int, rset (mw (G_47.2.1 (F a 1)) 0) (90 * p0.toInt + 30 * p2.toInt + p1.toInt) v = rset (mw (G.2.1 (F a 1)) 0) (90 * p0.toInt + 30 * p2.toInt + p1.toInt) v)
    (fl : aI (G_47.2.1 (F a 1)) (0 + 4 * (30 * p0.toInt + p1.toInt)) = 1)
    (lp : (l5_47.toInt = -2147483648 ∧ ∀ v : Int, -99 ≤ v → v < l6_47.toInt → v ≠ (cel (mw (G.2.1 (F a 1)) 0) p0.toInt p1.toInt p2.toInt) → ffP (G.2.1 (F a 10)) (rset (mw (G.2.1 (F a 1)) 0) (90 * p0.toInt + 30 * p2.toInt + p1.toInt) v) (fuO (G.2.1 (F a 10)) (mw (G.2.1 (F a 1)) 0) (rset (mw (G.2.1 (F a 1)) 0) (90 * p0.toInt + 30 * p2.toInt + p1.toInt) v) 2) ≠ -1) ∨ (l5_47.toInt ≠ -2147483648 ∧ LsS (fun v => ffP (G.2.1 (F a 10)) (rset (mw (G.2.1 (F a 1)) 0) (90 * p0.toInt + 30 * p2.toInt + p1.toInt) v) (fuO (G.2.1 (F a 10)) (mw (G.2.1 (F a 1)) 0) (rset (mw (G.2.1 (F a 1)) 0) (90 * p0.toInt + 30 * p2.toInt + p1.toInt) v) 2) = -1) (cel (mw (G.2.1 (F a 1)) 0) p0.toInt p1.toInt p2.toInt) l5_47.toInt))
    (oq92a : G92.2.2.2 = G81.2.2.2)
    (oq97 : pL G97 F a = fuO (G.2.1 (F a 10)) (mw (G.2.1 (F a 1)) 0) (mw (G81.2.1 (F a 1)) 0) (2 : Int))
    (oq97a : x97.toInt = ffP (G.2.1 (F a 10)) (mw (G81.2.1 (F a 1)) 0) (pL G97 F a))
    (oq97b : 0 ≤ ((G97.1 a 19).toInt) ∧ ((G97.1 a 19).toInt) ≤ 2388 ∧ x97.toInt < ((G97.1 a 19).toInt))
    (z5 : ¬ (0 ≤ p0.toInt ∧ p0.toInt < 3 ∧ 0 ≤ p1.toInt ∧ p1.toInt < 30) → (cel (mw (G.2.1 (F a 1)) 0) (p0.toInt) (p1.toInt) 0) = -2000)
    (t8 : (x8.toInt = 1 ∧ (cel (mw (G.2.1 (F a 1)) 0) (p0.toInt) (p1.toInt) 0) ≠ -2000) ∨ (x8.toInt = 0 ∧ (cel (mw (G.2.1 (F a 1)) 0) (p0.toInt) (p1.toInt) 0) = -2000))
    (c11 : ¬ (x8.toInt = 0))
    (t15 : (x15.toInt = 1 ∧ 0 ≤ p2.toInt ∧ p2.toInt ≤ 2) ∨ (x15.toInt = 0 ∧ (p2.toInt < 0 ∨ 2 < p2.toInt)))
    (c18 : x15.toInt ≠ 0)
    (t30 : 0 ≤ p0.toInt ∧ p0.toInt ≤ 2 ∧ 0 ≤ p1.toInt ∧ p1.toInt ≤ 29 → x30.toInt = 4 * (30 * p0.toInt + p1.toInt))
    (t34 : x34.toInt = x30.toInt + (1 : Int) ∨ x30.toInt + (1 : Int) < -2147483648 ∨ 2147483648 ≤ x30.toInt + (1 : Int))
    (t36 : x36.toInt = x34.toInt + p2.toInt ∨ x34.toInt + p2.toInt < -2147483648 ∨ 2147483648 ≤ x34.toInt + p2.toInt)
    (I47_0 : -99 ≤ l6_47.toInt ∧ l6_47.toInt ≤ 100)
    (hm47 : 200 - l6_47.toInt < (((N47) + 1 : Nat) : Int))
    (c51 : ¬ ((99 : Int) < l6_47.toInt))
    (c58 : ¬ (l5_47.toInt ≠ (-2147483648 : Int)))
    (c70 : ¬ (l6_47.toInt = (aI (G25.2.1 (F a 4)) (x36.toInt))))
    (t97 : -1 ≤ x97.toInt)
    (c101 : ¬ (x97.toInt ≠ (-1 : Int))) :
    (l6_47.toInt = -2147483648 ∧ ∀ v : Int, -99 ≤ v → v < (l6_47.toInt + 1) → v ≠ (cel (mw (G.2.1 (F a 1)) 0) p0.toInt p1.toInt p2.toInt) → ffP (G.2.1 (F a 10)) (rset (mw (G.2.1 (F a 1)) 0) (90 * p0.toInt + 30 * p2.toInt + p1.toInt) v) (fuO (G.2.1 (F a 10)) (mw (G.2.1 (F a 1)) 0) (rset (mw (G.2.1 (F a 1)) 0) (90 * p0.toInt + 30 * p2.toInt + p1.toInt) v) 2) ≠ -1) ∨ (l6_47.toInt ≠ -2147483648 ∧ LsS (fun v => ffP (G.2.1 (F a 10)) (rset (mw (G.2.1 (F a 1)) 0) (90 * p0.toInt + 30 * p2.toInt + p1.toInt) v) (fuO (G.2.1 (F a 10)) (mw (G.2.1 (F a 1)) 0) (rset (mw (G.2.1 (F a 1)) 0) (90 * p0.toInt + 30 * p2.toInt + p1.toInt) v) 2) = -1) (cel (mw (G.2.1 (F a 1)) 0) p0.toInt p1.toInt p2.toInt) l6_47.toInt) := by
  have hb9 : (0 ≤ p0.toInt ∧ p0.toInt < 3) ∧ (0 ≤ p1.toInt ∧ p1.toInt < 30) ∧ (0 ≤ p2.toInt ∧ p2.toInt ≤ 2) := by omega
  have hc9 : (cel (mw (G.2.1 (F a 1)) 0) (p0.toInt) (p1.toInt) 0) ≠ -2000 := by omega
  have hx9 : x36.toInt = 4 * (30 * p0.toInt + p1.toInt) + 1 + p2.toInt := by omega
  clear z5 t8 t15 t30 t34 t36
  have e3 : aI (G25.2.1 (F a 4)) x36.toInt = cel (mw (G.2.1 (F a 1)) 0) p0.toInt p1.toInt p2.toInt := by
    have h := oq25a.cel0 (t := p0.toInt) (k := p1.toInt) (c := p2.toInt) (by omega) (by rw [oq25]; omega)
    rw [oq25] at h
    rw [show x36.toInt = 4 * (30 * p0.toInt + p1.toInt) + 1 + p2.toInt from by omega]
    exact h
  rcases lp with ⟨e, h⟩ | ⟨e, -⟩
  · first
      | exact Or.inl ⟨by omega, fun v a1 a2 a3 => h v a1 (by omega) a3⟩
      | (have ew := mw_set (b := 0) (t := p0.toInt) (k := p1.toInt) (c := p2.toInt) (by omega) (by decide) (by omega) (aI_pu hG81 rfl rfl rfl (by omega)) fl
         rw [pm] at ew
         rw [ew] at oq97 oq97a
         rw [oq97] at oq97a
         first
           | exact Or.inl ⟨rfl, fun v a1 a2 a3 => by
               by_cases g : v = l6_47.toInt
               · rw [g, ← oq97a]; exact c101
               · exact h v a1 (by omega) a3⟩
           | exact Or.inr ⟨by omega, LsS_yes ⟨by omega, by omega, by omega⟩ (oq97a.symm.trans (by omega)) h⟩)
  · exact absurd (show l5_47.toInt = -2147483648 by omega) e
theorem v_X11_least_45_31 {F : Nat → Nat → Nat} (G : XG) (a : Nat)
    (hM : RM (G.2.1 (F a 1)) (0)) :
    RM (G.2.1 (F a 1)) 0 := by
  exact hM
theorem v_X11_least_45_32 {F : Nat → Nat → Nat} (G : XG) (a : Nat) (p0 : Int32) (p2 : Int32) (p1 : Int32) :
    ∀ v : Int, rset (mw (G.2.1 (F a 1)) 0) (90 * p0.toInt + 30 * p2.toInt + p1.toInt) v = rset (mw (G.2.1 (F a 1)) 0) (90 * p0.toInt + 30 * p2.toInt + p1.toInt) v := by
  intro v; rfl
