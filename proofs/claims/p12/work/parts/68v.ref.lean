theorem v_X11_sign_58_1 {K : Nat → Nat} {F : Nat → Nat → Nat} (a : Nat) (G : XG) (G_21 : XG) (p0 : Int32) (x10 : Int32) (l2_21 : Int32) (N21 : Nat)
    (ha : K a = 13)
    (pf : ∀ z : Int, 0 ≤ z → aI (G_21.2.1 (F a 35)) z % 256 = if (G.1 a 36).toInt ≤ z ∧ z < ((G_21.1 a 36).toInt) then bqI p0 (24 - 8 * (z - (G.1 a 36).toInt)) else aI (G.2.1 (F a 35)) z % 256)
    (nt0 : 0 ≤ ((G.1 a 36).toInt) ∧ ((G.1 a 36).toInt) ≤ 80)
    (t10 : x10.toInt = ((G.1 a 36).toInt) + (4 : Int) ∨ ((G.1 a 36).toInt) + (4 : Int) < -2147483648 ∨ 2147483648 ≤ ((G.1 a 36).toInt) + (4 : Int))
    (c13 : x10.toInt ≤ (80 : Int))
    (I21_0 : -8 ≤ l2_21.toInt ∧ l2_21.toInt ≤ 24)
    (I21_1 : 8 * (((G_21.1 a 36).toInt) - ((G.1 a 36).toInt)) = 24 - l2_21.toInt)
    (hm21 : 100 + l2_21.toInt < (((N21) + 1 : Nat) : Int))
    (c22 : l2_21.toInt < 0) :
    (((G_21.1 a 36).toInt) = -1 ∧ G_21.2.1 (F a 35) = (G.2.1 (F a 35))) ∨ (((G_21.1 a 36).toInt) ≠ -1 ∧ ∀ z : Int, 0 ≤ z → aI (G_21.2.1 (F a 35)) z % 256 = if ((G.1 a 36).toInt) ≤ z ∧ z < ((G.1 a 36).toInt) + 4 then bqI p0 (24 - 8 * (z - ((G.1 a 36).toInt))) else aI (G.2.1 (F a 35)) z % 256) := by
  refine Or.inr ⟨by omega, fun z hz => ?_⟩
  rw [pf z hz, show (G_21.1 a 36).toInt = (G.1 a 36).toInt + 4 from by omega]
theorem v_X11_sign_51_2 {K : Nat → Nat} {F : Nat → Nat → Nat} (a : Nat) (G : XG) (G_21 : XG) (G37 : XG) (x36 : Int32) (p0 : Int32) (x35 : Int32) (l2_21 : Int32) (x10 : Int32) (N21 : Nat)
    (ha : K a = 13)
    (hG37 : G37 = cput G_21 (F a 35) (G_21.1 a 36).toNatClampNeg x36)
    (pf : ∀ z : Int, 0 ≤ z → aI (G_21.2.1 (F a 35)) z % 256 = if (G.1 a 36).toInt ≤ z ∧ z < ((G_21.1 a 36).toInt) then bqI p0 (24 - 8 * (z - (G.1 a 36).toInt)) else aI (G.2.1 (F a 35)) z % 256)
    (eb35 : x35 = (Int32.toUInt32 p0 >>> (Int32.toUInt32 l2_21 &&& Int32.toUInt32 31)).toInt32)
    (eb36 : x36 = (Int32.toInt8 x35).toInt32)
    (nt0 : 0 ≤ ((G.1 a 36).toInt) ∧ ((G.1 a 36).toInt) ≤ 80)
    (t10 : x10.toInt = ((G.1 a 36).toInt) + (4 : Int) ∨ ((G.1 a 36).toInt) + (4 : Int) < -2147483648 ∨ 2147483648 ≤ ((G.1 a 36).toInt) + (4 : Int))
    (c13 : x10.toInt ≤ (80 : Int))
    (I21_0 : -8 ≤ l2_21.toInt ∧ l2_21.toInt ≤ 24)
    (I21_1 : 8 * (((G_21.1 a 36).toInt) - ((G.1 a 36).toInt)) = 24 - l2_21.toInt)
    (hm21 : 100 + l2_21.toInt < (((N21) + 1 : Nat) : Int))
    (c22 : ¬ (l2_21.toInt < 0)) :
    ∀ z : Int, 0 ≤ z → aI (G37.2.1 (F a 35)) z % 256 = if (G.1 a 36).toInt ≤ z ∧ z < (((G_21.1 a 36).toInt) + (1 : Int)) then bqI p0 (24 - 8 * (z - (G.1 a 36).toInt)) else aI (G.2.1 (F a 35)) z % 256 := by
  intro z hz
  have u := aI_pu hG37 rfl (rfl : (G_21.1 a 36).toInt = (G_21.1 a 36).toInt) (rfl : x36.toInt = x36.toInt) (by omega) z hz
  have b := bq_b eb35 eb36 (rfl : l2_21.toInt = l2_21.toInt)
  rw [u]
  by_cases e : z = (G_21.1 a 36).toInt
  · rw [if_pos e, if_pos (by omega), b]
    congr 1
    omega
  · rw [if_neg e, pf z hz]
    by_cases q : (G.1 a 36).toInt ≤ z ∧ z < (G_21.1 a 36).toInt
    · rw [if_pos q, if_pos (by omega)]
    · rw [if_neg q, if_neg (by omega)]
theorem v_X11_sign_20_3 {K : Nat → Nat} {F : Nat → Nat → Nat} (a : Nat) (G : XG) (x10 : Int32) (p0 : Int32)
    (ha : K a = 13)
    (nt0 : 0 ≤ ((G.1 a 36).toInt) ∧ ((G.1 a 36).toInt) ≤ 80)
    (t10 : x10.toInt = ((G.1 a 36).toInt) + (4 : Int) ∨ ((G.1 a 36).toInt) + (4 : Int) < -2147483648 ∨ 2147483648 ≤ ((G.1 a 36).toInt) + (4 : Int))
    (c13 : x10.toInt ≤ (80 : Int)) :
    ∀ z : Int, 0 ≤ z → aI (G.2.1 (F a 35)) z % 256 = if (G.1 a 36).toInt ≤ z ∧ z < ((G.1 a 36).toInt) then bqI p0 (24 - 8 * (z - (G.1 a 36).toInt)) else aI (G.2.1 (F a 35)) z % 256 := by
  intro z hz; rw [if_neg (by omega)]
theorem v_X11_sign_17_4 {F : Nat → Nat → Nat} (a : Nat) (G2 : XG) (G : XG) (p0 : Int32)
    (c_G2_F_a_35 : G2.2.1 (F a 35) = G.2.1 (F a 35)) :
    ((-1 : Int) = -1 ∧ G2.2.1 (F a 35) = (G.2.1 (F a 35))) ∨ ((-1 : Int) ≠ -1 ∧ ∀ z : Int, 0 ≤ z → aI (G2.2.1 (F a 35)) z % 256 = if ((G.1 a 36).toInt) ≤ z ∧ z < ((G.1 a 36).toInt) + 4 then bqI p0 (24 - 8 * (z - ((G.1 a 36).toInt))) else aI (G.2.1 (F a 35)) z % 256) := by
  exact Or.inl ⟨rfl, c_G2_F_a_35⟩
