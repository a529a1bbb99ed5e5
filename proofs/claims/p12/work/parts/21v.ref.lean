theorem v_X11_findUnlike_1_1 {F : Nat → Nat → Nat} (a : Nat) (G : XG)
    (hR : RV (G.2.1 (F a 10))) :
    RV (G.2.1 (F a 10)) := by exact hR
theorem v_X11_findUnlike_131_2 {K : Nat → Nat} {F : Nat → Nat → Nat} (a : Nat) (p1 : Nat) (p2 : Nat) (G : XG) (G1 : XG) (G_12 : XG) (r1 : Int → Int) (r2 : Int → Int) (p0 : Int32) (l4_12 : Int32) (N12 : Nat)
    (ha : K a = 13)
    (hp1 : K p1 = 38)
    (hp2 : K p2 = 38)
    (oq1 : ORm (G.2.1 (F a 10)) (G1.2.1 (F a 15)) ((G1.1 a 16).toInt) 12)
    (oq1a : G1.2.2.2 = G.2.2.2)
    (pu : pL G_12 F a = fuL (G.2.1 (F a 10)) r1 r2 p0.toInt (ordN (prM (G.2.1 (F a 10))) (rkM (G.2.1 (F a 10))) 12).2 (l4_12.toInt).toNat)
    (lo : G_12.2.2.2 = G.2.2.2)
    (z10 : 0 ≤ ((G1.1 a 16).toInt) ∧ ((G1.1 a 16).toInt) ≤ 12)
    (I12_0 : 0 ≤ l4_12.toInt ∧ l4_12.toInt ≤ ((G1.1 a 16).toInt))
    (I12_1 : 0 ≤ ((G_12.1 a 19).toInt) ∧ ((G_12.1 a 19).toInt) ≤ 199 * l4_12.toInt)
    (I12_2 : (0 : Int) ≤ l4_12.toInt)
    (hm12 : 2147483648 - l4_12.toInt < (((N12) + 1 : Nat) : Int))
    (c18 : ((G1.1 a 16).toInt) ≤ l4_12.toInt) :
    pL G_12 F a = fuL (G.2.1 (F a 10)) r1 r2 p0.toInt (ordN (prM (G.2.1 (F a 10))) (rkM (G.2.1 (F a 10))) 12).2 (ordN (prM (G.2.1 (F a 10))) (rkM (G.2.1 (F a 10))) 12).1 := by
  have e := oq1.1
  rw [pu, show l4_12.toInt.toNat = (ordN (prM (G.2.1 (F a 10))) (rkM (G.2.1 (F a 10))) 12).1 from by omega]
theorem v_X11_findUnlike_131_3 {F : Nat → Nat → Nat} (a : Nat) (G : XG) (G1 : XG) (G_12 : XG)
    (oq1 : ORm (G.2.1 (F a 10)) (G1.2.1 (F a 15)) ((G1.1 a 16).toInt) 12)
    (c_G_12_F_a_15 : G_12.2.1 (F a 15) = G1.2.1 (F a 15))
    (d_G_12_a_16 : G_12.1 a 16 = G1.1 a 16) :
    ORm (G.2.1 (F a 10)) (G_12.2.1 (F a 15)) ((G_12.1 a 16).toInt) 12 := by
  rw [c_G_12_F_a_15, d_G_12_a_16]; exact oq1
theorem v_X11_findUnlike_131_4 (G : XG) (G_12 : XG)
    (lo : G_12.2.2.2 = G.2.2.2) :
    G_12.2.2.2 = G.2.2.2 := by
  exact lo
theorem v_X11_findUnlike_128_5 {K : Nat → Nat} {F : Nat → Nat → Nat} (a : Nat) (p1 : Nat) (p2 : Nat) (G : XG) (G1 : XG) (G_12 : XG) (G_38 : XG) (r1 : Int → Int) (r2 : Int → Int) (p0 : Int32) (l4_12 : Int32) (l6_38 : Int32) (N12 : Nat) (N38 : Nat)
    (ha : K a = 13)
    (hp1 : K p1 = 38)
    (hp2 : K p2 = 38)
    (oq1 : ORm (G.2.1 (F a 10)) (G1.2.1 (F a 15)) ((G1.1 a 16).toInt) 12)
    (oq1a : G1.2.2.2 = G.2.2.2)
    (pu : pL G_12 F a = fuL (G.2.1 (F a 10)) r1 r2 p0.toInt (ordN (prM (G.2.1 (F a 10))) (rkM (G.2.1 (F a 10))) 12).2 (l4_12.toInt).toNat)
    (pi : pL G_38 F a = pL G_12 F a ++ fup (G.2.1 (F a 10)) r1 r2 (aI (G1.2.1 (F a 15)) (l4_12.toInt)) l6_38.toInt)
    (lo : G_38.2.2.2 = G.2.2.2)
    (z10 : 0 ≤ ((G1.1 a 16).toInt) ∧ ((G1.1 a 16).toInt) ≤ 12)
    (I12_0 : 0 ≤ l4_12.toInt ∧ l4_12.toInt ≤ ((G1.1 a 16).toInt))
    (I12_1 : 0 ≤ ((G_12.1 a 19).toInt) ∧ ((G_12.1 a 19).toInt) ≤ 199 * l4_12.toInt)
    (I12_2 : (0 : Int) ≤ l4_12.toInt)
    (hm12 : 2147483648 - l4_12.toInt < (((N12) + 1 : Nat) : Int))
    (c18 : ¬ (((G1.1 a 16).toInt) ≤ l4_12.toInt))
    (z28 : (0 ≤ (aI (G1.2.1 (F a 15)) (l4_12.toInt)) ∧ (aI (G1.2.1 (F a 15)) (l4_12.toInt)) ≤ 11) ∧ (aI (G.2.1 (F a 10)) (10 * (aI (G1.2.1 (F a 15)) (l4_12.toInt)) + 0)) ≠ -1)
    (z30 : (-1 ≤ (aI (G.2.1 (F a 10)) (10 * (aI (G1.2.1 (F a 15)) (l4_12.toInt)) + 0)) ∧ (aI (G.2.1 (F a 10)) (10 * (aI (G1.2.1 (F a 15)) (l4_12.toInt)) + 0)) ≤ 5) ∧ (0 ≤ (aI (G.2.1 (F a 10)) (10 * (aI (G1.2.1 (F a 15)) (l4_12.toInt)) + 1)) ∧ (aI (G.2.1 (F a 10)) (10 * (aI (G1.2.1 (F a 15)) (l4_12.toInt)) + 1)) ≤ 2) ∧ (0 ≤ (aI (G.2.1 (F a 10)) (10 * (aI (G1.2.1 (F a 15)) (l4_12.toInt)) + 2)) ∧ (aI (G.2.1 (F a 10)) (10 * (aI (G1.2.1 (F a 15)) (l4_12.toInt)) + 2)) ≤ 2) ∧ (-1 ≤ (aI (G.2.1 (F a 10)) (10 * (aI (G1.2.1 (F a 15)) (l4_12.toInt)) + 3)) ∧ (aI (G.2.1 (F a 10)) (10 * (aI (G1.2.1 (F a 15)) (l4_12.toInt)) + 3)) ≤ 2) ∧ ((aI (G.2.1 (F a 10)) (10 * (aI (G1.2.1 (F a 15)) (l4_12.toInt)) + 0)) = 1 ∨ (aI (G.2.1 (F a 10)) (10 * (aI (G1.2.1 (F a 15)) (l4_12.toInt)) + 0)) = 3 ∨ (aI (G.2.1 (F a 10)) (10 * (aI (G1.2.1 (F a 15)) (l4_12.toInt)) + 0)) = 4 → 0 ≤ (aI (G.2.1 (F a 10)) (10 * (aI (G1.2.1 (F a 15)) (l4_12.toInt)) + 3))))
    (z30a : (((aI (G.2.1 (F a 10)) (10 * (aI (G1.2.1 (F a 15)) (l4_12.toInt)) + 0)) = 2 ∨ (aI (G.2.1 (F a 10)) (10 * (aI (G1.2.1 (F a 15)) (l4_12.toInt)) + 0)) = 4 ∨ (aI (G.2.1 (F a 10)) (10 * (aI (G1.2.1 (F a 15)) (l4_12.toInt)) + 0)) = 5) ∧ (sF (aI (G.2.1 (F a 10)) (10 * (aI (G1.2.1 (F a 15)) (l4_12.toInt)) + 0))) = 0 ∧ (sL (aI (G.2.1 (F a 10)) (10 * (aI (G1.2.1 (F a 15)) (l4_12.toInt)) + 0))) = 29) ∨ (¬ ((aI (G.2.1 (F a 10)) (10 * (aI (G1.2.1 (F a 15)) (l4_12.toInt)) + 0)) = 2 ∨ (aI (G.2.1 (F a 10)) (10 * (aI (G1.2.1 (F a 15)) (l4_12.toInt)) + 0)) = 4 ∨ (aI (G.2.1 (F a 10)) (10 * (aI (G1.2.1 (F a 15)) (l4_12.toInt)) + 0)) = 5) ∧ (sF (aI (G.2.1 (F a 10)) (10 * (aI (G1.2.1 (F a 15)) (l4_12.toInt)) + 0))) = -99 ∧ (sL (aI (G.2.1 (F a 10)) (10 * (aI (G1.2.1 (F a 15)) (l4_12.toInt)) + 0))) = 99))
    (I38_0 : (sF (aI (G.2.1 (F a 10)) (10 * (aI (G1.2.1 (F a 15)) (l4_12.toInt)) + 0))) ≤ l6_38.toInt ∧ l6_38.toInt ≤ (sL (aI (G.2.1 (F a 10)) (10 * (aI (G1.2.1 (F a 15)) (l4_12.toInt)) + 0))) + 1)
    (I38_1 : 0 ≤ ((G_38.1 a 19).toInt) ∧ ((G_38.1 a 19).toInt) ≤ 199 * l4_12.toInt + (l6_38.toInt - (sF (aI (G.2.1 (F a 10)) (10 * (aI (G1.2.1 (F a 15)) (l4_12.toInt)) + 0)))))
    (I38_2 : l6_38.toInt = (sF (aI (G.2.1 (F a 10)) (10 * (aI (G1.2.1 (F a 15)) (l4_12.toInt)) + 0))) ∨ p0.toInt = 2 ∨ (aI (G.2.1 (F a 10)) (10 * (aI (G1.2.1 (F a 15)) (l4_12.toInt)) + 6)) = p0.toInt)
    (hm38 : 2147483648 - l6_38.toInt < (((N38) + 1 : Nat) : Int))
    (c46 : (sL (aI (G.2.1 (F a 10)) (10 * (aI (G1.2.1 (F a 15)) (l4_12.toInt)) + 0))) < l6_38.toInt) :
    pL G_38 F a = fuL (G.2.1 (F a 10)) r1 r2 p0.toInt (ordN (prM (G.2.1 (F a 10))) (rkM (G.2.1 (F a 10))) 12).2 (l4_12.toInt + 1).toNat := by
  have e0 := sFL (aI (G.2.1 (F a 10)) (10 * aI (G1.2.1 (F a 15)) l4_12.toInt + 0))
  rw [show (l4_12.toInt + 1).toNat = l4_12.toInt.toNat + 1 from by omega, fuL_s, ← pu, or_nth oq1 (by omega), pi]
  congr 1
  first
    | exact fup_l (by omega) (by omega)
    | rw [fup_0 (by omega), fus_no (by omega)]
theorem v_X11_findUnlike_128_6 (G : XG) (G_38 : XG)
    (lo : G_38.2.2.2 = G.2.2.2) :
    G_38.2.2.2 = G.2.2.2 := by
  exact lo
theorem v_X11_findUnlike_122_7 {K : Nat → Nat} {F : Nat → Nat → Nat} (a : Nat) (p1 : Nat) (p2 : Nat) (G : XG) (G1 : XG) (G_12 : XG) (G_38 : XG) (r1 : Int → Int) (r2 : Int → Int) (p0 : Int32) (l4_12 : Int32) (x27 : Int32) (l6_38 : Int32) (N12 : Nat) (N38 : Nat)
    (ha : K a = 13)
    (hp1 : K p1 = 38)
    (hp2 : K p2 = 38)
    (h1 : LSt (G.2.1 (F a 10)) (G.2.1 p1) r1 12)
    (h2 : LSt (G.2.1 (F a 10)) (G.2.1 p2) r2 12)
    (oq1a : G1.2.2.2 = G.2.2.2)
    (hv27 : x27.toInt = (aI (G1.2.1 (F a 15)) (l4_12.toInt)))
    (pi : pL G_38 F a = pL G_12 F a ++ fup (G.2.1 (F a 10)) r1 r2 (aI (G1.2.1 (F a 15)) (l4_12.toInt)) l6_38.toInt)
    (lo : G_38.2.2.2 = G.2.2.2)
    (z10 : 0 ≤ ((G1.1 a 16).toInt) ∧ ((G1.1 a 16).toInt) ≤ 12)
    (I12_0 : 0 ≤ l4_12.toInt ∧ l4_12.toInt ≤ ((G1.1 a 16).toInt))
    (I12_1 : 0 ≤ ((G_12.1 a 19).toInt) ∧ ((G_12.1 a 19).toInt) ≤ 199 * l4_12.toInt)
    (I12_2 : (0 : Int) ≤ l4_12.toInt)
    (hm12 : 2147483648 - l4_12.toInt < (((N12) + 1 : Nat) : Int))
    (c18 : ¬ (((G1.1 a 16).toInt) ≤ l4_12.toInt))
    (z28 : (0 ≤ (aI (G1.2.1 (F a 15)) (l4_12.toInt)) ∧ (aI (G1.2.1 (F a 15)) (l4_12.toInt)) ≤ 11) ∧ (aI (G.2.1 (F a 10)) (10 * (aI (G1.2.1 (F a 15)) (l4_12.toInt)) + 0)) ≠ -1)
    (z30 : (-1 ≤ (aI (G.2.1 (F a 10)) (10 * (aI (G1.2.1 (F a 15)) (l4_12.toInt)) + 0)) ∧ (aI (G.2.1 (F a 10)) (10 * (aI (G1.2.1 (F a 15)) (l4_12.toInt)) + 0)) ≤ 5) ∧ (0 ≤ (aI (G.2.1 (F a 10)) (10 * (aI (G1.2.1 (F a 15)) (l4_12.toInt)) + 1)) ∧ (aI (G.2.1 (F a 10)) (10 * (aI (G1.2.1 (F a 15)) (l4_12.toInt)) + 1)) ≤ 2) ∧ (0 ≤ (aI (G.2.1 (F a 10)) (10 * (aI (G1.2.1 (F a 15)) (l4_12.toInt)) + 2)) ∧ (aI (G.2.1 (F a 10)) (10 * (aI (G1.2.1 (F a 15)) (l4_12.toInt)) + 2)) ≤ 2) ∧ (-1 ≤ (aI (G.2.1 (F a 10)) (10 * (aI (G1.2.1 (F a 15)) (l4_12.toInt)) + 3)) ∧ (aI (G.2.1 (F a 10)) (10 * (aI (G1.2.1 (F a 15)) (l4_12.toInt)) + 3)) ≤ 2) ∧ ((aI (G.2.1 (F a 10)) (10 * (aI (G1.2.1 (F a 15)) (l4_12.toInt)) + 0)) = 1 ∨ (aI (G.2.1 (F a 10)) (10 * (aI (G1.2.1 (F a 15)) (l4_12.toInt)) + 0)) = 3 ∨ (aI (G.2.1 (F a 10)) (10 * (aI (G1.2.1 (F a 15)) (l4_12.toInt)) + 0)) = 4 → 0 ≤ (aI (G.2.1 (F a 10)) (10 * (aI (G1.2.1 (F a 15)) (l4_12.toInt)) + 3))))
    (z30a : (((aI (G.2.1 (F a 10)) (10 * (aI (G1.2.1 (F a 15)) (l4_12.toInt)) + 0)) = 2 ∨ (aI (G.2.1 (F a 10)) (10 * (aI (G1.2.1 (F a 15)) (l4_12.toInt)) + 0)) = 4 ∨ (aI (G.2.1 (F a 10)) (10 * (aI (G1.2.1 (F a 15)) (l4_12.toInt)) + 0)) = 5) ∧ (sF (aI (G.2.1 (F a 10)) (10 * (aI (G1.2.1 (F a 15)) (l4_12.toInt)) + 0))) = 0 ∧ (sL (aI (G.2.1 (F a 10)) (10 * (aI (G1.2.1 (F a 15)) (l4_12.toInt)) + 0))) = 29) ∨ (¬ ((aI (G.2.1 (F a 10)) (10 * (aI (G1.2.1 (F a 15)) (l4_12.toInt)) + 0)) = 2 ∨ (aI (G.2.1 (F a 10)) (10 * (aI (G1.2.1 (F a 15)) (l4_12.toInt)) + 0)) = 4 ∨ (aI (G.2.1 (F a 10)) (10 * (aI (G1.2.1 (F a 15)) (l4_12.toInt)) + 0)) = 5) ∧ (sF (aI (G.2.1 (F a 10)) (10 * (aI (G1.2.1 (F a 15)) (l4_12.toInt)) + 0))) = -99 ∧ (sL (aI (G.2.1 (F a 10)) (10 * (aI (G1.2.1 (F a 15)) (l4_12.toInt)) + 0))) = 99))
    (I38_0 : (sF (aI (G.2.1 (F a 10)) (10 * (aI (G1.2.1 (F a 15)) (l4_12.toInt)) + 0))) ≤ l6_38.toInt ∧ l6_38.toInt ≤ (sL (aI (G.2.1 (F a 10)) (10 * (aI (G1.2.1 (F a 15)) (l4_12.toInt)) + 0))) + 1)
    (I38_1 : 0 ≤ ((G_38.1 a 19).toInt) ∧ ((G_38.1 a 19).toInt) ≤ 199 * l4_12.toInt + (l6_38.toInt - (sF (aI (G.2.1 (F a 10)) (10 * (aI (G1.2.1 (F a 15)) (l4_12.toInt)) + 0)))))
    (I38_2 : l6_38.toInt = (sF (aI (G.2.1 (F a 10)) (10 * (aI (G1.2.1 (F a 15)) (l4_12.toInt)) + 0))) ∨ p0.toInt = 2 ∨ (aI (G.2.1 (F a 10)) (10 * (aI (G1.2.1 (F a 15)) (l4_12.toInt)) + 6)) = p0.toInt)
    (hm38 : 2147483648 - l6_38.toInt < (((N38) + 1 : Nat) : Int))
    (c46 : ¬ ((sL (aI (G.2.1 (F a 10)) (10 * (aI (G1.2.1 (F a 15)) (l4_12.toInt)) + 0))) < l6_38.toInt))
    (c51 : p0.toInt = (2 : Int))
    (c84 : (aI (G.2.1 p1) (199 * (aI (G1.2.1 (F a 15)) (l4_12.toInt)) + l6_38.toInt + 99)) = (aI (G.2.1 p2) (199 * (aI (G1.2.1 (F a 15)) (l4_12.toInt)) + l6_38.toInt + 99))) :
    pL G_38 F a = pL G_12 F a ++ fup (G.2.1 (F a 10)) r1 r2 (aI (G1.2.1 (F a 15)) (l4_12.toInt)) (l6_38.toInt + 1) := by
  have e0 := sFL (aI (G.2.1 (F a 10)) (10 * aI (G1.2.1 (F a 15)) l4_12.toInt + 0))
  have e1 := h1 (aI (G1.2.1 (F a 15)) l4_12.toInt) l6_38.toInt (by omega) (by omega) (by omega) (sbj_FL.mpr (by omega))
  have e2 := h2 (aI (G1.2.1 (F a 15)) l4_12.toInt) l6_38.toInt (by omega) (by omega) (by omega) (sbj_FL.mpr (by omega))
  rw [fup_s (by omega), ← List.append_assoc, ← pi]
  by_cases hq : stt r1 (aI (G.2.1 (F a 10)) (10 * aI (G1.2.1 (F a 15)) l4_12.toInt + 0)) (aI (G.2.1 (F a 10)) (10 * aI (G1.2.1 (F a 15)) l4_12.toInt + 1)) (aI (G.2.1 (F a 10)) (10 * aI (G1.2.1 (F a 15)) l4_12.toInt + 2)) (aI (G.2.1 (F a 10)) (10 * aI (G1.2.1 (F a 15)) l4_12.toInt + 3)) l6_38.toInt = stt r2 (aI (G.2.1 (F a 10)) (10 * aI (G1.2.1 (F a 15)) l4_12.toInt + 0)) (aI (G.2.1 (F a 10)) (10 * aI (G1.2.1 (F a 15)) l4_12.toInt + 1)) (aI (G.2.1 (F a 10)) (10 * aI (G1.2.1 (F a 15)) l4_12.toInt + 2)) (aI (G.2.1 (F a 10)) (10 * aI (G1.2.1 (F a 15)) l4_12.toInt + 3)) l6_38.toInt
  · first
      | (exfalso; omega)
      | (have hn : fu1 (G.2.1 (F a 10)) r1 r2 (aI (G1.2.1 (F a 15)) l4_12.toInt) l6_38.toInt = none := if_neg (fun z => z hq)
         rw [filterMap_1n2 hn, List.append_nil])
  · first
      | (exfalso; omega)
      | (have hs : fu1 (G.2.1 (F a 10)) r1 r2 (aI (G1.2.1 (F a 15)) l4_12.toInt) l6_38.toInt = some _ := if_pos hq
         rw [filterMap_1s hs, ← hv27]
         have e9 : (G_38.1 a 19).toNatClampNeg = (G_38.1 a 19).toInt.toNat := rfl
         refine pL_push (n := (G_38.1 a 19).toInt.toNat) (by omega) (by rw [d_G116_a_19, e115]; omega) ?_ ?_
         · intro j; rw [c_G116_F_a_17, cput_j hG97, e9]
         · intro j; rw [c_G116_F_a_18, cput_j hG108, c_G97_F_a_18, e9])
theorem v_X11_findUnlike_122_8 (G : XG) (G_38 : XG)
    (lo : G_38.2.2.2 = G.2.2.2) :
    G_38.2.2.2 = G.2.2.2 := by
  first
    | exact lo
    | (rw [hG116, hG108, hG97]; exact lo)
theorem v_X11_findUnlike_122_9 {K : Nat → Nat} {F : Nat → Nat → Nat} (a : Nat) (p1 : Nat) (p2 : Nat) (G : XG) (G1 : XG) (G_12 : XG) (G_38 : XG) (G97 : XG) (x27 : Int32) (G108 : XG) (l6_38 : Int32) (G116 : XG) (x115 : Int32) (r1 : Int → Int) (r2 : Int → Int) (p0 : Int32) (l4_12 : Int32) (N12 : Nat) (N38 : Nat)
    (ha : K a = 13)
    (hp1 : K p1 = 38)
    (hp2 : K p2 = 38)
    (hG97 : G97 = cput G_38 (F a 17) (G_38.1 a 19).toNatClampNeg x27)
    (hG108 : G108 = cput G97 (F a 18) (G_38.1 a 19).toNatClampNeg l6_38)
    (h1 : LSt (G.2.1 (F a 10)) (G.2.1 p1) r1 12)
    (h2 : LSt (G.2.1 (F a 10)) (G.2.1 p2) r2 12)
    (oq1a : G1.2.2.2 = G.2.2.2)
    (hv27 : x27.toInt = (aI (G1.2.1 (F a 15)) (l4_12.toInt)))
    (pi : pL G_38 F a = pL G_12 F a ++ fup (G.2.1 (F a 10)) r1 r2 (aI (G1.2.1 (F a 15)) (l4_12.toInt)) l6_38.toInt)
    (lo : G_38.2.2.2 = G.2.2.2)
    (e115 : x115.toInt = (((G_38.1 a 19).toInt) + (1 : Int)))
    (z10 : 0 ≤ ((G1.1 a 16).toInt) ∧ ((G1.1 a 16).toInt) ≤ 12)
    (I12_0 : 0 ≤ l4_12.toInt ∧ l4_12.toInt ≤ ((G1.1 a 16).toInt))
    (I12_1 : 0 ≤ ((G_12.1 a 19).toInt) ∧ ((G_12.1 a 19).toInt) ≤ 199 * l4_12.toInt)
    (I12_2 : (0 : Int) ≤ l4_12.toInt)
    (hm12 : 2147483648 - l4_12.toInt < (((N12) + 1 : Nat) : Int))
    (c18 : ¬ (((G1.1 a 16).toInt) ≤ l4_12.toInt))
    (z28 : (0 ≤ (aI (G1.2.1 (F a 15)) (l4_12.toInt)) ∧ (aI (G1.2.1 (F a 15)) (l4_12.toInt)) ≤ 11) ∧ (aI (G.2.1 (F a 10)) (10 * (aI (G1.2.1 (F a 15)) (l4_12.toInt)) + 0)) ≠ -1)
    (z30 : (-1 ≤ (aI (G.2.1 (F a 10)) (10 * (aI (G1.2.1 (F a 15)) (l4_12.toInt)) + 0)) ∧ (aI (G.2.1 (F a 10)) (10 * (aI (G1.2.1 (F a 15)) (l4_12.toInt)) + 0)) ≤ 5) ∧ (0 ≤ (aI (G.2.1 (F a 10)) (10 * (aI (G1.2.1 (F a 15)) (l4_12.toInt)) + 1)) ∧ (aI (G.2.1 (F a 10)) (10 * (aI (G1.2.1 (F a 15)) (l4_12.toInt)) + 1)) ≤ 2) ∧ (0 ≤ (aI (G.2.1 (F a 10)) (10 * (aI (G1.2.1 (F a 15)) (l4_12.toInt)) + 2)) ∧ (aI (G.2.1 (F a 10)) (10 * (aI (G1.2.1 (F a 15)) (l4_12.toInt)) + 2)) ≤ 2) ∧ (-1 ≤ (aI (G.2.1 (F a 10)) (10 * (aI (G1.2.1 (F a 15)) (l4_12.toInt)) + 3)) ∧ (aI (G.2.1 (F a 10)) (10 * (aI (G1.2.1 (F a 15)) (l4_12.toInt)) + 3)) ≤ 2) ∧ ((aI (G.2.1 (F a 10)) (10 * (aI (G1.2.1 (F a 15)) (l4_12.toInt)) + 0)) = 1 ∨ (aI (G.2.1 (F a 10)) (10 * (aI (G1.2.1 (F a 15)) (l4_12.toInt)) + 0)) = 3 ∨ (aI (G.2.1 (F a 10)) (10 * (aI (G1.2.1 (F a 15)) (l4_12.toInt)) + 0)) = 4 → 0 ≤ (aI (G.2.1 (F a 10)) (10 * (aI (G1.2.1 (F a 15)) (l4_12.toInt)) + 3))))
    (z30a : (((aI (G.2.1 (F a 10)) (10 * (aI (G1.2.1 (F a 15)) (l4_12.toInt)) + 0)) = 2 ∨ (aI (G.2.1 (F a 10)) (10 * (aI (G1.2.1 (F a 15)) (l4_12.toInt)) + 0)) = 4 ∨ (aI (G.2.1 (F a 10)) (10 * (aI (G1.2.1 (F a 15)) (l4_12.toInt)) + 0)) = 5) ∧ (sF (aI (G.2.1 (F a 10)) (10 * (aI (G1.2.1 (F a 15)) (l4_12.toInt)) + 0))) = 0 ∧ (sL (aI (G.2.1 (F a 10)) (10 * (aI (G1.2.1 (F a 15)) (l4_12.toInt)) + 0))) = 29) ∨ (¬ ((aI (G.2.1 (F a 10)) (10 * (aI (G1.2.1 (F a 15)) (l4_12.toInt)) + 0)) = 2 ∨ (aI (G.2.1 (F a 10)) (10 * (aI (G1.2.1 (F a 15)) (l4_12.toInt)) + 0)) = 4 ∨ (aI (G.2.1 (F a 10)) (10 * (aI (G1.2.1 (F a 15)) (l4_12.toInt)) + 0)) = 5) ∧ (sF (aI (G.2.1 (F a 10)) (10 * (aI (G1.2.1 (F a 15)) (l4_12.toInt)) + 0))) = -99 ∧ (sL (aI (G.2.1 (F a 10)) (10 * (aI (G1.2.1 (F a 15)) (l4_12.toInt)) + 0))) = 99))
    (I38_0 : (sF (aI (G.2.1 (F a 10)) (10 * (aI (G1.2.1 (F a 15)) (l4_12.toInt)) + 0))) ≤ l6_38.toInt ∧ l6_38.toInt ≤ (sL (aI (G.2.1 (F a 10)) (10 * (aI (G1.2.1 (F a 15)) (l4_12.toInt)) + 0))) + 1)
    (I38_1 : 0 ≤ ((G_38.1 a 19).toInt) ∧ ((G_38.1 a 19).toInt) ≤ 199 * l4_12.toInt + (l6_38.toInt - (sF (aI (G.2.1 (F a 10)) (10 * (aI (G1.2.1 (F a 15)) (l4_12.toInt)) + 0)))))
    (I38_2 : l6_38.toInt = (sF (aI (G.2.1 (F a 10)) (10 * (aI (G1.2.1 (F a 15)) (l4_12.toInt)) + 0))) ∨ p0.toInt = 2 ∨ (aI (G.2.1 (F a 10)) (10 * (aI (G1.2.1 (F a 15)) (l4_12.toInt)) + 6)) = p0.toInt)
    (hm38 : 2147483648 - l6_38.toInt < (((N38) + 1 : Nat) : Int))
    (c46 : ¬ ((sL (aI (G.2.1 (F a 10)) (10 * (aI (G1.2.1 (F a 15)) (l4_12.toInt)) + 0))) < l6_38.toInt))
    (c51 : p0.toInt = (2 : Int))
    (c84 : ¬ ((aI (G.2.1 p1) (199 * (aI (G1.2.1 (F a 15)) (l4_12.toInt)) + l6_38.toInt + 99)) = (aI (G.2.1 p2) (199 * (aI (G1.2.1 (F a 15)) (l4_12.toInt)) + l6_38.toInt + 99))))
    (c_G116_F_a_17 : G116.2.1 (F a 17) = G97.2.1 (F a 17))
    (c_G116_F_a_18 : G116.2.1 (F a 18) = G108.2.1 (F a 18))
    (c_G97_F_a_18 : G97.2.1 (F a 18) = G_38.2.1 (F a 18))
    (d_G116_a_19 : G116.1 a 19 = x115) :
    pL G116 F a = pL G_12 F a ++ fup (G.2.1 (F a 10)) r1 r2 (aI (G1.2.1 (F a 15)) (l4_12.toInt)) (l6_38.toInt + 1) := by
  have e0 := sFL (aI (G.2.1 (F a 10)) (10 * aI (G1.2.1 (F a 15)) l4_12.toInt + 0))
  have e1 := h1 (aI (G1.2.1 (F a 15)) l4_12.toInt) l6_38.toInt (by omega) (by omega) (by omega) (sbj_FL.mpr (by omega))
  have e2 := h2 (aI (G1.2.1 (F a 15)) l4_12.toInt) l6_38.toInt (by omega) (by omega) (by omega) (sbj_FL.mpr (by omega))
  rw [fup_s (by omega), ← List.append_assoc, ← pi]
  by_cases hq : stt r1 (aI (G.2.1 (F a 10)) (10 * aI (G1.2.1 (F a 15)) l4_12.toInt + 0)) (aI (G.2.1 (F a 10)) (10 * aI (G1.2.1 (F a 15)) l4_12.toInt + 1)) (aI (G.2.1 (F a 10)) (10 * aI (G1.2.1 (F a 15)) l4_12.toInt + 2)) (aI (G.2.1 (F a 10)) (10 * aI (G1.2.1 (F a 15)) l4_12.toInt + 3)) l6_38.toInt = stt r2 (aI (G.2.1 (F a 10)) (10 * aI (G1.2.1 (F a 15)) l4_12.toInt + 0)) (aI (G.2.1 (F a 10)) (10 * aI (G1.2.1 (F a 15)) l4_12.toInt + 1)) (aI (G.2.1 (F a 10)) (10 * aI (G1.2.1 (F a 15)) l4_12.toInt + 2)) (aI (G.2.1 (F a 10)) (10 * aI (G1.2.1 (F a 15)) l4_12.toInt + 3)) l6_38.toInt
  · first
      | (exfalso; omega)
      | (have hn : fu1 (G.2.1 (F a 10)) r1 r2 (aI (G1.2.1 (F a 15)) l4_12.toInt) l6_38.toInt = none := if_neg (fun z => z hq)
         rw [filterMap_1n2 hn, List.append_nil])
  · first
      | (exfalso; omega)
      | (have hs : fu1 (G.2.1 (F a 10)) r1 r2 (aI (G1.2.1 (F a 15)) l4_12.toInt) l6_38.toInt = some _ := if_pos hq
         rw [filterMap_1s hs, ← hv27]
         have e9 : (G_38.1 a 19).toNatClampNeg = (G_38.1 a 19).toInt.toNat := rfl
         refine pL_push (n := (G_38.1 a 19).toInt.toNat) (by omega) (by rw [d_G116_a_19, e115]; omega) ?_ ?_
         · intro j; rw [c_G116_F_a_17, cput_j hG97, e9]
         · intro j; rw [c_G116_F_a_18, cput_j hG108, c_G97_F_a_18, e9])
theorem v_X11_findUnlike_122_10 {F : Nat → Nat → Nat} (a : Nat) (G : XG) (G_38 : XG) (G97 : XG) (x27 : Int32) (G108 : XG) (l6_38 : Int32) (G116 : XG) (x115 : Int32)
    (hG97 : G97 = cput G_38 (F a 17) (G_38.1 a 19).toNatClampNeg x27)
    (hG108 : G108 = cput G97 (F a 18) (G_38.1 a 19).toNatClampNeg l6_38)
    (hG116 : G116 = dput G108 a 19 x115)
    (lo : G_38.2.2.2 = G.2.2.2) :
    G116.2.2.2 = G.2.2.2 := by
  first
    | exact lo
    | (rw [hG116, hG108, hG97]; exact lo)
theorem v_X11_findUnlike_128_11 {K : Nat → Nat} {F : Nat → Nat → Nat} (a : Nat) (p1 : Nat) (p2 : Nat) (G : XG) (G1 : XG) (G_12 : XG) (G_38 : XG) (r1 : Int → Int) (r2 : Int → Int) (p0 : Int32) (l4_12 : Int32) (l6_38 : Int32) (N12 : Nat) (N38 : Nat)
    (ha : K a = 13)
    (hp1 : K p1 = 38)
    (hp2 : K p2 = 38)
    (oq1 : ORm (G.2.1 (F a 10)) (G1.2.1 (F a 15)) ((G1.1 a 16).toInt) 12)
    (oq1a : G1.2.2.2 = G.2.2.2)
    (pu : pL G_12 F a = fuL (G.2.1 (F a 10)) r1 r2 p0.toInt (ordN (prM (G.2.1 (F a 10))) (rkM (G.2.1 (F a 10))) 12).2 (l4_12.toInt).toNat)
    (pi : pL G_38 F a = pL G_12 F a ++ fup (G.2.1 (F a 10)) r1 r2 (aI (G1.2.1 (F a 15)) (l4_12.toInt)) l6_38.toInt)
    (lo : G_38.2.2.2 = G.2.2.2)
    (z10 : 0 ≤ ((G1.1 a 16).toInt) ∧ ((G1.1 a 16).toInt) ≤ 12)
    (I12_0 : 0 ≤ l4_12.toInt ∧ l4_12.toInt ≤ ((G1.1 a 16).toInt))
    (I12_1 : 0 ≤ ((G_12.1 a 19).toInt) ∧ ((G_12.1 a 19).toInt) ≤ 199 * l4_12.toInt)
    (I12_2 : (0 : Int) ≤ l4_12.toInt)
    (hm12 : 2147483648 - l4_12.toInt < (((N12) + 1 : Nat) : Int))
    (c18 : ¬ (((G1.1 a 16).toInt) ≤ l4_12.toInt))
    (z28 : (0 ≤ (aI (G1.2.1 (F a 15)) (l4_12.toInt)) ∧ (aI (G1.2.1 (F a 15)) (l4_12.toInt)) ≤ 11) ∧ (aI (G.2.1 (F a 10)) (10 * (aI (G1.2.1 (F a 15)) (l4_12.toInt)) + 0)) ≠ -1)
    (z30 : (-1 ≤ (aI (G.2.1 (F a 10)) (10 * (aI (G1.2.1 (F a 15)) (l4_12.toInt)) + 0)) ∧ (aI (G.2.1 (F a 10)) (10 * (aI (G1.2.1 (F a 15)) (l4_12.toInt)) + 0)) ≤ 5) ∧ (0 ≤ (aI (G.2.1 (F a 10)) (10 * (aI (G1.2.1 (F a 15)) (l4_12.toInt)) + 1)) ∧ (aI (G.2.1 (F a 10)) (10 * (aI (G1.2.1 (F a 15)) (l4_12.toInt)) + 1)) ≤ 2) ∧ (0 ≤ (aI (G.2.1 (F a 10)) (10 * (aI (G1.2.1 (F a 15)) (l4_12.toInt)) + 2)) ∧ (aI (G.2.1 (F a 10)) (10 * (aI (G1.2.1 (F a 15)) (l4_12.toInt)) + 2)) ≤ 2) ∧ (-1 ≤ (aI (G.2.1 (F a 10)) (10 * (aI (G1.2.1 (F a 15)) (l4_12.toInt)) + 3)) ∧ (aI (G.2.1 (F a 10)) (10 * (aI (G1.2.1 (F a 15)) (l4_12.toInt)) + 3)) ≤ 2) ∧ ((aI (G.2.1 (F a 10)) (10 * (aI (G1.2.1 (F a 15)) (l4_12.toInt)) + 0)) = 1 ∨ (aI (G.2.1 (F a 10)) (10 * (aI (G1.2.1 (F a 15)) (l4_12.toInt)) + 0)) = 3 ∨ (aI (G.2.1 (F a 10)) (10 * (aI (G1.2.1 (F a 15)) (l4_12.toInt)) + 0)) = 4 → 0 ≤ (aI (G.2.1 (F a 10)) (10 * (aI (G1.2.1 (F a 15)) (l4_12.toInt)) + 3))))
    (z30a : (((aI (G.2.1 (F a 10)) (10 * (aI (G1.2.1 (F a 15)) (l4_12.toInt)) + 0)) = 2 ∨ (aI (G.2.1 (F a 10)) (10 * (aI (G1.2.1 (F a 15)) (l4_12.toInt)) + 0)) = 4 ∨ (aI (G.2.1 (F a 10)) (10 * (aI (G1.2.1 (F a 15)) (l4_12.toInt)) + 0)) = 5) ∧ (sF (aI (G.2.1 (F a 10)) (10 * (aI (G1.2.1 (F a 15)) (l4_12.toInt)) + 0))) = 0 ∧ (sL (aI (G.2.1 (F a 10)) (10 * (aI (G1.2.1 (F a 15)) (l4_12.toInt)) + 0))) = 29) ∨ (¬ ((aI (G.2.1 (F a 10)) (10 * (aI (G1.2.1 (F a 15)) (l4_12.toInt)) + 0)) = 2 ∨ (aI (G.2.1 (F a 10)) (10 * (aI (G1.2.1 (F a 15)) (l4_12.toInt)) + 0)) = 4 ∨ (aI (G.2.1 (F a 10)) (10 * (aI (G1.2.1 (F a 15)) (l4_12.toInt)) + 0)) = 5) ∧ (sF (aI (G.2.1 (F a 10)) (10 * (aI (G1.2.1 (F a 15)) (l4_12.toInt)) + 0))) = -99 ∧ (sL (aI (G.2.1 (F a 10)) (10 * (aI (G1.2.1 (F a 15)) (l4_12.toInt)) + 0))) = 99))
    (I38_0 : (sF (aI (G.2.1 (F a 10)) (10 * (aI (G1.2.1 (F a 15)) (l4_12.toInt)) + 0))) ≤ l6_38.toInt ∧ l6_38.toInt ≤ (sL (aI (G.2.1 (F a 10)) (10 * (aI (G1.2.1 (F a 15)) (l4_12.toInt)) + 0))) + 1)
    (I38_1 : 0 ≤ ((G_38.1 a 19).toInt) ∧ ((G_38.1 a 19).toInt) ≤ 199 * l4_12.toInt + (l6_38.toInt - (sF (aI (G.2.1 (F a 10)) (10 * (aI (G1.2.1 (F a 15)) (l4_12.toInt)) + 0)))))
    (I38_2 : l6_38.toInt = (sF (aI (G.2.1 (F a 10)) (10 * (aI (G1.2.1 (F a 15)) (l4_12.toInt)) + 0))) ∨ p0.toInt = 2 ∨ (aI (G.2.1 (F a 10)) (10 * (aI (G1.2.1 (F a 15)) (l4_12.toInt)) + 6)) = p0.toInt)
    (hm38 : 2147483648 - l6_38.toInt < (((N38) + 1 : Nat) : Int))
    (c46 : ¬ ((sL (aI (G.2.1 (F a 10)) (10 * (aI (G1.2.1 (F a 15)) (l4_12.toInt)) + 0))) < l6_38.toInt))
    (c51 : ¬ (p0.toInt = (2 : Int)))
    (c63 : (aI (G.2.1 (F a 10)) (10 * (aI (G1.2.1 (F a 15)) (l4_12.toInt)) + 6)) ≠ p0.toInt) :
    pL G_38 F a = fuL (G.2.1 (F a 10)) r1 r2 p0.toInt (ordN (prM (G.2.1 (F a 10))) (rkM (G.2.1 (F a 10))) 12).2 (l4_12.toInt + 1).toNat := by
  have e0 := sFL (aI (G.2.1 (F a 10)) (10 * aI (G1.2.1 (F a 15)) l4_12.toInt + 0))
  rw [show (l4_12.toInt + 1).toNat = l4_12.toInt.toNat + 1 from by omega, fuL_s, ← pu, or_nth oq1 (by omega), pi]
  congr 1
  first
    | exact fup_l (by omega) (by omega)
    | rw [fup_0 (by omega), fus_no (by omega)]
theorem v_X11_findUnlike_128_12 (G : XG) (G_38 : XG)
    (lo : G_38.2.2.2 = G.2.2.2) :
    G_38.2.2.2 = G.2.2.2 := by
  exact lo
theorem v_X11_findUnlike_122_13 {K : Nat → Nat} {F : Nat → Nat → Nat} (a : Nat) (p1 : Nat) (p2 : Nat) (G : XG) (G1 : XG) (G_12 : XG) (G_38 : XG) (r1 : Int → Int) (r2 : Int → Int) (p0 : Int32) (l4_12 : Int32) (x27 : Int32) (l6_38 : Int32) (N12 : Nat) (N38 : Nat)
    (ha : K a = 13)
    (hp1 : K p1 = 38)
    (hp2 : K p2 = 38)
    (h1 : LSt (G.2.1 (F a 10)) (G.2.1 p1) r1 12)
    (h2 : LSt (G.2.1 (F a 10)) (G.2.1 p2) r2 12)
    (oq1a : G1.2.2.2 = G.2.2.2)
    (hv27 : x27.toInt = (aI (G1.2.1 (F a 15)) (l4_12.toInt)))
    (pi : pL G_38 F a = pL G_12 F a ++ fup (G.2.1 (F a 10)) r1 r2 (aI (G1.2.1 (F a 15)) (l4_12.toInt)) l6_38.toInt)
    (lo : G_38.2.2.2 = G.2.2.2)
    (z10 : 0 ≤ ((G1.1 a 16).toInt) ∧ ((G1.1 a 16).toInt) ≤ 12)
    (I12_0 : 0 ≤ l4_12.toInt ∧ l4_12.toInt ≤ ((G1.1 a 16).toInt))
    (I12_1 : 0 ≤ ((G_12.1 a 19).toInt) ∧ ((G_12.1 a 19).toInt) ≤ 199 * l4_12.toInt)
    (I12_2 : (0 : Int) ≤ l4_12.toInt)
    (hm12 : 2147483648 - l4_12.toInt < (((N12) + 1 : Nat) : Int))
    (c18 : ¬ (((G1.1 a 16).toInt) ≤ l4_12.toInt))
    (z28 : (0 ≤ (aI (G1.2.1 (F a 15)) (l4_12.toInt)) ∧ (aI (G1.2.1 (F a 15)) (l4_12.toInt)) ≤ 11) ∧ (aI (G.2.1 (F a 10)) (10 * (aI (G1.2.1 (F a 15)) (l4_12.toInt)) + 0)) ≠ -1)
    (z30 : (-1 ≤ (aI (G.2.1 (F a 10)) (10 * (aI (G1.2.1 (F a 15)) (l4_12.toInt)) + 0)) ∧ (aI (G.2.1 (F a 10)) (10 * (aI (G1.2.1 (F a 15)) (l4_12.toInt)) + 0)) ≤ 5) ∧ (0 ≤ (aI (G.2.1 (F a 10)) (10 * (aI (G1.2.1 (F a 15)) (l4_12.toInt)) + 1)) ∧ (aI (G.2.1 (F a 10)) (10 * (aI (G1.2.1 (F a 15)) (l4_12.toInt)) + 1)) ≤ 2) ∧ (0 ≤ (aI (G.2.1 (F a 10)) (10 * (aI (G1.2.1 (F a 15)) (l4_12.toInt)) + 2)) ∧ (aI (G.2.1 (F a 10)) (10 * (aI (G1.2.1 (F a 15)) (l4_12.toInt)) + 2)) ≤ 2) ∧ (-1 ≤ (aI (G.2.1 (F a 10)) (10 * (aI (G1.2.1 (F a 15)) (l4_12.toInt)) + 3)) ∧ (aI (G.2.1 (F a 10)) (10 * (aI (G1.2.1 (F a 15)) (l4_12.toInt)) + 3)) ≤ 2) ∧ ((aI (G.2.1 (F a 10)) (10 * (aI (G1.2.1 (F a 15)) (l4_12.toInt)) + 0)) = 1 ∨ (aI (G.2.1 (F a 10)) (10 * (aI (G1.2.1 (F a 15)) (l4_12.toInt)) + 0)) = 3 ∨ (aI (G.2.1 (F a 10)) (10 * (aI (G1.2.1 (F a 15)) (l4_12.toInt)) + 0)) = 4 → 0 ≤ (aI (G.2.1 (F a 10)) (10 * (aI (G1.2.1 (F a 15)) (l4_12.toInt)) + 3))))
    (z30a : (((aI (G.2.1 (F a 10)) (10 * (aI (G1.2.1 (F a 15)) (l4_12.toInt)) + 0)) = 2 ∨ (aI (G.2.1 (F a 10)) (10 * (aI (G1.2.1 (F a 15)) (l4_12.toInt)) + 0)) = 4 ∨ (aI (G.2.1 (F a 10)) (10 * (aI (G1.2.1 (F a 15)) (l4_12.toInt)) + 0)) = 5) ∧ (sF (aI (G.2.1 (F a 10)) (10 * (aI (G1.2.1 (F a 15)) (l4_12.toInt)) + 0))) = 0 ∧ (sL (aI (G.2.1 (F a 10)) (10 * (aI (G1.2.1 (F a 15)) (l4_12.toInt)) + 0))) = 29) ∨ (¬ ((aI (G.2.1 (F a 10)) (10 * (aI (G1.2.1 (F a 15)) (l4_12.toInt)) + 0)) = 2 ∨ (aI (G.2.1 (F a 10)) (10 * (aI (G1.2.1 (F a 15)) (l4_12.toInt)) + 0)) = 4 ∨ (aI (G.2.1 (F a 10)) (10 * (aI (G1.2.1 (F a 15)) (l4_12.toInt)) + 0)) = 5) ∧ (sF (aI (G.2.1 (F a 10)) (10 * (aI (G1.2.1 (F a 15)) (l4_12.toInt)) + 0))) = -99 ∧ (sL (aI (G.2.1 (F a 10)) (10 * (aI (G1.2.1 (F a 15)) (l4_12.toInt)) + 0))) = 99))
    (I38_0 : (sF (aI (G.2.1 (F a 10)) (10 * (aI (G1.2.1 (F a 15)) (l4_12.toInt)) + 0))) ≤ l6_38.toInt ∧ l6_38.toInt ≤ (sL (aI (G.2.1 (F a 10)) (10 * (aI (G1.2.1 (F a 15)) (l4_12.toInt)) + 0))) + 1)
    (I38_1 : 0 ≤ ((G_38.1 a 19).toInt) ∧ ((G_38.1 a 19).toInt) ≤ 199 * l4_12.toInt + (l6_38.toInt - (sF (aI (G.2.1 (F a 10)) (10 * (aI (G1.2.1 (F a 15)) (l4_12.toInt)) + 0)))))
    (I38_2 : l6_38.toInt = (sF (aI (G.2.1 (F a 10)) (10 * (aI (G1.2.1 (F a 15)) (l4_12.toInt)) + 0))) ∨ p0.toInt = 2 ∨ (aI (G.2.1 (F a 10)) (10 * (aI (G1.2.1 (F a 15)) (l4_12.toInt)) + 6)) = p0.toInt)
    (hm38 : 2147483648 - l6_38.toInt < (((N38) + 1 : Nat) : Int))
    (c46 : ¬ ((sL (aI (G.2.1 (F a 10)) (10 * (aI (G1.2.1 (F a 15)) (l4_12.toInt)) + 0))) < l6_38.toInt))
    (c51 : ¬ (p0.toInt = (2 : Int)))
    (c63 : ¬ ((aI (G.2.1 (F a 10)) (10 * (aI (G1.2.1 (F a 15)) (l4_12.toInt)) + 6)) ≠ p0.toInt))
    (c84 : (aI (G.2.1 p1) (199 * (aI (G1.2.1 (F a 15)) (l4_12.toInt)) + l6_38.toInt + 99)) = (aI (G.2.1 p2) (199 * (aI (G1.2.1 (F a 15)) (l4_12.toInt)) + l6_38.toInt + 99))) :
    pL G_38 F a = pL G_12 F a ++ fup (G.2.1 (F a 10)) r1 r2 (aI (G1.2.1 (F a 15)) (l4_12.toInt)) (l6_38.toInt + 1) := by
  have e0 := sFL (aI (G.2.1 (F a 10)) (10 * aI (G1.2.1 (F a 15)) l4_12.toInt + 0))
  have e1 := h1 (aI (G1.2.1 (F a 15)) l4_12.toInt) l6_38.toInt (by omega) (by omega) (by omega) (sbj_FL.mpr (by omega))
  have e2 := h2 (aI (G1.2.1 (F a 15)) l4_12.toInt) l6_38.toInt (by omega) (by omega) (by omega) (sbj_FL.mpr (by omega))
  rw [fup_s (by omega), ← List.append_assoc, ← pi]
  by_cases hq : stt r1 (aI (G.2.1 (F a 10)) (10 * aI (G1.2.1 (F a 15)) l4_12.toInt + 0)) (aI (G.2.1 (F a 10)) (10 * aI (G1.2.1 (F a 15)) l4_12.toInt + 1)) (aI (G.2.1 (F a 10)) (10 * aI (G1.2.1 (F a 15)) l4_12.toInt + 2)) (aI (G.2.1 (F a 10)) (10 * aI (G1.2.1 (F a 15)) l4_12.toInt + 3)) l6_38.toInt = stt r2 (aI (G.2.1 (F a 10)) (10 * aI (G1.2.1 (F a 15)) l4_12.toInt + 0)) (aI (G.2.1 (F a 10)) (10 * aI (G1.2.1 (F a 15)) l4_12.toInt + 1)) (aI (G.2.1 (F a 10)) (10 * aI (G1.2.1 (F a 15)) l4_12.toInt + 2)) (aI (G.2.1 (F a 10)) (10 * aI (G1.2.1 (F a 15)) l4_12.toInt + 3)) l6_38.toInt
  · first
      | (exfalso; omega)
      | (have hn : fu1 (G.2.1 (F a 10)) r1 r2 (aI (G1.2.1 (F a 15)) l4_12.toInt) l6_38.toInt = none := if_neg (fun z => z hq)
         rw [filterMap_1n2 hn, List.append_nil])
  · first
      | (exfalso; omega)
      | (have hs : fu1 (G.2.1 (F a 10)) r1 r2 (aI (G1.2.1 (F a 15)) l4_12.toInt) l6_38.toInt = some _ := if_pos hq
         rw [filterMap_1s hs, ← hv27]
         have e9 : (G_38.1 a 19).toNatClampNeg = (G_38.1 a 19).toInt.toNat := rfl
         refine pL_push (n := (G_38.1 a 19).toInt.toNat) (by omega) (by rw [d_G116_a_19, e115]; omega) ?_ ?_
         · intro j; rw [c_G116_F_a_17, cput_j hG97, e9]
         · intro j; rw [c_G116_F_a_18, cput_j hG108, c_G97_F_a_18, e9])
theorem v_X11_findUnlike_122_14 (G : XG) (G_38 : XG)
    (lo : G_38.2.2.2 = G.2.2.2) :
    G_38.2.2.2 = G.2.2.2 := by
  first
    | exact lo
    | (rw [hG116, hG108, hG97]; exact lo)
theorem v_X11_findUnlike_122_15 {K : Nat → Nat} {F : Nat → Nat → Nat} (a : Nat) (p1 : Nat) (p2 : Nat) (G : XG) (G1 : XG) (G_12 : XG) (G_38 : XG) (G97 : XG) (x27 : Int32) (G108 : XG) (l6_38 : Int32) (G116 : XG) (x115 : Int32) (r1 : Int → Int) (r2 : Int → Int) (p0 : Int32) (l4_12 : Int32) (N12 : Nat) (N38 : Nat)
    (ha : K a = 13)
    (hp1 : K p1 = 38)
    (hp2 : K p2 = 38)
    (hG97 : G97 = cput G_38 (F a 17) (G_38.1 a 19).toNatClampNeg x27)
    (hG108 : G108 = cput G97 (F a 18) (G_38.1 a 19).toNatClampNeg l6_38)
    (h1 : LSt (G.2.1 (F a 10)) (G.2.1 p1) r1 12)
    (h2 : LSt (G.2.1 (F a 10)) (G.2.1 p2) r2 12)
    (oq1a : G1.2.2.2 = G.2.2.2)
    (hv27 : x27.toInt = (aI (G1.2.1 (F a 15)) (l4_12.toInt)))
    (pi : pL G_38 F a = pL G_12 F a ++ fup (G.2.1 (F a 10)) r1 r2 (aI (G1.2.1 (F a 15)) (l4_12.toInt)) l6_38.toInt)
    (lo : G_38.2.2.2 = G.2.2.2)
    (e115 : x115.toInt = (((G_38.1 a 19).toInt) + (1 : Int)))
    (z10 : 0 ≤ ((G1.1 a 16).toInt) ∧ ((G1.1 a 16).toInt) ≤ 12)
    (I12_0 : 0 ≤ l4_12.toInt ∧ l4_12.toInt ≤ ((G1.1 a 16).toInt))
    (I12_1 : 0 ≤ ((G_12.1 a 19).toInt) ∧ ((G_12.1 a 19).toInt) ≤ 199 * l4_12.toInt)
    (I12_2 : (0 : Int) ≤ l4_12.toInt)
    (hm12 : 2147483648 - l4_12.toInt < (((N12) + 1 : Nat) : Int))
    (c18 : ¬ (((G1.1 a 16).toInt) ≤ l4_12.toInt))
    (z28 : (0 ≤ (aI (G1.2.1 (F a 15)) (l4_12.toInt)) ∧ (aI (G1.2.1 (F a 15)) (l4_12.toInt)) ≤ 11) ∧ (aI (G.2.1 (F a 10)) (10 * (aI (G1.2.1 (F a 15)) (l4_12.toInt)) + 0)) ≠ -1)
    (z30 : (-1 ≤ (aI (G.2.1 (F a 10)) (10 * (aI (G1.2.1 (F a 15)) (l4_12.toInt)) + 0)) ∧ (aI (G.2.1 (F a 10)) (10 * (aI (G1.2.1 (F a 15)) (l4_12.toInt)) + 0)) ≤ 5) ∧ (0 ≤ (aI (G.2.1 (F a 10)) (10 * (aI (G1.2.1 (F a 15)) (l4_12.toInt)) + 1)) ∧ (aI (G.2.1 (F a 10)) (10 * (aI (G1.2.1 (F a 15)) (l4_12.toInt)) + 1)) ≤ 2) ∧ (0 ≤ (aI (G.2.1 (F a 10)) (10 * (aI (G1.2.1 (F a 15)) (l4_12.toInt)) + 2)) ∧ (aI (G.2.1 (F a 10)) (10 * (aI (G1.2.1 (F a 15)) (l4_12.toInt)) + 2)) ≤ 2) ∧ (-1 ≤ (aI (G.2.1 (F a 10)) (10 * (aI (G1.2.1 (F a 15)) (l4_12.toInt)) + 3)) ∧ (aI (G.2.1 (F a 10)) (10 * (aI (G1.2.1 (F a 15)) (l4_12.toInt)) + 3)) ≤ 2) ∧ ((aI (G.2.1 (F a 10)) (10 * (aI (G1.2.1 (F a 15)) (l4_12.toInt)) + 0)) = 1 ∨ (aI (G.2.1 (F a 10)) (10 * (aI (G1.2.1 (F a 15)) (l4_12.toInt)) + 0)) = 3 ∨ (aI (G.2.1 (F a 10)) (10 * (aI (G1.2.1 (F a 15)) (l4_12.toInt)) + 0)) = 4 → 0 ≤ (aI (G.2.1 (F a 10)) (10 * (aI (G1.2.1 (F a 15)) (l4_12.toInt)) + 3))))
    (z30a : (((aI (G.2.1 (F a 10)) (10 * (aI (G1.2.1 (F a 15)) (l4_12.toInt)) + 0)) = 2 ∨ (aI (G.2.1 (F a 10)) (10 * (aI (G1.2.1 (F a 15)) (l4_12.toInt)) + 0)) = 4 ∨ (aI (G.2.1 (F a 10)) (10 * (aI (G1.2.1 (F a 15)) (l4_12.toInt)) + 0)) = 5) ∧ (sF (aI (G.2.1 (F a 10)) (10 * (aI (G1.2.1 (F a 15)) (l4_12.toInt)) + 0))) = 0 ∧ (sL (aI (G.2.1 (F a 10)) (10 * (aI (G1.2.1 (F a 15)) (l4_12.toInt)) + 0))) = 29) ∨ (¬ ((aI (G.2.1 (F a 10)) (10 * (aI (G1.2.1 (F a 15)) (l4_12.toInt)) + 0)) = 2 ∨ (aI (G.2.1 (F a 10)) (10 * (aI (G1.2.1 (F a 15)) (l4_12.toInt)) + 0)) = 4 ∨ (aI (G.2.1 (F a 10)) (10 * (aI (G1.2.1 (F a 15)) (l4_12.toInt)) + 0)) = 5) ∧ (sF (aI (G.2.1 (F a 10)) (10 * (aI (G1.2.1 (F a 15)) (l4_12.toInt)) + 0))) = -99 ∧ (sL (aI (G.2.1 (F a 10)) (10 * (aI (G1.2.1 (F a 15)) (l4_12.toInt)) + 0))) = 99))
    (I38_0 : (sF (aI (G.2.1 (F a 10)) (10 * (aI (G1.2.1 (F a 15)) (l4_12.toInt)) + 0))) ≤ l6_38.toInt ∧ l6_38.toInt ≤ (sL (aI (G.2.1 (F a 10)) (10 * (aI (G1.2.1 (F a 15)) (l4_12.toInt)) + 0))) + 1)
    (I38_1 : 0 ≤ ((G_38.1 a 19).toInt) ∧ ((G_38.1 a 19).toInt) ≤ 199 * l4_12.toInt + (l6_38.toInt - (sF (aI (G.2.1 (F a 10)) (10 * (aI (G1.2.1 (F a 15)) (l4_12.toInt)) + 0)))))
    (I38_2 : l6_38.toInt = (sF (aI (G.2.1 (F a 10)) (10 * (aI (G1.2.1 (F a 15)) (l4_12.toInt)) + 0))) ∨ p0.toInt = 2 ∨ (aI (G.2.1 (F a 10)) (10 * (aI (G1.2.1 (F a 15)) (l4_12.toInt)) + 6)) = p0.toInt)
    (hm38 : 2147483648 - l6_38.toInt < (((N38) + 1 : Nat) : Int))
    (c46 : ¬ ((sL (aI (G.2.1 (F a 10)) (10 * (aI (G1.2.1 (F a 15)) (l4_12.toInt)) + 0))) < l6_38.toInt))
    (c51 : ¬ (p0.toInt = (2 : Int)))
    (c63 : ¬ ((aI (G.2.1 (F a 10)) (10 * (aI (G1.2.1 (F a 15)) (l4_12.toInt)) + 6)) ≠ p0.toInt))
    (c84 : ¬ ((aI (G.2.1 p1) (199 * (aI (G1.2.1 (F a 15)) (l4_12.toInt)) + l6_38.toInt + 99)) = (aI (G.2.1 p2) (199 * (aI (G1.2.1 (F a 15)) (l4_12.toInt)) + l6_38.toInt + 99))))
    (c_G116_F_a_17 : G116.2.1 (F a 17) = G97.2.1 (F a 17))
    (c_G116_F_a_18 : G116.2.1 (F a 18) = G108.2.1 (F a 18))
    (c_G97_F_a_18 : G97.2.1 (F a 18) = G_38.2.1 (F a 18))
    (d_G116_a_19 : G116.1 a 19 = x115) :
    pL G116 F a = pL G_12 F a ++ fup (G.2.1 (F a 10)) r1 r2 (aI (G1.2.1 (F a 15)) (l4_12.toInt)) (l6_38.toInt + 1) := by
  have e0 := sFL (aI (G.2.1 (F a 10)) (10 * aI (G1.2.1 (F a 15)) l4_12.toInt + 0))
  have e1 := h1 (aI (G1.2.1 (F a 15)) l4_12.toInt) l6_38.toInt (by omega) (by omega) (by omega) (sbj_FL.mpr (by omega))
  have e2 := h2 (aI (G1.2.1 (F a 15)) l4_12.toInt) l6_38.toInt (by omega) (by omega) (by omega) (sbj_FL.mpr (by omega))
  rw [fup_s (by omega), ← List.append_assoc, ← pi]
  by_cases hq : stt r1 (aI (G.2.1 (F a 10)) (10 * aI (G1.2.1 (F a 15)) l4_12.toInt + 0)) (aI (G.2.1 (F a 10)) (10 * aI (G1.2.1 (F a 15)) l4_12.toInt + 1)) (aI (G.2.1 (F a 10)) (10 * aI (G1.2.1 (F a 15)) l4_12.toInt + 2)) (aI (G.2.1 (F a 10)) (10 * aI (G1.2.1 (F a 15)) l4_12.toInt + 3)) l6_38.toInt = stt r2 (aI (G.2.1 (F a 10)) (10 * aI (G1.2.1 (F a 15)) l4_12.toInt + 0)) (aI (G.2.1 (F a 10)) (10 * aI (G1.2.1 (F a 15)) l4_12.toInt + 1)) (aI (G.2.1 (F a 10)) (10 * aI (G1.2.1 (F a 15)) l4_12.toInt + 2)) (aI (G.2.1 (F a 10)) (10 * aI (G1.2.1 (F a 15)) l4_12.toInt + 3)) l6_38.toInt
  · first
      | (exfalso; omega)
      | (have hn : fu1 (G.2.1 (F a 10)) r1 r2 (aI (G1.2.1 (F a 15)) l4_12.toInt) l6_38.toInt = none := if_neg (fun z => z hq)
         rw [filterMap_1n2 hn, List.append_nil])
  · first
      | (exfalso; omega)
      | (have hs : fu1 (G.2.1 (F a 10)) r1 r2 (aI (G1.2.1 (F a 15)) l4_12.toInt) l6_38.toInt = some _ := if_pos hq
         rw [filterMap_1s hs, ← hv27]
         have e9 : (G_38.1 a 19).toNatClampNeg = (G_38.1 a 19).toInt.toNat := rfl
         refine pL_push (n := (G_38.1 a 19).toInt.toNat) (by omega) (by rw [d_G116_a_19, e115]; omega) ?_ ?_
         · intro j; rw [c_G116_F_a_17, cput_j hG97, e9]
         · intro j; rw [c_G116_F_a_18, cput_j hG108, c_G97_F_a_18, e9])
theorem v_X11_findUnlike_122_16 {F : Nat → Nat → Nat} (a : Nat) (G : XG) (G_38 : XG) (G97 : XG) (x27 : Int32) (G108 : XG) (l6_38 : Int32) (G116 : XG) (x115 : Int32)
    (hG97 : G97 = cput G_38 (F a 17) (G_38.1 a 19).toNatClampNeg x27)
    (hG108 : G108 = cput G97 (F a 18) (G_38.1 a 19).toNatClampNeg l6_38)
    (hG116 : G116 = dput G108 a 19 x115)
    (lo : G_38.2.2.2 = G.2.2.2) :
    G116.2.2.2 = G.2.2.2 := by
  first
    | exact lo
    | (rw [hG116, hG108, hG97]; exact lo)
theorem v_X11_findUnlike_36_17 {F : Nat → Nat → Nat} (a : Nat) (G : XG) (G1 : XG) (G_12 : XG) (r1 : Int → Int) (r2 : Int → Int) (l4_12 : Int32) :
    pL G_12 F a = pL G_12 F a ++ fup (G.2.1 (F a 10)) r1 r2 (aI (G1.2.1 (F a 15)) (l4_12.toInt)) (sF (aI (G.2.1 (F a 10)) (10 * (aI (G1.2.1 (F a 15)) (l4_12.toInt)) + 0))) := by
  rw [fup_0 rfl, List.append_nil]
theorem v_X11_findUnlike_36_18 (G : XG) (G_12 : XG)
    (lo : G_12.2.2.2 = G.2.2.2) :
    G_12.2.2.2 = G.2.2.2 := by
  exact lo
theorem v_X11_findUnlike_10_19 {F : Nat → Nat → Nat} (a : Nat) (G : XG) (G6 : XG) (r1 : Int → Int) (r2 : Int → Int) (p0 : Int32)
    (d_G6_a_19 : G6.1 a 19 = 0) :
    pL G6 F a = fuL (G.2.1 (F a 10)) r1 r2 p0.toInt (ordN (prM (G.2.1 (F a 10))) (rkM (G.2.1 (F a 10))) 12).2 (0 : Int).toNat := by
  show lst _ (G6.1 a 19).toInt.toNat = []
  rw [d_G6_a_19]
  rfl
theorem v_X11_findUnlike_10_20 (a : Nat) (G : XG) (G1 : XG) (G6 : XG)
    (hG6 : G6 = dput G1 a 19 0)
    (oq1a : G1.2.2.2 = G.2.2.2) :
    G6.2.2.2 = G.2.2.2 := by
  rw [hG6]; exact oq1a
