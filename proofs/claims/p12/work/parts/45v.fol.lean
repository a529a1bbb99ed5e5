theorem v_X2_moveRow_6_1 {F : Nat → Nat → Nat} (p0 : Nat) (G : XG)
    (hro : RO (vw (G.2.1 (F p0 0))) (aI (G.2.1 (F p0 1)))) :
    RO (vw (G.2.1 (F p0 0))) (aI (G.2.1 (F p0 1))) := by exact hro
theorem v_X2_moveRow_72_2 {K : Nat → Nat} {F : Nat → Nat → Nat} (a : Nat) (p0 : Nat) (p1 : Nat) (G : XG) (G_12 : XG) (p2 : Int32) (p3 : Int32) (p4 : Int32) (l6_12 : Int32) (N12 : Nat)
    (ha : K a = 4)
    (hp0 : K p0 = 8)
    (hp1 : K p1 = 2)
    (mv : (vw (G_12.2.1 (F p0 0))) = mvR (clsA G (G.2.2.1 (F p1 0))) (clsT G (G.2.2.1 (F p1 0))) (clsC G (G.2.2.1 (F p1 0))) p2.toInt p3.toInt p4.toInt (rmv (vw (G.2.1 (F p0 0))) p2.toInt p3.toInt p4.toInt) (Int.toNat (l6_12.toInt)))
    (e1 : 0 ≤ p2.toInt ∧ p2.toInt < 3 ∧ 0 ≤ p3.toInt ∧ p3.toInt < 30 ∧ 0 ≤ p4.toInt ∧ p4.toInt < 30 ∧ p3.toInt ≠ p4.toInt)
    (e3 : (cel (vw (G.2.1 (F p0 0))) (p2.toInt) (p3.toInt) 0) ≠ -2000)
    (I12_0 : 0 ≤ l6_12.toInt ∧ l6_12.toInt ≤ 12)
    (I12_1 : (0 : Int) ≤ l6_12.toInt)
    (hm12 : 2147483648 - l6_12.toInt < (((N12) + 1 : Nat) : Int))
    (c16 : (12 : Int) ≤ l6_12.toInt) :
    (vw (G_12.2.1 (F p0 0))) = mvR (clsA G (G.2.2.1 (F p1 0))) (clsT G (G.2.2.1 (F p1 0))) (clsC G (G.2.2.1 (F p1 0))) p2.toInt p3.toInt p4.toInt (rmv (vw (G.2.1 (F p0 0))) p2.toInt p3.toInt p4.toInt) 12 := by
  rw [mv, show l6_12.toInt = 12 from by omega]; rfl
theorem v_X2_moveRow_72_3 {F : Nat → Nat → Nat} (p0 : Nat) (G_12 : XG)
    (ro : RO (vw (G_12.2.1 (F p0 0))) (aI (G_12.2.1 (F p0 1)))) :
    RO (vw (G_12.2.1 (F p0 0))) (aI (G_12.2.1 (F p0 1))) := by
  exact ro
theorem v_X2_moveRow_69_4 {K : Nat → Nat} {F : Nat → Nat → Nat} (a : Nat) (p0 : Nat) (p1 : Nat) (G : XG) (G_12 : XG) (p2 : Int32) (p3 : Int32) (p4 : Int32) (l6_12 : Int32) (N12 : Nat)
    (ha : K a = 4)
    (hp0 : K p0 = 8)
    (hp1 : K p1 = 2)
    (mv : (vw (G_12.2.1 (F p0 0))) = mvR (clsA G (G.2.2.1 (F p1 0))) (clsT G (G.2.2.1 (F p1 0))) (clsC G (G.2.2.1 (F p1 0))) p2.toInt p3.toInt p4.toInt (rmv (vw (G.2.1 (F p0 0))) p2.toInt p3.toInt p4.toInt) (Int.toNat (l6_12.toInt)))
    (hn22 : (l6_12.toInt < 0 ∨ 12 ≤ l6_12.toInt) ∨ G_12.2.2.1 (F p1 0) (l6_12.toInt).toNat = none)
    (e1 : 0 ≤ p2.toInt ∧ p2.toInt < 3 ∧ 0 ≤ p3.toInt ∧ p3.toInt < 30 ∧ 0 ≤ p4.toInt ∧ p4.toInt < 30 ∧ p3.toInt ≠ p4.toInt)
    (e3 : (cel (vw (G.2.1 (F p0 0))) (p2.toInt) (p3.toInt) 0) ≠ -2000)
    (I12_0 : 0 ≤ l6_12.toInt ∧ l6_12.toInt ≤ 12)
    (I12_1 : (0 : Int) ≤ l6_12.toInt)
    (hm12 : 2147483648 - l6_12.toInt < (((N12) + 1 : Nat) : Int))
    (c16 : ¬ ((12 : Int) ≤ l6_12.toInt))
    (r_G_12_F_p1_0 : G_12.2.2.1 (F p1 0) = G.2.2.1 (F p1 0)) :
    (vw (G_12.2.1 (F p0 0))) = mvR (clsA G (G.2.2.1 (F p1 0))) (clsT G (G.2.2.1 (F p1 0))) (clsC G (G.2.2.1 (F p1 0))) p2.toInt p3.toInt p4.toInt (rmv (vw (G.2.1 (F p0 0))) p2.toInt p3.toInt p4.toInt) (Int.toNat (l6_12.toInt + 1)) := by
  have hq : G.2.2.1 (F p1 0) l6_12.toInt.toNat = none := by rw [← r_G_12_F_p1_0]; exact hn22.elim (fun h => absurd h (by omega)) id
  rw [mvR_s (by omega), if_neg (by rw [clsA_n hq]; decide)]
  exact mv
theorem v_X2_moveRow_69_5 {F : Nat → Nat → Nat} (p0 : Nat) (G_12 : XG)
    (ro : RO (vw (G_12.2.1 (F p0 0))) (aI (G_12.2.1 (F p0 1)))) :
    RO (vw (G_12.2.1 (F p0 0))) (aI (G_12.2.1 (F p0 1))) := by
  first | exact oq63a | exact ro
theorem v_X2_moveRow_69_6 {K : Nat → Nat} {F : Nat → Nat → Nat} (a : Nat) (p0 : Nat) (p1 : Nat) (q22 : Nat) (G : XG) (G6 : XG) (G_12 : XG) (p2 : Int32) (p3 : Int32) (p4 : Int32) (l6_12 : Int32) (N12 : Nat) (x35 : Int32)
    (ha : K a = 4)
    (hp0 : K p0 = 8)
    (hp1 : K p1 = 2)
    (hk9999 : K (F p0 0) = 20)
    (hj9999 : F (F p0 0) 99 = F p0 99)
    (hk9999a : K (F p0 1) = 21)
    (hj9999a : F (F p0 1) 99 = F p0 99)
    (hk9999b : K (F p1 0) = 15)
    (hj9999b : F (F p1 0) 99 = 0)
    (hk22 : K q22 = 9)
    (hF6 : XFr [] [F p0 0, F p0 1] [] G G6)
    (hF_12 : XFr [] [F p0 0, F p0 1] [] G6 G_12)
    (bkn : BKr K G (G.2.2.1 (F p1 0)))
    (hac : ACo G (G.2.2.1 (F p1 0)))
    (mv : (vw (G_12.2.1 (F p0 0))) = mvR (clsA G (G.2.2.1 (F p1 0))) (clsT G (G.2.2.1 (F p1 0))) (clsC G (G.2.2.1 (F p1 0))) p2.toInt p3.toInt p4.toInt (rmv (vw (G.2.1 (F p0 0))) p2.toInt p3.toInt p4.toInt) (Int.toNat (l6_12.toInt)))
    (hs22 : G_12.2.2.1 (F p1 0) (l6_12.toInt).toNat = some q22)
    (e1 : 0 ≤ p2.toInt ∧ p2.toInt < 3 ∧ 0 ≤ p3.toInt ∧ p3.toInt < 30 ∧ 0 ≤ p4.toInt ∧ p4.toInt < 30 ∧ p3.toInt ≠ p4.toInt)
    (e3 : (cel (vw (G.2.1 (F p0 0))) (p2.toInt) (p3.toInt) 0) ≠ -2000)
    (I12_0 : 0 ≤ l6_12.toInt ∧ l6_12.toInt ≤ 12)
    (I12_1 : (0 : Int) ≤ l6_12.toInt)
    (hm12 : 2147483648 - l6_12.toInt < (((N12) + 1 : Nat) : Int))
    (c16 : ¬ ((12 : Int) ≤ l6_12.toInt))
    (ht22 : 0 ≤ l6_12.toInt ∧ l6_12.toInt < 12)
    (t35 : ((((G.1 q22 0).toInt) = 1 ∧ ((G.1 q22 4).toInt) = p2.toInt ∧ ((G.1 q22 7).toInt) ≠ 0) ∧ x35.toInt = 1) ∨ (¬ (((G.1 q22 0).toInt) = 1 ∧ ((G.1 q22 4).toInt) = p2.toInt ∧ ((G.1 q22 7).toInt) ≠ 0) ∧ x35.toInt = 0))
    (c38 : x35.toInt = 0)
    (r_G_12_F_p1_0 : G_12.2.2.1 (F p1 0) = G.2.2.1 (F p1 0)) :
    (vw (G_12.2.1 (F p0 0))) = mvR (clsA G (G.2.2.1 (F p1 0))) (clsT G (G.2.2.1 (F p1 0))) (clsC G (G.2.2.1 (F p1 0))) p2.toInt p3.toInt p4.toInt (rmv (vw (G.2.1 (F p0 0))) p2.toInt p3.toInt p4.toInt) (Int.toNat (l6_12.toInt + 1)) := by
  have hd : ∀ p, p ∈ ([] : List (Nat × Nat)) → K p.1 ≠ 9 := fun _ h => by cases h
  have hc : ∀ (i q : Nat), i < 12 → G.2.2.1 (F p1 0) i = some q → G_12.1 q = G.1 q := fun i q hi hq => (hF_12.rule hd (bkn i q hi hq).1).trans (hF6.rule hd (bkn i q hi hq).1)
  have hq : G.2.2.1 (F p1 0) l6_12.toInt.toNat = some q22 := by rw [← r_G_12_F_p1_0]; exact hs22
  have hg : G_12.1 q22 = G.1 q22 := hc _ q22 (by omega) hq
  have as := clsA_s (G := G) (t := p2.toInt) hq
  have ac := hac _ q22 (by omega) hq
  rw [hg] at *
  rw [mvR_s (by omega), if_neg (by rw [as]; split <;> omega)]
  exact mv
theorem v_X2_moveRow_69_7 {F : Nat → Nat → Nat} (p0 : Nat) (G_12 : XG)
    (ro : RO (vw (G_12.2.1 (F p0 0))) (aI (G_12.2.1 (F p0 1)))) :
    RO (vw (G_12.2.1 (F p0 0))) (aI (G_12.2.1 (F p0 1))) := by
  first | exact oq63a | exact ro
theorem v_X2_moveRow_63_8 {F : Nat → Nat → Nat} (p0 : Nat) (G_12 : XG)
    (ro : RO (vw (G_12.2.1 (F p0 0))) (aI (G_12.2.1 (F p0 1)))) :
    RO (vw (G_12.2.1 (F p0 0))) (aI (G_12.2.1 (F p0 1))) := by exact ro
theorem v_X2_moveRow_63_9 {K : Nat → Nat} {F : Nat → Nat → Nat} (a : Nat) (p0 : Nat) (p1 : Nat) (q22 : Nat) (G : XG) (G6 : XG) (G_12 : XG) (p2 : Int32) (p3 : Int32) (p4 : Int32) (l6_12 : Int32) (N12 : Nat) (x35 : Int32)
    (ha : K a = 4)
    (hp0 : K p0 = 8)
    (hp1 : K p1 = 2)
    (hk9999 : K (F p0 0) = 20)
    (hj9999 : F (F p0 0) 99 = F p0 99)
    (hk9999a : K (F p0 1) = 21)
    (hj9999a : F (F p0 1) 99 = F p0 99)
    (hk9999b : K (F p1 0) = 15)
    (hj9999b : F (F p1 0) 99 = 0)
    (hk22 : K q22 = 9)
    (hF6 : XFr [] [F p0 0, F p0 1] [] G G6)
    (hF_12 : XFr [] [F p0 0, F p0 1] [] G6 G_12)
    (bkn : BKr K G (G.2.2.1 (F p1 0)))
    (hs22 : G_12.2.2.1 (F p1 0) (l6_12.toInt).toNat = some q22)
    (e1 : 0 ≤ p2.toInt ∧ p2.toInt < 3 ∧ 0 ≤ p3.toInt ∧ p3.toInt < 30 ∧ 0 ≤ p4.toInt ∧ p4.toInt < 30 ∧ p3.toInt ≠ p4.toInt)
    (e3 : (cel (vw (G.2.1 (F p0 0))) (p2.toInt) (p3.toInt) 0) ≠ -2000)
    (I12_0 : 0 ≤ l6_12.toInt ∧ l6_12.toInt ≤ 12)
    (I12_1 : (0 : Int) ≤ l6_12.toInt)
    (hm12 : 2147483648 - l6_12.toInt < (((N12) + 1 : Nat) : Int))
    (c16 : ¬ ((12 : Int) ≤ l6_12.toInt))
    (ht22 : 0 ≤ l6_12.toInt ∧ l6_12.toInt < 12)
    (t35 : ((((G.1 q22 0).toInt) = 1 ∧ ((G.1 q22 4).toInt) = p2.toInt ∧ ((G.1 q22 7).toInt) ≠ 0) ∧ x35.toInt = 1) ∨ (¬ (((G.1 q22 0).toInt) = 1 ∧ ((G.1 q22 4).toInt) = p2.toInt ∧ ((G.1 q22 7).toInt) ≠ 0) ∧ x35.toInt = 0))
    (c38 : ¬ (x35.toInt = 0))
    (c52 : ((G.1 q22 7).toInt) ≠ (1 : Int))
    (r_G_12_F_p1_0 : G_12.2.2.1 (F p1 0) = G.2.2.1 (F p1 0)) :
    RW (G_12.1 q22) := by
  have hd : ∀ p, p ∈ ([] : List (Nat × Nat)) → K p.1 ≠ 9 := fun _ h => by cases h
  have hc : ∀ (i q : Nat), i < 12 → G.2.2.1 (F p1 0) i = some q → G_12.1 q = G.1 q := fun i q hi hq => (hF_12.rule hd (bkn i q hi hq).1).trans (hF6.rule hd (bkn i q hi hq).1)
  have hq : G.2.2.1 (F p1 0) l6_12.toInt.toNat = some q22 := by rw [← r_G_12_F_p1_0]; exact hs22
  rw [hc _ q22 (by omega) hq]
  exact (bkn _ q22 (by omega) hq).2
theorem v_X2_moveRow_69_10 {K : Nat → Nat} {F : Nat → Nat → Nat} (a : Nat) (p0 : Nat) (p1 : Nat) (q22 : Nat) (G : XG) (G6 : XG) (G_12 : XG) (G63 : XG) (p2 : Int32) (p3 : Int32) (p4 : Int32) (l6_12 : Int32) (N12 : Nat) (x35 : Int32)
    (ha : K a = 4)
    (hp0 : K p0 = 8)
    (hp1 : K p1 = 2)
    (hk9999 : K (F p0 0) = 20)
    (hj9999 : F (F p0 0) 99 = F p0 99)
    (hk9999a : K (F p0 1) = 21)
    (hj9999a : F (F p0 1) 99 = F p0 99)
    (hk9999b : K (F p1 0) = 15)
    (hj9999b : F (F p1 0) 99 = 0)
    (hk22 : K q22 = 9)
    (hF6 : XFr [] [F p0 0, F p0 1] [] G G6)
    (hF_12 : XFr [] [F p0 0, F p0 1] [] G6 G_12)
    (bkn : BKr K G (G.2.2.1 (F p1 0)))
    (hac : ACo G (G.2.2.1 (F p1 0)))
    (mv : (vw (G_12.2.1 (F p0 0))) = mvR (clsA G (G.2.2.1 (F p1 0))) (clsT G (G.2.2.1 (F p1 0))) (clsC G (G.2.2.1 (F p1 0))) p2.toInt p3.toInt p4.toInt (rmv (vw (G.2.1 (F p0 0))) p2.toInt p3.toInt p4.toInt) (Int.toNat (l6_12.toInt)))
    (hs22 : G_12.2.2.1 (F p1 0) (l6_12.toInt).toNat = some q22)
    (oq63 : (vw (G63.2.1 (F p0 0))) = repl (vw (G_12.2.1 (F p0 0))) ((G.1 q22 2).toInt) ((G.1 q22 3).toInt) p3.toInt (-1000 : Int) 30)
    (e1 : 0 ≤ p2.toInt ∧ p2.toInt < 3 ∧ 0 ≤ p3.toInt ∧ p3.toInt < 30 ∧ 0 ≤ p4.toInt ∧ p4.toInt < 30 ∧ p3.toInt ≠ p4.toInt)
    (e3 : (cel (vw (G.2.1 (F p0 0))) (p2.toInt) (p3.toInt) 0) ≠ -2000)
    (I12_0 : 0 ≤ l6_12.toInt ∧ l6_12.toInt ≤ 12)
    (I12_1 : (0 : Int) ≤ l6_12.toInt)
    (hm12 : 2147483648 - l6_12.toInt < (((N12) + 1 : Nat) : Int))
    (c16 : ¬ ((12 : Int) ≤ l6_12.toInt))
    (ht22 : 0 ≤ l6_12.toInt ∧ l6_12.toInt < 12)
    (t35 : ((((G.1 q22 0).toInt) = 1 ∧ ((G.1 q22 4).toInt) = p2.toInt ∧ ((G.1 q22 7).toInt) ≠ 0) ∧ x35.toInt = 1) ∨ (¬ (((G.1 q22 0).toInt) = 1 ∧ ((G.1 q22 4).toInt) = p2.toInt ∧ ((G.1 q22 7).toInt) ≠ 0) ∧ x35.toInt = 0))
    (c38 : ¬ (x35.toInt = 0))
    (c52 : ((G.1 q22 7).toInt) ≠ (1 : Int))
    (r_G_12_F_p1_0 : G_12.2.2.1 (F p1 0) = G.2.2.1 (F p1 0)) :
    (vw (G63.2.1 (F p0 0))) = mvR (clsA G (G.2.2.1 (F p1 0))) (clsT G (G.2.2.1 (F p1 0))) (clsC G (G.2.2.1 (F p1 0))) p2.toInt p3.toInt p4.toInt (rmv (vw (G.2.1 (F p0 0))) p2.toInt p3.toInt p4.toInt) (Int.toNat (l6_12.toInt + 1)) := by
  have hd : ∀ p, p ∈ ([] : List (Nat × Nat)) → K p.1 ≠ 9 := fun _ h => by cases h
  have hc : ∀ (i q : Nat), i < 12 → G.2.2.1 (F p1 0) i = some q → G_12.1 q = G.1 q := fun i q hi hq => (hF_12.rule hd (bkn i q hi hq).1).trans (hF6.rule hd (bkn i q hi hq).1)
  have hq : G.2.2.1 (F p1 0) l6_12.toInt.toNat = some q22 := by rw [← r_G_12_F_p1_0]; exact hs22
  have hg : G_12.1 q22 = G.1 q22 := hc _ q22 (by omega) hq
  have as := clsA_s (G := G) (t := p2.toInt) hq
  have ac := hac _ q22 (by omega) hq
  rw [hg] at *
  have ts := clsT_s (G := G) hq ⟨by omega, by omega, by omega⟩
  rw [if_pos (by omega)] at as
  rw [mvR_s (by omega), if_pos (by omega), ts.1, ts.2, ← mv, as, oq63]
  first
    | rw [if_pos (by omega)]
    | rw [if_neg (by omega)]
theorem v_X2_moveRow_69_11 {F : Nat → Nat → Nat} (p0 : Nat) (G_12 : XG) (G63 : XG)
    (ro : RO (vw (G_12.2.1 (F p0 0))) (aI (G_12.2.1 (F p0 1))))
    (oq63a : RO (vw (G63.2.1 (F p0 0))) (aI (G63.2.1 (F p0 1)))) :
    RO (vw (G63.2.1 (F p0 0))) (aI (G63.2.1 (F p0 1))) := by
  first | exact oq63a | exact ro
theorem v_X2_moveRow_63_12 {F : Nat → Nat → Nat} (p0 : Nat) (G_12 : XG)
    (ro : RO (vw (G_12.2.1 (F p0 0))) (aI (G_12.2.1 (F p0 1)))) :
    RO (vw (G_12.2.1 (F p0 0))) (aI (G_12.2.1 (F p0 1))) := by exact ro
theorem v_X2_moveRow_63_13 {K : Nat → Nat} {F : Nat → Nat → Nat} (a : Nat) (p0 : Nat) (p1 : Nat) (q22 : Nat) (G : XG) (G6 : XG) (G_12 : XG) (p2 : Int32) (p3 : Int32) (p4 : Int32) (l6_12 : Int32) (N12 : Nat) (x35 : Int32)
    (ha : K a = 4)
    (hp0 : K p0 = 8)
    (hp1 : K p1 = 2)
    (hk9999 : K (F p0 0) = 20)
    (hj9999 : F (F p0 0) 99 = F p0 99)
    (hk9999a : K (F p0 1) = 21)
    (hj9999a : F (F p0 1) 99 = F p0 99)
    (hk9999b : K (F p1 0) = 15)
    (hj9999b : F (F p1 0) 99 = 0)
    (hk22 : K q22 = 9)
    (hF6 : XFr [] [F p0 0, F p0 1] [] G G6)
    (hF_12 : XFr [] [F p0 0, F p0 1] [] G6 G_12)
    (bkn : BKr K G (G.2.2.1 (F p1 0)))
    (hs22 : G_12.2.2.1 (F p1 0) (l6_12.toInt).toNat = some q22)
    (e1 : 0 ≤ p2.toInt ∧ p2.toInt < 3 ∧ 0 ≤ p3.toInt ∧ p3.toInt < 30 ∧ 0 ≤ p4.toInt ∧ p4.toInt < 30 ∧ p3.toInt ≠ p4.toInt)
    (e3 : (cel (vw (G.2.1 (F p0 0))) (p2.toInt) (p3.toInt) 0) ≠ -2000)
    (I12_0 : 0 ≤ l6_12.toInt ∧ l6_12.toInt ≤ 12)
    (I12_1 : (0 : Int) ≤ l6_12.toInt)
    (hm12 : 2147483648 - l6_12.toInt < (((N12) + 1 : Nat) : Int))
    (c16 : ¬ ((12 : Int) ≤ l6_12.toInt))
    (ht22 : 0 ≤ l6_12.toInt ∧ l6_12.toInt < 12)
    (t35 : ((((G.1 q22 0).toInt) = 1 ∧ ((G.1 q22 4).toInt) = p2.toInt ∧ ((G.1 q22 7).toInt) ≠ 0) ∧ x35.toInt = 1) ∨ (¬ (((G.1 q22 0).toInt) = 1 ∧ ((G.1 q22 4).toInt) = p2.toInt ∧ ((G.1 q22 7).toInt) ≠ 0) ∧ x35.toInt = 0))
    (c38 : ¬ (x35.toInt = 0))
    (c52 : ¬ (((G.1 q22 7).toInt) ≠ (1 : Int)))
    (r_G_12_F_p1_0 : G_12.2.2.1 (F p1 0) = G.2.2.1 (F p1 0)) :
    RW (G_12.1 q22) := by
  have hd : ∀ p, p ∈ ([] : List (Nat × Nat)) → K p.1 ≠ 9 := fun _ h => by cases h
  have hc : ∀ (i q : Nat), i < 12 → G.2.2.1 (F p1 0) i = some q → G_12.1 q = G.1 q := fun i q hi hq => (hF_12.rule hd (bkn i q hi hq).1).trans (hF6.rule hd (bkn i q hi hq).1)
  have hq : G.2.2.1 (F p1 0) l6_12.toInt.toNat = some q22 := by rw [← r_G_12_F_p1_0]; exact hs22
  rw [hc _ q22 (by omega) hq]
  exact (bkn _ q22 (by omega) hq).2
theorem v_X2_moveRow_69_14 {K : Nat → Nat} {F : Nat → Nat → Nat} (a : Nat) (p0 : Nat) (p1 : Nat) (q22 : Nat) (G : XG) (G6 : XG) (G_12 : XG) (G63 : XG) (p2 : Int32) (p3 : Int32) (p4 : Int32) (l6_12 : Int32) (N12 : Nat) (x35 : Int32)
    (ha : K a = 4)
    (hp0 : K p0 = 8)
    (hp1 : K p1 = 2)
    (hk9999 : K (F p0 0) = 20)
    (hj9999 : F (F p0 0) 99 = F p0 99)
    (hk9999a : K (F p0 1) = 21)
    (hj9999a : F (F p0 1) 99 = F p0 99)
    (hk9999b : K (F p1 0) = 15)
    (hj9999b : F (F p1 0) 99 = 0)
    (hk22 : K q22 = 9)
    (hF6 : XFr [] [F p0 0, F p0 1] [] G G6)
    (hF_12 : XFr [] [F p0 0, F p0 1] [] G6 G_12)
    (bkn : BKr K G (G.2.2.1 (F p1 0)))
    (hac : ACo G (G.2.2.1 (F p1 0)))
    (mv : (vw (G_12.2.1 (F p0 0))) = mvR (clsA G (G.2.2.1 (F p1 0))) (clsT G (G.2.2.1 (F p1 0))) (clsC G (G.2.2.1 (F p1 0))) p2.toInt p3.toInt p4.toInt (rmv (vw (G.2.1 (F p0 0))) p2.toInt p3.toInt p4.toInt) (Int.toNat (l6_12.toInt)))
    (hs22 : G_12.2.2.1 (F p1 0) (l6_12.toInt).toNat = some q22)
    (oq63 : (vw (G63.2.1 (F p0 0))) = repl (vw (G_12.2.1 (F p0 0))) ((G.1 q22 2).toInt) ((G.1 q22 3).toInt) p3.toInt p4.toInt 30)
    (e1 : 0 ≤ p2.toInt ∧ p2.toInt < 3 ∧ 0 ≤ p3.toInt ∧ p3.toInt < 30 ∧ 0 ≤ p4.toInt ∧ p4.toInt < 30 ∧ p3.toInt ≠ p4.toInt)
    (e3 : (cel (vw (G.2.1 (F p0 0))) (p2.toInt) (p3.toInt) 0) ≠ -2000)
    (I12_0 : 0 ≤ l6_12.toInt ∧ l6_12.toInt ≤ 12)
    (I12_1 : (0 : Int) ≤ l6_12.toInt)
    (hm12 : 2147483648 - l6_12.toInt < (((N12) + 1 : Nat) : Int))
    (c16 : ¬ ((12 : Int) ≤ l6_12.toInt))
    (ht22 : 0 ≤ l6_12.toInt ∧ l6_12.toInt < 12)
    (t35 : ((((G.1 q22 0).toInt) = 1 ∧ ((G.1 q22 4).toInt) = p2.toInt ∧ ((G.1 q22 7).toInt) ≠ 0) ∧ x35.toInt = 1) ∨ (¬ (((G.1 q22 0).toInt) = 1 ∧ ((G.1 q22 4).toInt) = p2.toInt ∧ ((G.1 q22 7).toInt) ≠ 0) ∧ x35.toInt = 0))
    (c38 : ¬ (x35.toInt = 0))
    (c52 : ¬ (((G.1 q22 7).toInt) ≠ (1 : Int)))
    (r_G_12_F_p1_0 : G_12.2.2.1 (F p1 0) = G.2.2.1 (F p1 0)) :
    (vw (G63.2.1 (F p0 0))) = mvR (clsA G (G.2.2.1 (F p1 0))) (clsT G (G.2.2.1 (F p1 0))) (clsC G (G.2.2.1 (F p1 0))) p2.toInt p3.toInt p4.toInt (rmv (vw (G.2.1 (F p0 0))) p2.toInt p3.toInt p4.toInt) (Int.toNat (l6_12.toInt + 1)) := by
  have hd : ∀ p, p ∈ ([] : List (Nat × Nat)) → K p.1 ≠ 9 := fun _ h => by cases h
  have hc : ∀ (i q : Nat), i < 12 → G.2.2.1 (F p1 0) i = some q → G_12.1 q = G.1 q := fun i q hi hq => (hF_12.rule hd (bkn i q hi hq).1).trans (hF6.rule hd (bkn i q hi hq).1)
  have hq : G.2.2.1 (F p1 0) l6_12.toInt.toNat = some q22 := by rw [← r_G_12_F_p1_0]; exact hs22
  have hg : G_12.1 q22 = G.1 q22 := hc _ q22 (by omega) hq
  have as := clsA_s (G := G) (t := p2.toInt) hq
  have ac := hac _ q22 (by omega) hq
  rw [hg] at *
  have ts := clsT_s (G := G) hq ⟨by omega, by omega, by omega⟩
  rw [if_pos (by omega)] at as
  rw [mvR_s (by omega), if_pos (by omega), ts.1, ts.2, ← mv, as, oq63]
  first
    | rw [if_pos (by omega)]
    | rw [if_neg (by omega)]
theorem v_X2_moveRow_69_15 {F : Nat → Nat → Nat} (p0 : Nat) (G_12 : XG) (G63 : XG)
    (ro : RO (vw (G_12.2.1 (F p0 0))) (aI (G_12.2.1 (F p0 1))))
    (oq63a : RO (vw (G63.2.1 (F p0 0))) (aI (G63.2.1 (F p0 1)))) :
    RO (vw (G63.2.1 (F p0 0))) (aI (G63.2.1 (F p0 1))) := by
  first | exact oq63a | exact ro
theorem v_X2_moveRow_10_16 {F : Nat → Nat → Nat} (p0 : Nat) (p1 : Nat) (G : XG) (G6 : XG) (p2 : Int32) (p3 : Int32) (p4 : Int32)
    (oq6 : (vw (G6.2.1 (F p0 0))) = rmv (vw (G.2.1 (F p0 0))) (p2.toInt) (p3.toInt) (p4.toInt)) :
    (vw (G6.2.1 (F p0 0))) = mvR (clsA G (G.2.2.1 (F p1 0))) (clsT G (G.2.2.1 (F p1 0))) (clsC G (G.2.2.1 (F p1 0))) p2.toInt p3.toInt p4.toInt (rmv (vw (G.2.1 (F p0 0))) p2.toInt p3.toInt p4.toInt) (Int.toNat (0 : Int)) := by
  rw [oq6]; rfl
theorem v_X2_moveRow_10_17 {F : Nat → Nat → Nat} (p0 : Nat) (G6 : XG)
    (oq6a : RO (vw (G6.2.1 (F p0 0))) (aI (G6.2.1 (F p0 1)))) :
    RO (vw (G6.2.1 (F p0 0))) (aI (G6.2.1 (F p0 1))) := by
  exact oq6a
