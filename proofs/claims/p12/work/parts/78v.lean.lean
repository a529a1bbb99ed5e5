theorem v_X3_clear_25_1 {K : Nat → Nat} {F : Nat → Nat → Nat} (a : Nat) (G_7 : XG) (l1_7 : Int32) (N7 : Nat)
    (ha : K a = 5)
    (pz : ∀ t : Int, 0 ≤ t → t < l1_7.toInt → aI (G_7.2.1 (F a 0)) t = 0)
    (I7_0 : 0 ≤ l1_7.toInt ∧ l1_7.toInt ≤ 3)
    (I7_1 : (0 : Int) ≤ l1_7.toInt)
    (hm7 : 2147483648 - l1_7.toInt < (((N7) + 1 : Nat) : Int))
    (c9 : (3 : Int) ≤ l1_7.toInt) :
    ∀ t : Int, 0 ≤ t → t < 3 → aI (G_7.2.1 (F a 0)) t = 0 := by
  intro t h1 h2
  exact pz t h1 (by omega)
theorem v_X3_clear_22_2 {K : Nat → Nat} {F : Nat → Nat → Nat} (a : Nat) (G_7 : XG) (G18 : XG) (l1_7 : Int32) (N7 : Nat)
    (ha : K a = 5)
    (hG18 : G18 = cput G_7 (F a 0) l1_7.toNatClampNeg 0)
    (pz : ∀ t : Int, 0 ≤ t → t < l1_7.toInt → aI (G_7.2.1 (F a 0)) t = 0)
    (I7_0 : 0 ≤ l1_7.toInt ∧ l1_7.toInt ≤ 3)
    (I7_1 : (0 : Int) ≤ l1_7.toInt)
    (hm7 : 2147483648 - l1_7.toInt < (((N7) + 1 : Nat) : Int))
    (c9 : ¬ ((3 : Int) ≤ l1_7.toInt)) :
    ∀ t : Int, 0 ≤ t → t < (l1_7.toInt + 1) → aI (G18.2.1 (F a 0)) t = 0 := by
  intro t h1 h2
  rw [hG18, aI_put (by omega) _ h1]
  by_cases e : t = l1_7.toInt
  · rw [if_pos e]; decide
  · rw [if_neg e]; exact pz t h1 (by omega)
theorem v_X3_clear_6_3 {K : Nat → Nat} {F : Nat → Nat → Nat} (a : Nat) (G2 : XG)
    (ha : K a = 5) :
    ∀ t : Int, 0 ≤ t → t < (0 : Int) → aI (G2.2.1 (F a 0)) t = 0 := by
  intro t h1 h2
  exact absurd h1 (by omega)
theorem v_X3_reach_27_1 {K : Nat → Nat} {F : Nat → Nat → Nat} (a : Nat) (G : XG) (x1 : Int32) (p0 : Int32) (p1 : Int32)
    (ha : K a = 5)
    (li : LIv (aI (G.2.1 (F a 0))) (aI (G.2.1 (F a 1))) (aI (G.2.1 (F a 2))) ((G.1 a 3).toInt))
    (t1 : (x1.toInt = 1 ∧ 0 ≤ p0.toInt ∧ p0.toInt < 3) ∨ (x1.toInt = 0 ∧ (p0.toInt < 0 ∨ 3 ≤ p0.toInt)))
    (c4 : x1.toInt = 0) :
    LGo (aI (G.2.1 (F a 0))) (aI (G.2.1 (F a 1))) (aI (G.2.1 (F a 2))) ((G.1 a 3).toInt) (aI (G.2.1 (F a 0))) (aI (G.2.1 (F a 1))) (aI (G.2.1 (F a 2))) ((G.1 a 3).toInt) (fun u9 k9 => u9 = p0.toInt ∧ k9 = p1.toInt) := by
  refine LGo_same li (fun u9 k9 h1 h2 => ?_)
  obtain ⟨h2, h3⟩ := h2
  unfold inR at h1
  first
    | (exfalso; omega)
    | (rw [h2, h3]; omega)
theorem v_X3_reach_27_2 {K : Nat → Nat} {F : Nat → Nat → Nat} (a : Nat) (G : XG) (x1 : Int32) (p0 : Int32) (x8 : Int32) (p1 : Int32)
    (ha : K a = 5)
    (li : LIv (aI (G.2.1 (F a 0))) (aI (G.2.1 (F a 1))) (aI (G.2.1 (F a 2))) ((G.1 a 3).toInt))
    (t1 : (x1.toInt = 1 ∧ 0 ≤ p0.toInt ∧ p0.toInt < 3) ∨ (x1.toInt = 0 ∧ (p0.toInt < 0 ∨ 3 ≤ p0.toInt)))
    (c4 : ¬ (x1.toInt = 0))
    (t8 : (x8.toInt = 1 ∧ 0 ≤ p1.toInt ∧ p1.toInt < 30) ∨ (x8.toInt = 0 ∧ (p1.toInt < 0 ∨ 30 ≤ p1.toInt)))
    (c11 : x8.toInt = 0) :
    LGo (aI (G.2.1 (F a 0))) (aI (G.2.1 (F a 1))) (aI (G.2.1 (F a 2))) ((G.1 a 3).toInt) (aI (G.2.1 (F a 0))) (aI (G.2.1 (F a 1))) (aI (G.2.1 (F a 2))) ((G.1 a 3).toInt) (fun u9 k9 => u9 = p0.toInt ∧ k9 = p1.toInt) := by
  refine LGo_same li (fun u9 k9 h1 h2 => ?_)
  obtain ⟨h2, h3⟩ := h2
  unfold inR at h1
  first
    | (exfalso; omega)
    | (rw [h2, h3]; omega)
theorem v_X3_reach_86_3 {K : Nat → Nat} {F : Nat → Nat → Nat} (a : Nat) (G : XG) (x19 : Int32) (p0 : Int32) (x21 : Int32) (p1 : Int32) (x23 : Int32) (x1 : Int32) (x8 : Int32)
    (ha : K a = 5)
    (li : LIv (aI (G.2.1 (F a 0))) (aI (G.2.1 (F a 1))) (aI (G.2.1 (F a 2))) ((G.1 a 3).toInt))
    (hv19 : x19.toInt = (aI (G.2.1 (F a 0)) (p0.toInt)))
    (he21 : x21 = (x19 : Int32) >>> (p1 &&& 31))
    (he23 : x23 = x21 &&& 1)
    (t1 : (x1.toInt = 1 ∧ 0 ≤ p0.toInt ∧ p0.toInt < 3) ∨ (x1.toInt = 0 ∧ (p0.toInt < 0 ∨ 3 ≤ p0.toInt)))
    (c4 : ¬ (x1.toInt = 0))
    (t8 : (x8.toInt = 1 ∧ 0 ≤ p1.toInt ∧ p1.toInt < 30) ∨ (x8.toInt = 0 ∧ (p1.toInt < 0 ∨ 30 ≤ p1.toInt)))
    (c11 : ¬ (x8.toInt = 0))
    (hb23 : x23.toInt = (bI (aI (G.2.1 (F a 0)) (p0.toInt)) (p1.toInt)))
    (hb23a : x23.toInt = 0 ∨ x23.toInt = 1)
    (c24 : x23.toInt = 0)
    (c32 : ((G.1 a 3).toInt) < 0) :
    LGo (aI (G.2.1 (F a 0))) (aI (G.2.1 (F a 1))) (aI (G.2.1 (F a 2))) ((G.1 a 3).toInt) (aI (G.2.1 (F a 0))) (aI (G.2.1 (F a 1))) (aI (G.2.1 (F a 2))) ((G.1 a 3).toInt) (fun u9 k9 => u9 = p0.toInt ∧ k9 = p1.toInt) := by
  have hb := li.b
  first
    | (exfalso; omega)
    | (have hin : inR p0.toInt p1.toInt := ⟨by omega, by omega⟩
       have h0 : bI (aI (G.2.1 (F a 0)) p0.toInt) p1.toInt = 0 := by omega
       have hl := li.lt hin h0
       first
         | (exfalso; omega)
         | (refine LGo_add li hin h0 ?_ ?_ ?_ ?_ ?_
            · rw [d_G83_a_3]; omega
            · intro t t0 ht
              rw [c_G83_F_a_0, hG55, aI_put (by omega) _ t0, if_neg ht]
            · intro j j0 j1
              rw [c_G83_F_a_0, hG55, aI_put (by omega) _ (by omega), if_pos rfl]
              exact bI_set he53 he54 hv50 rfl (by omega) j j0 j1
            · intro z z0
              rw [c_G83_F_a_1, hG65, aI_put (by omega) _ z0, c_G55_F_a_1]
            · intro z z0
              rw [c_G83_F_a_2, hG75, aI_put (by omega) _ z0, c_G65_F_a_2]))
theorem v_X3_reach_86_4 {K : Nat → Nat} {F : Nat → Nat → Nat} (a : Nat) (G : XG) (x19 : Int32) (p0 : Int32) (x21 : Int32) (p1 : Int32) (x23 : Int32) (x1 : Int32) (x8 : Int32)
    (ha : K a = 5)
    (li : LIv (aI (G.2.1 (F a 0))) (aI (G.2.1 (F a 1))) (aI (G.2.1 (F a 2))) ((G.1 a 3).toInt))
    (hv19 : x19.toInt = (aI (G.2.1 (F a 0)) (p0.toInt)))
    (he21 : x21 = (x19 : Int32) >>> (p1 &&& 31))
    (he23 : x23 = x21 &&& 1)
    (t1 : (x1.toInt = 1 ∧ 0 ≤ p0.toInt ∧ p0.toInt < 3) ∨ (x1.toInt = 0 ∧ (p0.toInt < 0 ∨ 3 ≤ p0.toInt)))
    (c4 : ¬ (x1.toInt = 0))
    (t8 : (x8.toInt = 1 ∧ 0 ≤ p1.toInt ∧ p1.toInt < 30) ∨ (x8.toInt = 0 ∧ (p1.toInt < 0 ∨ 30 ≤ p1.toInt)))
    (c11 : ¬ (x8.toInt = 0))
    (hb23 : x23.toInt = (bI (aI (G.2.1 (F a 0)) (p0.toInt)) (p1.toInt)))
    (hb23a : x23.toInt = 0 ∨ x23.toInt = 1)
    (c24 : x23.toInt = 0)
    (c32 : ¬ (((G.1 a 3).toInt) < 0))
    (c41 : (90 : Int) ≤ ((G.1 a 3).toInt)) :
    LGo (aI (G.2.1 (F a 0))) (aI (G.2.1 (F a 1))) (aI (G.2.1 (F a 2))) ((G.1 a 3).toInt) (aI (G.2.1 (F a 0))) (aI (G.2.1 (F a 1))) (aI (G.2.1 (F a 2))) ((G.1 a 3).toInt) (fun u9 k9 => u9 = p0.toInt ∧ k9 = p1.toInt) := by
  have hb := li.b
  first
    | (exfalso; omega)
    | (have hin : inR p0.toInt p1.toInt := ⟨by omega, by omega⟩
       have h0 : bI (aI (G.2.1 (F a 0)) p0.toInt) p1.toInt = 0 := by omega
       have hl := li.lt hin h0
       first
         | (exfalso; omega)
         | (refine LGo_add li hin h0 ?_ ?_ ?_ ?_ ?_
            · rw [d_G83_a_3]; omega
            · intro t t0 ht
              rw [c_G83_F_a_0, hG55, aI_put (by omega) _ t0, if_neg ht]
            · intro j j0 j1
              rw [c_G83_F_a_0, hG55, aI_put (by omega) _ (by omega), if_pos rfl]
              exact bI_set he53 he54 hv50 rfl (by omega) j j0 j1
            · intro z z0
              rw [c_G83_F_a_1, hG65, aI_put (by omega) _ z0, c_G55_F_a_1]
            · intro z z0
              rw [c_G83_F_a_2, hG75, aI_put (by omega) _ z0, c_G65_F_a_2]))
theorem v_X3_reach_86_5 {K : Nat → Nat} {F : Nat → Nat → Nat} (a : Nat) (G55 : XG) (G : XG) (p0 : Int32) (x54 : Int32) (G65 : XG) (G75 : XG) (p1 : Int32) (G83 : XG) (x82 : Int32) (x19 : Int32) (x21 : Int32) (x23 : Int32) (x50 : Int32) (x53 : Int32) (x1 : Int32) (x8 : Int32)
    (ha : K a = 5)
    (hG55 : G55 = cput G (F a 0) p0.toNatClampNeg x54)
    (hG65 : G65 = cput G55 (F a 1) (G.1 a 3).toNatClampNeg p0)
    (hG75 : G75 = cput G65 (F a 2) (G.1 a 3).toNatClampNeg p1)
    (li : LIv (aI (G.2.1 (F a 0))) (aI (G.2.1 (F a 1))) (aI (G.2.1 (F a 2))) ((G.1 a 3).toInt))
    (hv19 : x19.toInt = (aI (G.2.1 (F a 0)) (p0.toInt)))
    (he21 : x21 = (x19 : Int32) >>> (p1 &&& 31))
    (he23 : x23 = x21 &&& 1)
    (hv50 : x50.toInt = (aI (G.2.1 (F a 0)) (p0.toInt)))
    (he53 : x53 = (1 : Int32) <<< (p1 &&& 31))
    (he54 : x54 = x50 ||| x53)
    (e82 : x82.toInt = (((G.1 a 3).toInt) + (1 : Int)))
    (t1 : (x1.toInt = 1 ∧ 0 ≤ p0.toInt ∧ p0.toInt < 3) ∨ (x1.toInt = 0 ∧ (p0.toInt < 0 ∨ 3 ≤ p0.toInt)))
    (c4 : ¬ (x1.toInt = 0))
    (t8 : (x8.toInt = 1 ∧ 0 ≤ p1.toInt ∧ p1.toInt < 30) ∨ (x8.toInt = 0 ∧ (p1.toInt < 0 ∨ 30 ≤ p1.toInt)))
    (c11 : ¬ (x8.toInt = 0))
    (hb23 : x23.toInt = (bI (aI (G.2.1 (F a 0)) (p0.toInt)) (p1.toInt)))
    (hb23a : x23.toInt = 0 ∨ x23.toInt = 1)
    (c24 : x23.toInt = 0)
    (c32 : ¬ (((G.1 a 3).toInt) < 0))
    (c41 : ¬ ((90 : Int) ≤ ((G.1 a 3).toInt)))
    (c_G55_F_a_1 : G55.2.1 (F a 1) = G.2.1 (F a 1))
    (c_G65_F_a_2 : G65.2.1 (F a 2) = G.2.1 (F a 2))
    (c_G83_F_a_0 : G83.2.1 (F a 0) = G55.2.1 (F a 0))
    (c_G83_F_a_1 : G83.2.1 (F a 1) = G65.2.1 (F a 1))
    (c_G83_F_a_2 : G83.2.1 (F a 2) = G75.2.1 (F a 2))
    (d_G83_a_3 : G83.1 a 3 = x82) :
    LGo (aI (G.2.1 (F a 0))) (aI (G.2.1 (F a 1))) (aI (G.2.1 (F a 2))) ((G.1 a 3).toInt) (aI (G83.2.1 (F a 0))) (aI (G83.2.1 (F a 1))) (aI (G83.2.1 (F a 2))) ((G83.1 a 3).toInt) (fun u9 k9 => u9 = p0.toInt ∧ k9 = p1.toInt) := by
  have hb := li.b
  first
    | (exfalso; omega)
    | (have hin : inR p0.toInt p1.toInt := ⟨by omega, by omega⟩
       have h0 : bI (aI (G.2.1 (F a 0)) p0.toInt) p1.toInt = 0 := by omega
       have hl := li.lt hin h0
       first
         | (exfalso; omega)
         | (refine LGo_add li hin h0 ?_ ?_ ?_ ?_ ?_
            · rw [d_G83_a_3]; omega
            · intro t t0 ht
              rw [c_G83_F_a_0, hG55, aI_put (by omega) _ t0, if_neg ht]
            · intro j j0 j1
              rw [c_G83_F_a_0, hG55, aI_put (by omega) _ (by omega), if_pos rfl]
              exact bI_set he53 he54 hv50 rfl (by omega) j j0 j1
            · intro z z0
              rw [c_G83_F_a_1, hG65, aI_put (by omega) _ z0, c_G55_F_a_1]
            · intro z z0
              rw [c_G83_F_a_2, hG75, aI_put (by omega) _ z0, c_G65_F_a_2]))
theorem v_X3_reach_27_6 {K : Nat → Nat} {F : Nat → Nat → Nat} (a : Nat) (G : XG) (x19 : Int32) (p0 : Int32) (x21 : Int32) (p1 : Int32) (x23 : Int32) (x1 : Int32) (x8 : Int32)
    (ha : K a = 5)
    (li : LIv (aI (G.2.1 (F a 0))) (aI (G.2.1 (F a 1))) (aI (G.2.1 (F a 2))) ((G.1 a 3).toInt))
    (hv19 : x19.toInt = (aI (G.2.1 (F a 0)) (p0.toInt)))
    (he21 : x21 = (x19 : Int32) >>> (p1 &&& 31))
    (he23 : x23 = x21 &&& 1)
    (t1 : (x1.toInt = 1 ∧ 0 ≤ p0.toInt ∧ p0.toInt < 3) ∨ (x1.toInt = 0 ∧ (p0.toInt < 0 ∨ 3 ≤ p0.toInt)))
    (c4 : ¬ (x1.toInt = 0))
    (t8 : (x8.toInt = 1 ∧ 0 ≤ p1.toInt ∧ p1.toInt < 30) ∨ (x8.toInt = 0 ∧ (p1.toInt < 0 ∨ 30 ≤ p1.toInt)))
    (c11 : ¬ (x8.toInt = 0))
    (hb23 : x23.toInt = (bI (aI (G.2.1 (F a 0)) (p0.toInt)) (p1.toInt)))
    (hb23a : x23.toInt = 0 ∨ x23.toInt = 1)
    (c24 : ¬ (x23.toInt = 0)) :
    LGo (aI (G.2.1 (F a 0))) (aI (G.2.1 (F a 1))) (aI (G.2.1 (F a 2))) ((G.1 a 3).toInt) (aI (G.2.1 (F a 0))) (aI (G.2.1 (F a 1))) (aI (G.2.1 (F a 2))) ((G.1 a 3).toInt) (fun u9 k9 => u9 = p0.toInt ∧ k9 = p1.toInt) := by
  refine LGo_same li (fun u9 k9 h1 h2 => ?_)
  obtain ⟨h2, h3⟩ := h2
  unfold inR at h1
  first
    | (exfalso; omega)
    | (rw [h2, h3]; omega)
theorem v_X3_reachFrom_100_1 {K : Nat → Nat} {F : Nat → Nat → Nat} (a : Nat) (p0 : Nat) (p1 : Nat) (G : XG) (G_3 : XG) (l5_3 : Int32) (p2 : Int32) (p3 : Int32) (N3 : Nat)
    (ha : K a = 5)
    (hp0 : K p0 = 8)
    (hp1 : K p1 = 2)
    (li : LIv (aI (G.2.1 (F a 0))) (aI (G.2.1 (F a 1))) (aI (G.2.1 (F a 2))) ((G.1 a 3).toInt))
    (pl : LGo (aI (G.2.1 (F a 0))) (aI (G.2.1 (F a 1))) (aI (G.2.1 (F a 2))) ((G.1 a 3).toInt) (aI (G_3.2.1 (F a 0))) (aI (G_3.2.1 (F a 1))) (aI (G_3.2.1 (F a 2))) ((G_3.1 a 3).toInt) (fun u9 k9 => lnC G (G.2.2.1 (F p1 1)) (vw (G.2.1 (F p0 0))) l5_3.toInt u9 k9 p2.toInt p3.toInt))
    (sb : 0 ≤ ((G.1 p1 2).toInt) ∧ ((G.1 p1 2).toInt) ≤ 12)
    (I3_0 : 0 ≤ l5_3.toInt ∧ l5_3.toInt ≤ ((G.1 p1 2).toInt))
    (hm3 : 2147483648 - l5_3.toInt < (((N3) + 1 : Nat) : Int))
    (c9 : ((G.1 p1 2).toInt) ≤ l5_3.toInt) :
    LGo (aI (G.2.1 (F a 0))) (aI (G.2.1 (F a 1))) (aI (G.2.1 (F a 2))) ((G.1 a 3).toInt) (aI (G_3.2.1 (F a 0))) (aI (G_3.2.1 (F a 1))) (aI (G_3.2.1 (F a 2))) ((G_3.1 a 3).toInt) (fun u9 k9 => lnC G (G.2.2.1 (F p1 1)) (vw (G.2.1 (F p0 0))) ((G.1 p1 2).toInt) u9 k9 p2.toInt p3.toInt) := by
  exact pl.cg (fun u9 k9 _ => by rw [show l5_3.toInt = (G.1 p1 2).toInt from by omega])
theorem v_X3_reachFrom_97_2 {K : Nat → Nat} {F : Nat → Nat → Nat} (a : Nat) (p0 : Nat) (p1 : Nat) (G : XG) (G_3 : XG) (l5_3 : Int32) (p2 : Int32) (p3 : Int32) (N3 : Nat)
    (ha : K a = 5)
    (hp0 : K p0 = 8)
    (hp1 : K p1 = 2)
    (li : LIv (aI (G.2.1 (F a 0))) (aI (G.2.1 (F a 1))) (aI (G.2.1 (F a 2))) ((G.1 a 3).toInt))
    (pl : LGo (aI (G.2.1 (F a 0))) (aI (G.2.1 (F a 1))) (aI (G.2.1 (F a 2))) ((G.1 a 3).toInt) (aI (G_3.2.1 (F a 0))) (aI (G_3.2.1 (F a 1))) (aI (G_3.2.1 (F a 2))) ((G_3.1 a 3).toInt) (fun u9 k9 => lnC G (G.2.2.1 (F p1 1)) (vw (G.2.1 (F p0 0))) l5_3.toInt u9 k9 p2.toInt p3.toInt))
    (hn15 : (l5_3.toInt < 0 ∨ ((G_3.1 p1 2).toInt) ≤ l5_3.toInt ∨ 12 ≤ l5_3.toInt) ∨ G_3.2.2.1 (F p1 1) (l5_3.toInt).toNat = none)
    (sb : 0 ≤ ((G.1 p1 2).toInt) ∧ ((G.1 p1 2).toInt) ≤ 12)
    (I3_0 : 0 ≤ l5_3.toInt ∧ l5_3.toInt ≤ ((G.1 p1 2).toInt))
    (hm3 : 2147483648 - l5_3.toInt < (((N3) + 1 : Nat) : Int))
    (c9 : ¬ (((G.1 p1 2).toInt) ≤ l5_3.toInt))
    (r_G_3_F_p1_1 : G_3.2.2.1 (F p1 1) = G.2.2.1 (F p1 1))
    (d_G_3_p1_2 : G_3.1 p1 2 = G.1 p1 2) :
    LGo (aI (G.2.1 (F a 0))) (aI (G.2.1 (F a 1))) (aI (G.2.1 (F a 2))) ((G.1 a 3).toInt) (aI (G_3.2.1 (F a 0))) (aI (G_3.2.1 (F a 1))) (aI (G_3.2.1 (F a 2))) ((G_3.1 a 3).toInt) (fun u9 k9 => lnC G (G.2.2.1 (F p1 1)) (vw (G.2.1 (F p0 0))) (l5_3.toInt + 1) u9 k9 p2.toInt p3.toInt) := by
  first
    | (refine pl.cg (fun u9 k9 _ => (lnC_s (by omega)).trans ⟨fun h => h.elim id (fun h9 => ?_), Or.inl⟩)
       obtain ⟨q9, e1, -⟩ := h9
       rcases hn15 with h | h
       · rw [d_G_3_p1_2] at h; exfalso; omega
       · rw [r_G_3_F_p1_1] at h
         rw [h] at e1
         cases e1)
    | (refine pl.cg (fun u9 k9 _ => (lnC_s (by omega)).trans ⟨fun h => h.elim id (fun h9 => ?_), Or.inl⟩)
       obtain ⟨q9, e1, e2, e3, -⟩ := h9
       rw [r_G_3_F_p1_1] at hs15
       rw [hs15] at e1
       cases e1
       exfalso; omega)
    | (refine pl.tr pk (fun u9 k9 hi => (lnC_s (by omega)).trans ⟨fun h => h.imp id (fun h9 => ?_), fun h => h.imp id (fun h9 => ?_)⟩)
       · obtain ⟨q9, e1, e2, e3, e4, e5⟩ := h9
         rw [r_G_3_F_p1_1] at hs15
         rw [hs15] at e1
         cases e1
         exact ⟨e4.symm, by have := hi.2; omega, e5⟩
       · obtain ⟨e4, -, e5⟩ := h9
         exact ⟨q15, by rw [← r_G_3_F_p1_1]; exact hs15, by omega, by omega, e4.symm, e5⟩)
theorem v_X3_reachFrom_97_3 {K : Nat → Nat} {F : Nat → Nat → Nat} (a : Nat) (p0 : Nat) (p1 : Nat) (q15 : Nat) (G : XG) (G_3 : XG) (l5_3 : Int32) (p2 : Int32) (p3 : Int32) (N3 : Nat)
    (ha : K a = 5)
    (hp0 : K p0 = 8)
    (hp1 : K p1 = 2)
    (li : LIv (aI (G.2.1 (F a 0))) (aI (G.2.1 (F a 1))) (aI (G.2.1 (F a 2))) ((G.1 a 3).toInt))
    (pl : LGo (aI (G.2.1 (F a 0))) (aI (G.2.1 (F a 1))) (aI (G.2.1 (F a 2))) ((G.1 a 3).toInt) (aI (G_3.2.1 (F a 0))) (aI (G_3.2.1 (F a 1))) (aI (G_3.2.1 (F a 2))) ((G_3.1 a 3).toInt) (fun u9 k9 => lnC G (G.2.2.1 (F p1 1)) (vw (G.2.1 (F p0 0))) l5_3.toInt u9 k9 p2.toInt p3.toInt))
    (hs15 : G_3.2.2.1 (F p1 1) (l5_3.toInt).toNat = some q15)
    (sb : 0 ≤ ((G.1 p1 2).toInt) ∧ ((G.1 p1 2).toInt) ≤ 12)
    (I3_0 : 0 ≤ l5_3.toInt ∧ l5_3.toInt ≤ ((G.1 p1 2).toInt))
    (hm3 : 2147483648 - l5_3.toInt < (((N3) + 1 : Nat) : Int))
    (c9 : ¬ (((G.1 p1 2).toInt) ≤ l5_3.toInt))
    (ht15 : 0 ≤ l5_3.toInt ∧ l5_3.toInt < ((G.1 p1 2).toInt) ∧ l5_3.toInt < 12)
    (c31 : ((G.1 q15 0).toInt) ≠ (1 : Int))
    (r_G_3_F_p1_1 : G_3.2.2.1 (F p1 1) = G.2.2.1 (F p1 1))
    (d_G_3_p1_2 : G_3.1 p1 2 = G.1 p1 2) :
    LGo (aI (G.2.1 (F a 0))) (aI (G.2.1 (F a 1))) (aI (G.2.1 (F a 2))) ((G.1 a 3).toInt) (aI (G_3.2.1 (F a 0))) (aI (G_3.2.1 (F a 1))) (aI (G_3.2.1 (F a 2))) ((G_3.1 a 3).toInt) (fun u9 k9 => lnC G (G.2.2.1 (F p1 1)) (vw (G.2.1 (F p0 0))) (l5_3.toInt + 1) u9 k9 p2.toInt p3.toInt) := by
  first
    | (refine pl.cg (fun u9 k9 _ => (lnC_s (by omega)).trans ⟨fun h => h.elim id (fun h9 => ?_), Or.inl⟩)
       obtain ⟨q9, e1, -⟩ := h9
       rcases hn15 with h | h
       · rw [d_G_3_p1_2] at h; exfalso; omega
       · rw [r_G_3_F_p1_1] at h
         rw [h] at e1
         cases e1)
    | (refine pl.cg (fun u9 k9 _ => (lnC_s (by omega)).trans ⟨fun h => h.elim id (fun h9 => ?_), Or.inl⟩)
       obtain ⟨q9, e1, e2, e3, -⟩ := h9
       rw [r_G_3_F_p1_1] at hs15
       rw [hs15] at e1
       cases e1
       exfalso; omega)
    | (refine pl.tr pk (fun u9 k9 hi => (lnC_s (by omega)).trans ⟨fun h => h.imp id (fun h9 => ?_), fun h => h.imp id (fun h9 => ?_)⟩)
       · obtain ⟨q9, e1, e2, e3, e4, e5⟩ := h9
         rw [r_G_3_F_p1_1] at hs15
         rw [hs15] at e1
         cases e1
         exact ⟨e4.symm, by have := hi.2; omega, e5⟩
       · obtain ⟨e4, -, e5⟩ := h9
         exact ⟨q15, by rw [← r_G_3_F_p1_1]; exact hs15, by omega, by omega, e4.symm, e5⟩)
theorem v_X3_reachFrom_97_4 {K : Nat → Nat} {F : Nat → Nat → Nat} (a : Nat) (p0 : Nat) (p1 : Nat) (q15 : Nat) (G : XG) (G_3 : XG) (G_49 : XG) (l5_3 : Int32) (p2 : Int32) (p3 : Int32) (l7_49 : Int32) (N3 : Nat) (N49 : Nat)
    (ha : K a = 5)
    (hp0 : K p0 = 8)
    (hp1 : K p1 = 2)
    (li : LIv (aI (G.2.1 (F a 0))) (aI (G.2.1 (F a 1))) (aI (G.2.1 (F a 2))) ((G.1 a 3).toInt))
    (pl : LGo (aI (G.2.1 (F a 0))) (aI (G.2.1 (F a 1))) (aI (G.2.1 (F a 2))) ((G.1 a 3).toInt) (aI (G_3.2.1 (F a 0))) (aI (G_3.2.1 (F a 1))) (aI (G_3.2.1 (F a 2))) ((G_3.1 a 3).toInt) (fun u9 k9 => lnC G (G.2.2.1 (F p1 1)) (vw (G.2.1 (F p0 0))) l5_3.toInt u9 k9 p2.toInt p3.toInt))
    (hs15 : G_3.2.2.1 (F p1 1) (l5_3.toInt).toNat = some q15)
    (pk : LGo (aI (G_3.2.1 (F a 0))) (aI (G_3.2.1 (F a 1))) (aI (G_3.2.1 (F a 2))) ((G_3.1 a 3).toInt) (aI (G_49.2.1 (F a 0))) (aI (G_49.2.1 (F a 1))) (aI (G_49.2.1 (F a 2))) ((G_49.1 a 3).toInt) (fun u9 k9 => u9 = ((G.1 q15 2).toInt) ∧ k9 < l7_49.toInt ∧ cel (vw (G.2.1 (F p0 0))) u9 k9 ((G.1 q15 3).toInt) = p3.toInt))
    (sb : 0 ≤ ((G.1 p1 2).toInt) ∧ ((G.1 p1 2).toInt) ≤ 12)
    (I3_0 : 0 ≤ l5_3.toInt ∧ l5_3.toInt ≤ ((G.1 p1 2).toInt))
    (hm3 : 2147483648 - l5_3.toInt < (((N3) + 1 : Nat) : Int))
    (c9 : ¬ (((G.1 p1 2).toInt) ≤ l5_3.toInt))
    (ht15 : 0 ≤ l5_3.toInt ∧ l5_3.toInt < ((G.1 p1 2).toInt) ∧ l5_3.toInt < 12)
    (c31 : ¬ (((G.1 q15 0).toInt) ≠ (1 : Int)))
    (c40 : ((G.1 q15 4).toInt) = p2.toInt)
    (I49_0 : 0 ≤ l7_49.toInt ∧ l7_49.toInt ≤ 30)
    (I49_1 : (0 : Int) ≤ l7_49.toInt)
    (hm49 : 2147483648 - l7_49.toInt < (((N49) + 1 : Nat) : Int))
    (c53 : (30 : Int) ≤ l7_49.toInt)
    (r_G_3_F_p1_1 : G_3.2.2.1 (F p1 1) = G.2.2.1 (F p1 1))
    (d_G_3_p1_2 : G_3.1 p1 2 = G.1 p1 2) :
    LGo (aI (G.2.1 (F a 0))) (aI (G.2.1 (F a 1))) (aI (G.2.1 (F a 2))) ((G.1 a 3).toInt) (aI (G_49.2.1 (F a 0))) (aI (G_49.2.1 (F a 1))) (aI (G_49.2.1 (F a 2))) ((G_49.1 a 3).toInt) (fun u9 k9 => lnC G (G.2.2.1 (F p1 1)) (vw (G.2.1 (F p0 0))) (l5_3.toInt + 1) u9 k9 p2.toInt p3.toInt) := by
  first
    | (refine pl.cg (fun u9 k9 _ => (lnC_s (by omega)).trans ⟨fun h => h.elim id (fun h9 => ?_), Or.inl⟩)
       obtain ⟨q9, e1, -⟩ := h9
       rcases hn15 with h | h
       · rw [d_G_3_p1_2] at h; exfalso; omega
       · rw [r_G_3_F_p1_1] at h
         rw [h] at e1
         cases e1)
    | (refine pl.cg (fun u9 k9 _ => (lnC_s (by omega)).trans ⟨fun h => h.elim id (fun h9 => ?_), Or.inl⟩)
       obtain ⟨q9, e1, e2, e3, -⟩ := h9
       rw [r_G_3_F_p1_1] at hs15
       rw [hs15] at e1
       cases e1
       exfalso; omega)
    | (refine pl.tr pk (fun u9 k9 hi => (lnC_s (by omega)).trans ⟨fun h => h.imp id (fun h9 => ?_), fun h => h.imp id (fun h9 => ?_)⟩)
       · obtain ⟨q9, e1, e2, e3, e4, e5⟩ := h9
         rw [r_G_3_F_p1_1] at hs15
         rw [hs15] at e1
         cases e1
         exact ⟨e4.symm, by have := hi.2; omega, e5⟩
       · obtain ⟨e4, -, e5⟩ := h9
         exact ⟨q15, by rw [← r_G_3_F_p1_1]; exact hs15, by omega, by omega, e4.symm, e5⟩)
theorem v_X3_reachFrom_91_5 {K : Nat → Nat} {F : Nat → Nat → Nat} (a : Nat) (p0 : Nat) (p1 : Nat) (q15 : Nat) (G : XG) (G_3 : XG) (G_49 : XG) (l5_3 : Int32) (p2 : Int32) (p3 : Int32) (l7_49 : Int32) (N3 : Nat) (N49 : Nat)
    (ha : K a = 5)
    (hp0 : K p0 = 8)
    (hp1 : K p1 = 2)
    (li : LIv (aI (G.2.1 (F a 0))) (aI (G.2.1 (F a 1))) (aI (G.2.1 (F a 2))) ((G.1 a 3).toInt))
    (pl : LGo (aI (G.2.1 (F a 0))) (aI (G.2.1 (F a 1))) (aI (G.2.1 (F a 2))) ((G.1 a 3).toInt) (aI (G_3.2.1 (F a 0))) (aI (G_3.2.1 (F a 1))) (aI (G_3.2.1 (F a 2))) ((G_3.1 a 3).toInt) (fun u9 k9 => lnC G (G.2.2.1 (F p1 1)) (vw (G.2.1 (F p0 0))) l5_3.toInt u9 k9 p2.toInt p3.toInt))
    (hs15 : G_3.2.2.1 (F p1 1) (l5_3.toInt).toNat = some q15)
    (pk : LGo (aI (G_3.2.1 (F a 0))) (aI (G_3.2.1 (F a 1))) (aI (G_3.2.1 (F a 2))) ((G_3.1 a 3).toInt) (aI (G_49.2.1 (F a 0))) (aI (G_49.2.1 (F a 1))) (aI (G_49.2.1 (F a 2))) ((G_49.1 a 3).toInt) (fun u9 k9 => u9 = ((G.1 q15 2).toInt) ∧ k9 < l7_49.toInt ∧ cel (vw (G.2.1 (F p0 0))) u9 k9 ((G.1 q15 3).toInt) = p3.toInt))
    (sb : 0 ≤ ((G.1 p1 2).toInt) ∧ ((G.1 p1 2).toInt) ≤ 12)
    (I3_0 : 0 ≤ l5_3.toInt ∧ l5_3.toInt ≤ ((G.1 p1 2).toInt))
    (hm3 : 2147483648 - l5_3.toInt < (((N3) + 1 : Nat) : Int))
    (c9 : ¬ (((G.1 p1 2).toInt) ≤ l5_3.toInt))
    (ht15 : 0 ≤ l5_3.toInt ∧ l5_3.toInt < ((G.1 p1 2).toInt) ∧ l5_3.toInt < 12)
    (c31 : ¬ (((G.1 q15 0).toInt) ≠ (1 : Int)))
    (c40 : ((G.1 q15 4).toInt) = p2.toInt)
    (I49_0 : 0 ≤ l7_49.toInt ∧ l7_49.toInt ≤ 30)
    (I49_1 : (0 : Int) ≤ l7_49.toInt)
    (hm49 : 2147483648 - l7_49.toInt < (((N49) + 1 : Nat) : Int))
    (c53 : ¬ ((30 : Int) ≤ l7_49.toInt))
    (c74 : (cel (vw (G.2.1 (F p0 0))) ((G.1 q15 2).toInt) (l7_49.toInt) ((G.1 q15 3).toInt)) ≠ p3.toInt) :
    LGo (aI (G_3.2.1 (F a 0))) (aI (G_3.2.1 (F a 1))) (aI (G_3.2.1 (F a 2))) ((G_3.1 a 3).toInt) (aI (G_49.2.1 (F a 0))) (aI (G_49.2.1 (F a 1))) (aI (G_49.2.1 (F a 2))) ((G_49.1 a 3).toInt) (fun u9 k9 => u9 = ((G.1 q15 2).toInt) ∧ k9 < (l7_49.toInt + 1) ∧ cel (vw (G.2.1 (F p0 0))) u9 k9 ((G.1 q15 3).toInt) = p3.toInt) := by
  first
    | (refine pk.tr oq85 (fun u9 k9 hi => ⟨fun h => ?_, fun h => ?_⟩)
       · obtain ⟨h1, h2, h3⟩ := h
         by_cases e : k9 = l7_49.toInt
         · exact Or.inr ⟨h1, e⟩
         · exact Or.inl ⟨h1, by omega, h3⟩
       · rcases h with ⟨h1, h2, h3⟩ | ⟨h1, h2⟩
         · exact ⟨h1, by omega, h3⟩
         · exact ⟨h1, by omega, by rw [h1, h2]; omega⟩)
    | (refine pk.cg (fun u9 k9 hi => ⟨fun h => ?_, fun h => ?_⟩)
       · obtain ⟨h1, h2, h3⟩ := h
         by_cases e : k9 = l7_49.toInt
         · rw [h1, e] at h3; exfalso; omega
         · exact ⟨h1, by omega, h3⟩
       · obtain ⟨h1, h2, h3⟩ := h
         exact ⟨h1, by omega, h3⟩)
theorem v_X3_reachFrom_85_6 {F : Nat → Nat → Nat} (G_3 : XG) (a : Nat) (G_49 : XG) (G : XG) (q15 : Nat) (l7_49 : Int32) (p0 : Nat) (p3 : Int32)
    (pk : LGo (aI (G_3.2.1 (F a 0))) (aI (G_3.2.1 (F a 1))) (aI (G_3.2.1 (F a 2))) ((G_3.1 a 3).toInt) (aI (G_49.2.1 (F a 0))) (aI (G_49.2.1 (F a 1))) (aI (G_49.2.1 (F a 2))) ((G_49.1 a 3).toInt) (fun u9 k9 => u9 = ((G.1 q15 2).toInt) ∧ k9 < l7_49.toInt ∧ cel (vw (G.2.1 (F p0 0))) u9 k9 ((G.1 q15 3).toInt) = p3.toInt)) :
    LIv (aI (G_49.2.1 (F a 0))) (aI (G_49.2.1 (F a 1))) (aI (G_49.2.1 (F a 2))) ((G_49.1 a 3).toInt) := by
  exact pk.1
theorem v_X3_reachFrom_91_7 {K : Nat → Nat} {F : Nat → Nat → Nat} (a : Nat) (p0 : Nat) (p1 : Nat) (q15 : Nat) (G : XG) (G_3 : XG) (G_49 : XG) (G85 : XG) (l5_3 : Int32) (p2 : Int32) (p3 : Int32) (l7_49 : Int32) (N3 : Nat) (N49 : Nat)
    (ha : K a = 5)
    (hp0 : K p0 = 8)
    (hp1 : K p1 = 2)
    (li : LIv (aI (G.2.1 (F a 0))) (aI (G.2.1 (F a 1))) (aI (G.2.1 (F a 2))) ((G.1 a 3).toInt))
    (pl : LGo (aI (G.2.1 (F a 0))) (aI (G.2.1 (F a 1))) (aI (G.2.1 (F a 2))) ((G.1 a 3).toInt) (aI (G_3.2.1 (F a 0))) (aI (G_3.2.1 (F a 1))) (aI (G_3.2.1 (F a 2))) ((G_3.1 a 3).toInt) (fun u9 k9 => lnC G (G.2.2.1 (F p1 1)) (vw (G.2.1 (F p0 0))) l5_3.toInt u9 k9 p2.toInt p3.toInt))
    (hs15 : G_3.2.2.1 (F p1 1) (l5_3.toInt).toNat = some q15)
    (pk : LGo (aI (G_3.2.1 (F a 0))) (aI (G_3.2.1 (F a 1))) (aI (G_3.2.1 (F a 2))) ((G_3.1 a 3).toInt) (aI (G_49.2.1 (F a 0))) (aI (G_49.2.1 (F a 1))) (aI (G_49.2.1 (F a 2))) ((G_49.1 a 3).toInt) (fun u9 k9 => u9 = ((G.1 q15 2).toInt) ∧ k9 < l7_49.toInt ∧ cel (vw (G.2.1 (F p0 0))) u9 k9 ((G.1 q15 3).toInt) = p3.toInt))
    (oq85 : LGo (aI (G_49.2.1 (F a 0))) (aI (G_49.2.1 (F a 1))) (aI (G_49.2.1 (F a 2))) ((G_49.1 a 3).toInt) (aI (G85.2.1 (F a 0))) (aI (G85.2.1 (F a 1))) (aI (G85.2.1 (F a 2))) ((G85.1 a 3).toInt) (fun u9 k9 => u9 = ((G.1 q15 2).toInt) ∧ k9 = l7_49.toInt))
    (sb : 0 ≤ ((G.1 p1 2).toInt) ∧ ((G.1 p1 2).toInt) ≤ 12)
    (I3_0 : 0 ≤ l5_3.toInt ∧ l5_3.toInt ≤ ((G.1 p1 2).toInt))
    (hm3 : 2147483648 - l5_3.toInt < (((N3) + 1 : Nat) : Int))
    (c9 : ¬ (((G.1 p1 2).toInt) ≤ l5_3.toInt))
    (ht15 : 0 ≤ l5_3.toInt ∧ l5_3.toInt < ((G.1 p1 2).toInt) ∧ l5_3.toInt < 12)
    (c31 : ¬ (((G.1 q15 0).toInt) ≠ (1 : Int)))
    (c40 : ((G.1 q15 4).toInt) = p2.toInt)
    (I49_0 : 0 ≤ l7_49.toInt ∧ l7_49.toInt ≤ 30)
    (I49_1 : (0 : Int) ≤ l7_49.toInt)
    (hm49 : 2147483648 - l7_49.toInt < (((N49) + 1 : Nat) : Int))
    (c53 : ¬ ((30 : Int) ≤ l7_49.toInt))
    (c74 : ¬ ((cel (vw (G.2.1 (F p0 0))) ((G.1 q15 2).toInt) (l7_49.toInt) ((G.1 q15 3).toInt)) ≠ p3.toInt)) :
    LGo (aI (G_3.2.1 (F a 0))) (aI (G_3.2.1 (F a 1))) (aI (G_3.2.1 (F a 2))) ((G_3.1 a 3).toInt) (aI (G85.2.1 (F a 0))) (aI (G85.2.1 (F a 1))) (aI (G85.2.1 (F a 2))) ((G85.1 a 3).toInt) (fun u9 k9 => u9 = ((G.1 q15 2).toInt) ∧ k9 < (l7_49.toInt + 1) ∧ cel (vw (G.2.1 (F p0 0))) u9 k9 ((G.1 q15 3).toInt) = p3.toInt) := by
  first
    | (refine pk.tr oq85 (fun u9 k9 hi => ⟨fun h => ?_, fun h => ?_⟩)
       · obtain ⟨h1, h2, h3⟩ := h
         by_cases e : k9 = l7_49.toInt
         · exact Or.inr ⟨h1, e⟩
         · exact Or.inl ⟨h1, by omega, h3⟩
       · rcases h with ⟨h1, h2, h3⟩ | ⟨h1, h2⟩
         · exact ⟨h1, by omega, h3⟩
         · exact ⟨h1, by omega, by rw [h1, h2]; omega⟩)
    | (refine pk.cg (fun u9 k9 hi => ⟨fun h => ?_, fun h => ?_⟩)
       · obtain ⟨h1, h2, h3⟩ := h
         by_cases e : k9 = l7_49.toInt
         · rw [h1, e] at h3; exfalso; omega
         · exact ⟨h1, by omega, h3⟩
       · obtain ⟨h1, h2, h3⟩ := h
         exact ⟨h1, by omega, h3⟩)
theorem v_X3_reachFrom_47_8 {K : Nat → Nat} {F : Nat → Nat → Nat} (a : Nat) (p0 : Nat) (p1 : Nat) (q15 : Nat) (G : XG) (G_3 : XG) (l5_3 : Int32) (p2 : Int32) (p3 : Int32) (N3 : Nat)
    (ha : K a = 5)
    (hp0 : K p0 = 8)
    (hp1 : K p1 = 2)
    (li : LIv (aI (G.2.1 (F a 0))) (aI (G.2.1 (F a 1))) (aI (G.2.1 (F a 2))) ((G.1 a 3).toInt))
    (pl : LGo (aI (G.2.1 (F a 0))) (aI (G.2.1 (F a 1))) (aI (G.2.1 (F a 2))) ((G.1 a 3).toInt) (aI (G_3.2.1 (F a 0))) (aI (G_3.2.1 (F a 1))) (aI (G_3.2.1 (F a 2))) ((G_3.1 a 3).toInt) (fun u9 k9 => lnC G (G.2.2.1 (F p1 1)) (vw (G.2.1 (F p0 0))) l5_3.toInt u9 k9 p2.toInt p3.toInt))
    (hs15 : G_3.2.2.1 (F p1 1) (l5_3.toInt).toNat = some q15)
    (sb : 0 ≤ ((G.1 p1 2).toInt) ∧ ((G.1 p1 2).toInt) ≤ 12)
    (I3_0 : 0 ≤ l5_3.toInt ∧ l5_3.toInt ≤ ((G.1 p1 2).toInt))
    (hm3 : 2147483648 - l5_3.toInt < (((N3) + 1 : Nat) : Int))
    (c9 : ¬ (((G.1 p1 2).toInt) ≤ l5_3.toInt))
    (ht15 : 0 ≤ l5_3.toInt ∧ l5_3.toInt < ((G.1 p1 2).toInt) ∧ l5_3.toInt < 12)
    (c31 : ¬ (((G.1 q15 0).toInt) ≠ (1 : Int)))
    (c40 : ((G.1 q15 4).toInt) = p2.toInt) :
    LGo (aI (G_3.2.1 (F a 0))) (aI (G_3.2.1 (F a 1))) (aI (G_3.2.1 (F a 2))) ((G_3.1 a 3).toInt) (aI (G_3.2.1 (F a 0))) (aI (G_3.2.1 (F a 1))) (aI (G_3.2.1 (F a 2))) ((G_3.1 a 3).toInt) (fun u9 k9 => u9 = ((G.1 q15 2).toInt) ∧ k9 < (0 : Int) ∧ cel (vw (G.2.1 (F p0 0))) u9 k9 ((G.1 q15 3).toInt) = p3.toInt) := by
  exact LGo_same pl.1 (fun u9 k9 hi h => absurd h.2.1 (by have := hi.2; omega))
theorem v_X3_reachFrom_97_9 {K : Nat → Nat} {F : Nat → Nat → Nat} (a : Nat) (p0 : Nat) (p1 : Nat) (q15 : Nat) (G : XG) (G_3 : XG) (l5_3 : Int32) (p2 : Int32) (p3 : Int32) (N3 : Nat)
    (ha : K a = 5)
    (hp0 : K p0 = 8)
    (hp1 : K p1 = 2)
    (li : LIv (aI (G.2.1 (F a 0))) (aI (G.2.1 (F a 1))) (aI (G.2.1 (F a 2))) ((G.1 a 3).toInt))
    (pl : LGo (aI (G.2.1 (F a 0))) (aI (G.2.1 (F a 1))) (aI (G.2.1 (F a 2))) ((G.1 a 3).toInt) (aI (G_3.2.1 (F a 0))) (aI (G_3.2.1 (F a 1))) (aI (G_3.2.1 (F a 2))) ((G_3.1 a 3).toInt) (fun u9 k9 => lnC G (G.2.2.1 (F p1 1)) (vw (G.2.1 (F p0 0))) l5_3.toInt u9 k9 p2.toInt p3.toInt))
    (hs15 : G_3.2.2.1 (F p1 1) (l5_3.toInt).toNat = some q15)
    (sb : 0 ≤ ((G.1 p1 2).toInt) ∧ ((G.1 p1 2).toInt) ≤ 12)
    (I3_0 : 0 ≤ l5_3.toInt ∧ l5_3.toInt ≤ ((G.1 p1 2).toInt))
    (hm3 : 2147483648 - l5_3.toInt < (((N3) + 1 : Nat) : Int))
    (c9 : ¬ (((G.1 p1 2).toInt) ≤ l5_3.toInt))
    (ht15 : 0 ≤ l5_3.toInt ∧ l5_3.toInt < ((G.1 p1 2).toInt) ∧ l5_3.toInt < 12)
    (c31 : ¬ (((G.1 q15 0).toInt) ≠ (1 : Int)))
    (c40 : ¬ (((G.1 q15 4).toInt) = p2.toInt))
    (r_G_3_F_p1_1 : G_3.2.2.1 (F p1 1) = G.2.2.1 (F p1 1))
    (d_G_3_p1_2 : G_3.1 p1 2 = G.1 p1 2) :
    LGo (aI (G.2.1 (F a 0))) (aI (G.2.1 (F a 1))) (aI (G.2.1 (F a 2))) ((G.1 a 3).toInt) (aI (G_3.2.1 (F a 0))) (aI (G_3.2.1 (F a 1))) (aI (G_3.2.1 (F a 2))) ((G_3.1 a 3).toInt) (fun u9 k9 => lnC G (G.2.2.1 (F p1 1)) (vw (G.2.1 (F p0 0))) (l5_3.toInt + 1) u9 k9 p2.toInt p3.toInt) := by
  first
    | (refine pl.cg (fun u9 k9 _ => (lnC_s (by omega)).trans ⟨fun h => h.elim id (fun h9 => ?_), Or.inl⟩)
       obtain ⟨q9, e1, -⟩ := h9
       rcases hn15 with h | h
       · rw [d_G_3_p1_2] at h; exfalso; omega
       · rw [r_G_3_F_p1_1] at h
         rw [h] at e1
         cases e1)
    | (refine pl.cg (fun u9 k9 _ => (lnC_s (by omega)).trans ⟨fun h => h.elim id (fun h9 => ?_), Or.inl⟩)
       obtain ⟨q9, e1, e2, e3, -⟩ := h9
       rw [r_G_3_F_p1_1] at hs15
       rw [hs15] at e1
       cases e1
       exfalso; omega)
    | (refine pl.tr pk (fun u9 k9 hi => (lnC_s (by omega)).trans ⟨fun h => h.imp id (fun h9 => ?_), fun h => h.imp id (fun h9 => ?_)⟩)
       · obtain ⟨q9, e1, e2, e3, e4, e5⟩ := h9
         rw [r_G_3_F_p1_1] at hs15
         rw [hs15] at e1
         cases e1
         exact ⟨e4.symm, by have := hi.2; omega, e5⟩
       · obtain ⟨e4, -, e5⟩ := h9
         exact ⟨q15, by rw [← r_G_3_F_p1_1]; exact hs15, by omega, by omega, e4.symm, e5⟩)
theorem v_X3_reachFrom_1_10 {K : Nat → Nat} {F : Nat → Nat → Nat} (a : Nat) (p0 : Nat) (p1 : Nat) (G : XG) (p2 : Int32) (p3 : Int32)
    (ha : K a = 5)
    (hp0 : K p0 = 8)
    (hp1 : K p1 = 2)
    (li : LIv (aI (G.2.1 (F a 0))) (aI (G.2.1 (F a 1))) (aI (G.2.1 (F a 2))) ((G.1 a 3).toInt))
    (sb : 0 ≤ ((G.1 p1 2).toInt) ∧ ((G.1 p1 2).toInt) ≤ 12) :
    LGo (aI (G.2.1 (F a 0))) (aI (G.2.1 (F a 1))) (aI (G.2.1 (F a 2))) ((G.1 a 3).toInt) (aI (G.2.1 (F a 0))) (aI (G.2.1 (F a 1))) (aI (G.2.1 (F a 2))) ((G.1 a 3).toInt) (fun u9 k9 => lnC G (G.2.2.1 (F p1 1)) (vw (G.2.1 (F p0 0))) (0 : Int) u9 k9 p2.toInt p3.toInt) := by
  exact LGo_same li (fun u9 k9 _ h => absurd h (lnC_0 (by omega)))
theorem v_X3_straight_10_1 {F : Nat → Nat → Nat} (G1 : XG) (a : Nat)
    (oq1 : ∀ t : Int, 0 ≤ t → t < 3 → aI (G1.2.1 (F a 0)) t = 0)
    (t1 : ((G1.1 a 3).toInt) = 0) :
    LIv (aI (G1.2.1 (F a 0))) (aI (G1.2.1 (F a 1))) (aI (G1.2.1 (F a 2))) ((G1.1 a 3).toInt) := by
  exact LIv_0 oq1 t1
theorem v_X3_straight_17_2 {K : Nat → Nat} {F : Nat → Nat → Nat} (a : Nat) (p0 : Nat) (p1 : Nat) (G : XG) (G1 : XG) (G10 : XG) (p2 : Int32) (p3 : Int32)
    (ha : K a = 5)
    (hp0 : K p0 = 8)
    (hp1 : K p1 = 2)
    (hk9999 : K (F a 0) = 21)
    (hj9999 : F (F a 0) 99 = 102)
    (hk9999a : K (F a 1) = 24)
    (hj9999a : F (F a 1) 99 = 5)
    (hk9999b : K (F a 2) = 24)
    (hj9999b : F (F a 2) 99 = 6)
    (hk9999c : K (F p1 1) = 15)
    (hj9999c : F (F p1 1) 99 = 1)
    (hk9999d : K (F p0 0) = 20)
    (hj9999d : F (F p0 0) 99 = F p0 99)
    (hF1 : XFr [(a, 3)] [F a 0] [] G G1)
    (bko : BKr K G (G.2.2.1 (F p1 1)))
    (oq1 : ∀ t : Int, 0 ≤ t → t < 3 → aI (G1.2.1 (F a 0)) t = 0)
    (oq10 : LGo (aI (G1.2.1 (F a 0))) (aI (G.2.1 (F a 1))) (aI (G.2.1 (F a 2))) ((G1.1 a 3).toInt) (aI (G10.2.1 (F a 0))) (aI (G10.2.1 (F a 1))) (aI (G10.2.1 (F a 2))) ((G10.1 a 3).toInt) (fun u9 k9 => lnC G1 (G1.2.2.1 (F p1 1)) (vw (G.2.1 (F p0 0))) ((G.1 p1 2).toInt) u9 k9 p2.toInt p3.toInt))
    (sb : 0 ≤ ((G.1 p1 2).toInt) ∧ ((G.1 p1 2).toInt) ≤ 12)
    (t1 : ((G1.1 a 3).toInt) = 0)
    (r_G1_F_p1_1 : G1.2.2.1 (F p1 1) = G.2.2.1 (F p1 1)) :
    ∃ b : Int → Int, ((G10.1 a 3).toInt) = toB b 3 ∧ ∀ t j : Int, inR t j → (bI (b t) j = 1 ↔ lnC G (G.2.2.1 (F p1 1)) (vw (G.2.1 (F p0 0))) ((G.1 p1 2).toInt) t j p2.toInt p3.toInt) := by
  have hd0 : ∀ p, p ∈ [(a, 3)] → K p.1 ≠ 9 := (List.forall_mem_cons.mpr ⟨(show K a ≠ 9 by omega), fun _ h => by cases h⟩)
  have hc : ∀ i q : Nat, i < 12 → G.2.2.1 (F p1 1) i = some q → G1.1 q = G.1 q := fun i q hi hq => hF1.rule hd0 (bko i q hi hq).1
  rw [r_G1_F_p1_1] at oq10
  obtain ⟨h1, -, -, h4⟩ := oq10
  try dsimp only at h4
  refine ⟨aI (G10.2.1 (F a 0)), h1.1, fun t j hi => ?_⟩
  rw [h4 t j hi, lnC_cg (show (G.1 p1 2).toInt ≤ 12 by omega) hc, oq1 t hi.1.1 hi.1.2, bI_0]
  constructor
  · rintro (h | h)
    · exact absurd h (by decide)
    · exact h
  · exact Or.inr
theorem v_X3_straightOrNot_8_1 {F : Nat → Nat → Nat} (G1 : XG) (a : Nat)
    (oq1 : ∀ t : Int, 0 ≤ t → t < 3 → aI (G1.2.1 (F a 0)) t = 0)
    (t1 : ((G1.1 a 3).toInt) = 0) :
    LIv (aI (G1.2.1 (F a 0))) (aI (G1.2.1 (F a 1))) (aI (G1.2.1 (F a 2))) ((G1.1 a 3).toInt) := by
  exact LIv_0 oq1 t1
theorem v_X3_straightOrNot_62_2 {K : Nat → Nat} {F : Nat → Nat → Nat} (a : Nat) (p0 : Nat) (p1 : Nat) (G : XG) (G_14 : XG) (G1 : XG) (G8 : XG) (p2 : Int32) (p3 : Int32) (l5_14 : Int32) (N14 : Nat)
    (ha : K a = 5)
    (hp0 : K p0 = 8)
    (hp1 : K p1 = 2)
    (oq8 : LGo (aI (G1.2.1 (F a 0))) (aI (G.2.1 (F a 1))) (aI (G.2.1 (F a 2))) ((G1.1 a 3).toInt) (aI (G8.2.1 (F a 0))) (aI (G8.2.1 (F a 1))) (aI (G8.2.1 (F a 2))) ((G8.1 a 3).toInt) (fun u9 k9 => u9 = p2.toInt ∧ k9 = p3.toInt))
    (pv : LIv (aI (G_14.2.1 (F a 0))) (aI (G_14.2.1 (F a 1))) (aI (G_14.2.1 (F a 2))) ((G_14.1 a 3).toInt))
    (ps : bI ((aI (G_14.2.1 (F a 0))) p2.toInt) p3.toInt = 1)
    (pr : ∀ t j : Int, inR t j → bI ((aI (G_14.2.1 (F a 0))) t) j = 1 → RCH (lnC G (G.2.2.1 (F p1 1)) (vw (G.2.1 (F p0 0))) ((G.1 p1 2).toInt)) p2.toInt p3.toInt t j)
    (pc : ∀ z : Int, 0 ≤ z → z < l5_14.toInt → ∀ t j : Int, inR t j → lnC G (G.2.2.1 (F p1 1)) (vw (G.2.1 (F p0 0))) ((G.1 p1 2).toInt) t j ((aI (G_14.2.1 (F a 1))) z) ((aI (G_14.2.1 (F a 2))) z) → bI ((aI (G_14.2.1 (F a 0))) t) j = 1)
    (sb : 0 ≤ ((G.1 p1 2).toInt) ∧ ((G.1 p1 2).toInt) ≤ 12)
    (e0 : 0 ≤ p2.toInt ∧ p2.toInt < 3 ∧ 0 ≤ p3.toInt ∧ p3.toInt < 30)
    (t1 : ((G1.1 a 3).toInt) = 0)
    (I14_0 : 0 ≤ l5_14.toInt ∧ l5_14.toInt ≤ 90)
    (hm14 : 100 - l5_14.toInt < (((N14) + 1 : Nat) : Int))
    (c20 : ((G_14.1 a 3).toInt) ≤ l5_14.toInt)
    (z56 : 0 ≤ ((G_14.1 a 3).toInt) ∧ ((G_14.1 a 3).toInt) ≤ 90) :
    ∃ b : Int → Int, (((G_14.1 a 3).toInt) - (1 : Int)) = toB b 3 - 1 ∧ ∀ t j : Int, inR t j → (bI (b t) j = 1 ↔ RCH (lnC G (G.2.2.1 (F p1 1)) (vw (G.2.1 (F p0 0))) ((G.1 p1 2).toInt)) p2.toInt p3.toInt t j) := by
  have hb := pv.b
  exact ⟨aI (G_14.2.1 (F a 0)), by rw [← pv.1], reach_all pv (i := l5_14.toInt) (by omega) ps pr pc ⟨by omega, by omega⟩⟩
theorem v_X3_straightOrNot_62_3 {K : Nat → Nat} {F : Nat → Nat → Nat} (a : Nat) (p0 : Nat) (p1 : Nat) (G : XG) (G_14 : XG) (G1 : XG) (G8 : XG) (p2 : Int32) (p3 : Int32) (l5_14 : Int32) (N14 : Nat)
    (ha : K a = 5)
    (hp0 : K p0 = 8)
    (hp1 : K p1 = 2)
    (oq8 : LGo (aI (G1.2.1 (F a 0))) (aI (G.2.1 (F a 1))) (aI (G.2.1 (F a 2))) ((G1.1 a 3).toInt) (aI (G8.2.1 (F a 0))) (aI (G8.2.1 (F a 1))) (aI (G8.2.1 (F a 2))) ((G8.1 a 3).toInt) (fun u9 k9 => u9 = p2.toInt ∧ k9 = p3.toInt))
    (pv : LIv (aI (G_14.2.1 (F a 0))) (aI (G_14.2.1 (F a 1))) (aI (G_14.2.1 (F a 2))) ((G_14.1 a 3).toInt))
    (ps : bI ((aI (G_14.2.1 (F a 0))) p2.toInt) p3.toInt = 1)
    (pr : ∀ t j : Int, inR t j → bI ((aI (G_14.2.1 (F a 0))) t) j = 1 → RCH (lnC G (G.2.2.1 (F p1 1)) (vw (G.2.1 (F p0 0))) ((G.1 p1 2).toInt)) p2.toInt p3.toInt t j)
    (pc : ∀ z : Int, 0 ≤ z → z < l5_14.toInt → ∀ t j : Int, inR t j → lnC G (G.2.2.1 (F p1 1)) (vw (G.2.1 (F p0 0))) ((G.1 p1 2).toInt) t j ((aI (G_14.2.1 (F a 1))) z) ((aI (G_14.2.1 (F a 2))) z) → bI ((aI (G_14.2.1 (F a 0))) t) j = 1)
    (sb : 0 ≤ ((G.1 p1 2).toInt) ∧ ((G.1 p1 2).toInt) ≤ 12)
    (e0 : 0 ≤ p2.toInt ∧ p2.toInt < 3 ∧ 0 ≤ p3.toInt ∧ p3.toInt < 30)
    (t1 : ((G1.1 a 3).toInt) = 0)
    (I14_0 : 0 ≤ l5_14.toInt ∧ l5_14.toInt ≤ 90)
    (hm14 : 100 - l5_14.toInt < (((N14) + 1 : Nat) : Int))
    (c20 : ¬ (((G_14.1 a 3).toInt) ≤ l5_14.toInt))
    (c27 : (90 : Int) ≤ l5_14.toInt)
    (z56 : 0 ≤ ((G_14.1 a 3).toInt) ∧ ((G_14.1 a 3).toInt) ≤ 90) :
    ∃ b : Int → Int, (((G_14.1 a 3).toInt) - (1 : Int)) = toB b 3 - 1 ∧ ∀ t j : Int, inR t j → (bI (b t) j = 1 ↔ RCH (lnC G (G.2.2.1 (F p1 1)) (vw (G.2.1 (F p0 0))) ((G.1 p1 2).toInt)) p2.toInt p3.toInt t j) := by
  have hb := pv.b
  exact ⟨aI (G_14.2.1 (F a 0)), by rw [← pv.1], reach_all pv (i := l5_14.toInt) (by omega) ps pr pc ⟨by omega, by omega⟩⟩
theorem v_X3_straightOrNot_47_4 {F : Nat → Nat → Nat} (G_14 : XG) (a : Nat)
    (pv : LIv (aI (G_14.2.1 (F a 0))) (aI (G_14.2.1 (F a 1))) (aI (G_14.2.1 (F a 2))) ((G_14.1 a 3).toInt)) :
    LIv (aI (G_14.2.1 (F a 0))) (aI (G_14.2.1 (F a 1))) (aI (G_14.2.1 (F a 2))) ((G_14.1 a 3).toInt) := by
  exact pv
theorem v_X3_straightOrNot_53_5 {F : Nat → Nat → Nat} (G_14 : XG) (a : Nat) (G47 : XG) (p1 : Nat) (G : XG) (p0 : Nat) (l5_14 : Int32)
    (oq47 : LGo (aI (G_14.2.1 (F a 0))) (aI (G_14.2.1 (F a 1))) (aI (G_14.2.1 (F a 2))) ((G_14.1 a 3).toInt) (aI (G47.2.1 (F a 0))) (aI (G47.2.1 (F a 1))) (aI (G47.2.1 (F a 2))) ((G47.1 a 3).toInt) (fun u9 k9 => lnC G_14 (G_14.2.2.1 (F p1 1)) (vw (G.2.1 (F p0 0))) ((G.1 p1 2).toInt) u9 k9 (aI (G_14.2.1 (F a 1)) (l5_14.toInt)) (aI (G_14.2.1 (F a 2)) (l5_14.toInt)))) :
    LIv (aI (G47.2.1 (F a 0))) (aI (G47.2.1 (F a 1))) (aI (G47.2.1 (F a 2))) ((G47.1 a 3).toInt) := by
  exact oq47.1
theorem v_X3_straightOrNot_53_6 {K : Nat → Nat} {F : Nat → Nat → Nat} (a : Nat) (p0 : Nat) (p1 : Nat) (G : XG) (G47 : XG) (G1 : XG) (G8 : XG) (G_14 : XG) (p2 : Int32) (p3 : Int32) (l5_14 : Int32) (N14 : Nat)
    (ha : K a = 5)
    (hp0 : K p0 = 8)
    (hp1 : K p1 = 2)
    (oq8 : LGo (aI (G1.2.1 (F a 0))) (aI (G.2.1 (F a 1))) (aI (G.2.1 (F a 2))) ((G1.1 a 3).toInt) (aI (G8.2.1 (F a 0))) (aI (G8.2.1 (F a 1))) (aI (G8.2.1 (F a 2))) ((G8.1 a 3).toInt) (fun u9 k9 => u9 = p2.toInt ∧ k9 = p3.toInt))
    (pv : LIv (aI (G_14.2.1 (F a 0))) (aI (G_14.2.1 (F a 1))) (aI (G_14.2.1 (F a 2))) ((G_14.1 a 3).toInt))
    (ps : bI ((aI (G_14.2.1 (F a 0))) p2.toInt) p3.toInt = 1)
    (oq47 : LGo (aI (G_14.2.1 (F a 0))) (aI (G_14.2.1 (F a 1))) (aI (G_14.2.1 (F a 2))) ((G_14.1 a 3).toInt) (aI (G47.2.1 (F a 0))) (aI (G47.2.1 (F a 1))) (aI (G47.2.1 (F a 2))) ((G47.1 a 3).toInt) (fun u9 k9 => lnC G_14 (G_14.2.2.1 (F p1 1)) (vw (G.2.1 (F p0 0))) ((G.1 p1 2).toInt) u9 k9 (aI (G_14.2.1 (F a 1)) (l5_14.toInt)) (aI (G_14.2.1 (F a 2)) (l5_14.toInt))))
    (sb : 0 ≤ ((G.1 p1 2).toInt) ∧ ((G.1 p1 2).toInt) ≤ 12)
    (e0 : 0 ≤ p2.toInt ∧ p2.toInt < 3 ∧ 0 ≤ p3.toInt ∧ p3.toInt < 30)
    (t1 : ((G1.1 a 3).toInt) = 0)
    (I14_0 : 0 ≤ l5_14.toInt ∧ l5_14.toInt ≤ 90)
    (hm14 : 100 - l5_14.toInt < (((N14) + 1 : Nat) : Int))
    (c20 : ¬ (((G_14.1 a 3).toInt) ≤ l5_14.toInt))
    (c27 : ¬ ((90 : Int) ≤ l5_14.toInt)) :
    bI ((aI (G47.2.1 (F a 0))) p2.toInt) p3.toInt = 1 := by
  exact (oq47.2.2.2 _ _ ⟨by omega, by omega⟩).mpr (Or.inl ps)
theorem v_X3_straightOrNot_53_7 {K : Nat → Nat} {F : Nat → Nat → Nat} (a : Nat) (p0 : Nat) (p1 : Nat) (G : XG) (G47 : XG) (G1 : XG) (G8 : XG) (G_14 : XG) (p2 : Int32) (p3 : Int32) (l5_14 : Int32) (N14 : Nat)
    (ha : K a = 5)
    (hp0 : K p0 = 8)
    (hp1 : K p1 = 2)
    (hk9999 : K (F a 0) = 21)
    (hj9999 : F (F a 0) 99 = 102)
    (hk9999a : K (F a 1) = 24)
    (hj9999a : F (F a 1) 99 = 5)
    (hk9999b : K (F a 2) = 24)
    (hj9999b : F (F a 2) 99 = 6)
    (hk9999c : K (F p1 1) = 15)
    (hj9999c : F (F p1 1) 99 = 1)
    (hk9999d : K (F p0 0) = 20)
    (hj9999d : F (F p0 0) 99 = F p0 99)
    (hF1 : XFr [(a, 3)] [F a 0] [] G G1)
    (hF8 : XFr [(a, 3)] [F a 0, F a 1, F a 2] [] G1 G8)
    (hF_14 : XFr [(a, 3)] [F a 0, F a 1, F a 2] [] G8 G_14)
    (bko : BKr K G (G.2.2.1 (F p1 1)))
    (oq8 : LGo (aI (G1.2.1 (F a 0))) (aI (G.2.1 (F a 1))) (aI (G.2.1 (F a 2))) ((G1.1 a 3).toInt) (aI (G8.2.1 (F a 0))) (aI (G8.2.1 (F a 1))) (aI (G8.2.1 (F a 2))) ((G8.1 a 3).toInt) (fun u9 k9 => u9 = p2.toInt ∧ k9 = p3.toInt))
    (pv : LIv (aI (G_14.2.1 (F a 0))) (aI (G_14.2.1 (F a 1))) (aI (G_14.2.1 (F a 2))) ((G_14.1 a 3).toInt))
    (ps : bI ((aI (G_14.2.1 (F a 0))) p2.toInt) p3.toInt = 1)
    (pr : ∀ t j : Int, inR t j → bI ((aI (G_14.2.1 (F a 0))) t) j = 1 → RCH (lnC G (G.2.2.1 (F p1 1)) (vw (G.2.1 (F p0 0))) ((G.1 p1 2).toInt)) p2.toInt p3.toInt t j)
    (oq47 : LGo (aI (G_14.2.1 (F a 0))) (aI (G_14.2.1 (F a 1))) (aI (G_14.2.1 (F a 2))) ((G_14.1 a 3).toInt) (aI (G47.2.1 (F a 0))) (aI (G47.2.1 (F a 1))) (aI (G47.2.1 (F a 2))) ((G47.1 a 3).toInt) (fun u9 k9 => lnC G_14 (G_14.2.2.1 (F p1 1)) (vw (G.2.1 (F p0 0))) ((G.1 p1 2).toInt) u9 k9 (aI (G_14.2.1 (F a 1)) (l5_14.toInt)) (aI (G_14.2.1 (F a 2)) (l5_14.toInt))))
    (sb : 0 ≤ ((G.1 p1 2).toInt) ∧ ((G.1 p1 2).toInt) ≤ 12)
    (e0 : 0 ≤ p2.toInt ∧ p2.toInt < 3 ∧ 0 ≤ p3.toInt ∧ p3.toInt < 30)
    (t1 : ((G1.1 a 3).toInt) = 0)
    (I14_0 : 0 ≤ l5_14.toInt ∧ l5_14.toInt ≤ 90)
    (hm14 : 100 - l5_14.toInt < (((N14) + 1 : Nat) : Int))
    (c20 : ¬ (((G_14.1 a 3).toInt) ≤ l5_14.toInt))
    (c27 : ¬ ((90 : Int) ≤ l5_14.toInt))
    (r_G_14_F_p1_1 : G_14.2.2.1 (F p1 1) = G.2.2.1 (F p1 1)) :
    ∀ t j : Int, inR t j → bI ((aI (G47.2.1 (F a 0))) t) j = 1 → RCH (lnC G (G.2.2.1 (F p1 1)) (vw (G.2.1 (F p0 0))) ((G.1 p1 2).toInt)) p2.toInt p3.toInt t j := by
  have hd0 : ∀ p, p ∈ [(a, 3)] → K p.1 ≠ 9 := (List.forall_mem_cons.mpr ⟨(show K a ≠ 9 by omega), fun _ h => by cases h⟩)
  have hc : ∀ i q : Nat, i < 12 → G.2.2.1 (F p1 1) i = some q → G_14.1 q = G.1 q := fun i q hi hq => (hF_14.rule hd0 (bko i q hi hq).1).trans ((hF8.rule hd0 (bko i q hi hq).1).trans (hF1.rule hd0 (bko i q hi hq).1))
  rw [r_G_14_F_p1_1] at oq47
  obtain ⟨g1, g2, g3, g4⟩ := oq47
  try dsimp only at g4
  have g5 : ∀ t j : Int, inR t j → (bI (aI (G47.2.1 (F a 0)) t) j = 1 ↔ bI (aI (G_14.2.1 (F a 0)) t) j = 1 ∨ lnC G (G.2.2.1 (F p1 1)) (vw (G.2.1 (F p0 0))) ((G.1 p1 2).toInt) t j (aI (G_14.2.1 (F a 1)) l5_14.toInt) (aI (G_14.2.1 (F a 2)) l5_14.toInt)) := fun t j hi => by rw [g4 t j hi, lnC_cg (show (G.1 p1 2).toInt ≤ 12 by omega) hc]
  intro t j hi h
  rcases (g5 t j hi).mp h with h | h
  · exact pr t j hi h
  · obtain ⟨k1, k2⟩ := pv.2.1 l5_14.toInt (by omega) (by omega)
    exact (pr _ _ k1 k2).go hi h
theorem v_X3_straightOrNot_53_8 {K : Nat → Nat} {F : Nat → Nat → Nat} (a : Nat) (p0 : Nat) (p1 : Nat) (G : XG) (G47 : XG) (G1 : XG) (G8 : XG) (G_14 : XG) (p2 : Int32) (p3 : Int32) (l5_14 : Int32) (N14 : Nat)
    (ha : K a = 5)
    (hp0 : K p0 = 8)
    (hp1 : K p1 = 2)
    (hk9999 : K (F a 0) = 21)
    (hj9999 : F (F a 0) 99 = 102)
    (hk9999a : K (F a 1) = 24)
    (hj9999a : F (F a 1) 99 = 5)
    (hk9999b : K (F a 2) = 24)
    (hj9999b : F (F a 2) 99 = 6)
    (hk9999c : K (F p1 1) = 15)
    (hj9999c : F (F p1 1) 99 = 1)
    (hk9999d : K (F p0 0) = 20)
    (hj9999d : F (F p0 0) 99 = F p0 99)
    (hF1 : XFr [(a, 3)] [F a 0] [] G G1)
    (hF8 : XFr [(a, 3)] [F a 0, F a 1, F a 2] [] G1 G8)
    (hF_14 : XFr [(a, 3)] [F a 0, F a 1, F a 2] [] G8 G_14)
    (bko : BKr K G (G.2.2.1 (F p1 1)))
    (oq8 : LGo (aI (G1.2.1 (F a 0))) (aI (G.2.1 (F a 1))) (aI (G.2.1 (F a 2))) ((G1.1 a 3).toInt) (aI (G8.2.1 (F a 0))) (aI (G8.2.1 (F a 1))) (aI (G8.2.1 (F a 2))) ((G8.1 a 3).toInt) (fun u9 k9 => u9 = p2.toInt ∧ k9 = p3.toInt))
    (pv : LIv (aI (G_14.2.1 (F a 0))) (aI (G_14.2.1 (F a 1))) (aI (G_14.2.1 (F a 2))) ((G_14.1 a 3).toInt))
    (ps : bI ((aI (G_14.2.1 (F a 0))) p2.toInt) p3.toInt = 1)
    (pc : ∀ z : Int, 0 ≤ z → z < l5_14.toInt → ∀ t j : Int, inR t j → lnC G (G.2.2.1 (F p1 1)) (vw (G.2.1 (F p0 0))) ((G.1 p1 2).toInt) t j ((aI (G_14.2.1 (F a 1))) z) ((aI (G_14.2.1 (F a 2))) z) → bI ((aI (G_14.2.1 (F a 0))) t) j = 1)
    (oq47 : LGo (aI (G_14.2.1 (F a 0))) (aI (G_14.2.1 (F a 1))) (aI (G_14.2.1 (F a 2))) ((G_14.1 a 3).toInt) (aI (G47.2.1 (F a 0))) (aI (G47.2.1 (F a 1))) (aI (G47.2.1 (F a 2))) ((G47.1 a 3).toInt) (fun u9 k9 => lnC G_14 (G_14.2.2.1 (F p1 1)) (vw (G.2.1 (F p0 0))) ((G.1 p1 2).toInt) u9 k9 (aI (G_14.2.1 (F a 1)) (l5_14.toInt)) (aI (G_14.2.1 (F a 2)) (l5_14.toInt))))
    (sb : 0 ≤ ((G.1 p1 2).toInt) ∧ ((G.1 p1 2).toInt) ≤ 12)
    (e0 : 0 ≤ p2.toInt ∧ p2.toInt < 3 ∧ 0 ≤ p3.toInt ∧ p3.toInt < 30)
    (t1 : ((G1.1 a 3).toInt) = 0)
    (I14_0 : 0 ≤ l5_14.toInt ∧ l5_14.toInt ≤ 90)
    (hm14 : 100 - l5_14.toInt < (((N14) + 1 : Nat) : Int))
    (c20 : ¬ (((G_14.1 a 3).toInt) ≤ l5_14.toInt))
    (c27 : ¬ ((90 : Int) ≤ l5_14.toInt))
    (r_G_14_F_p1_1 : G_14.2.2.1 (F p1 1) = G.2.2.1 (F p1 1)) :
    ∀ z : Int, 0 ≤ z → z < (l5_14.toInt + 1) → ∀ t j : Int, inR t j → lnC G (G.2.2.1 (F p1 1)) (vw (G.2.1 (F p0 0))) ((G.1 p1 2).toInt) t j ((aI (G47.2.1 (F a 1))) z) ((aI (G47.2.1 (F a 2))) z) → bI ((aI (G47.2.1 (F a 0))) t) j = 1 := by
  have hd0 : ∀ p, p ∈ [(a, 3)] → K p.1 ≠ 9 := (List.forall_mem_cons.mpr ⟨(show K a ≠ 9 by omega), fun _ h => by cases h⟩)
  have hc : ∀ i q : Nat, i < 12 → G.2.2.1 (F p1 1) i = some q → G_14.1 q = G.1 q := fun i q hi hq => (hF_14.rule hd0 (bko i q hi hq).1).trans ((hF8.rule hd0 (bko i q hi hq).1).trans (hF1.rule hd0 (bko i q hi hq).1))
  rw [r_G_14_F_p1_1] at oq47
  obtain ⟨g1, g2, g3, g4⟩ := oq47
  try dsimp only at g4
  have g5 : ∀ t j : Int, inR t j → (bI (aI (G47.2.1 (F a 0)) t) j = 1 ↔ bI (aI (G_14.2.1 (F a 0)) t) j = 1 ∨ lnC G (G.2.2.1 (F p1 1)) (vw (G.2.1 (F p0 0))) ((G.1 p1 2).toInt) t j (aI (G_14.2.1 (F a 1)) l5_14.toInt) (aI (G_14.2.1 (F a 2)) l5_14.toInt)) := fun t j hi => by rw [g4 t j hi, lnC_cg (show (G.1 p1 2).toInt ≤ 12 by omega) hc]
  intro z z0 z1 t j hi hl
  have g6 := g3 z z0 (by omega)
  rw [g6.1, g6.2] at hl
  by_cases e : z = l5_14.toInt
  · rw [e] at hl
    exact (g5 t j hi).mpr (Or.inr hl)
  · exact (g5 t j hi).mpr (Or.inl (pc z z0 (by omega) t j hi hl))
theorem v_X3_straightOrNot_12_9 {F : Nat → Nat → Nat} (G1 : XG) (a : Nat) (G : XG) (G8 : XG) (p2 : Int32) (p3 : Int32)
    (oq8 : LGo (aI (G1.2.1 (F a 0))) (aI (G.2.1 (F a 1))) (aI (G.2.1 (F a 2))) ((G1.1 a 3).toInt) (aI (G8.2.1 (F a 0))) (aI (G8.2.1 (F a 1))) (aI (G8.2.1 (F a 2))) ((G8.1 a 3).toInt) (fun u9 k9 => u9 = p2.toInt ∧ k9 = p3.toInt)) :
    LIv (aI (G8.2.1 (F a 0))) (aI (G8.2.1 (F a 1))) (aI (G8.2.1 (F a 2))) ((G8.1 a 3).toInt) := by
  exact oq8.1
theorem v_X3_straightOrNot_12_10 {K : Nat → Nat} {F : Nat → Nat → Nat} (a : Nat) (p0 : Nat) (p1 : Nat) (G : XG) (G8 : XG) (G1 : XG) (p2 : Int32) (p3 : Int32)
    (ha : K a = 5)
    (hp0 : K p0 = 8)
    (hp1 : K p1 = 2)
    (oq8 : LGo (aI (G1.2.1 (F a 0))) (aI (G.2.1 (F a 1))) (aI (G.2.1 (F a 2))) ((G1.1 a 3).toInt) (aI (G8.2.1 (F a 0))) (aI (G8.2.1 (F a 1))) (aI (G8.2.1 (F a 2))) ((G8.1 a 3).toInt) (fun u9 k9 => u9 = p2.toInt ∧ k9 = p3.toInt))
    (sb : 0 ≤ ((G.1 p1 2).toInt) ∧ ((G.1 p1 2).toInt) ≤ 12)
    (e0 : 0 ≤ p2.toInt ∧ p2.toInt < 3 ∧ 0 ≤ p3.toInt ∧ p3.toInt < 30)
    (t1 : ((G1.1 a 3).toInt) = 0) :
    bI ((aI (G8.2.1 (F a 0))) p2.toInt) p3.toInt = 1 := by
  exact (oq8.2.2.2 _ _ ⟨by omega, by omega⟩).mpr (Or.inr ⟨rfl, rfl⟩)
theorem v_X3_straightOrNot_12_11 {F : Nat → Nat → Nat} (a : Nat) (p0 : Nat) (p1 : Nat) (G : XG) (G8 : XG) (G1 : XG) (p2 : Int32) (p3 : Int32)
    (oq1 : ∀ t : Int, 0 ≤ t → t < 3 → aI (G1.2.1 (F a 0)) t = 0)
    (oq8 : LGo (aI (G1.2.1 (F a 0))) (aI (G.2.1 (F a 1))) (aI (G.2.1 (F a 2))) ((G1.1 a 3).toInt) (aI (G8.2.1 (F a 0))) (aI (G8.2.1 (F a 1))) (aI (G8.2.1 (F a 2))) ((G8.1 a 3).toInt) (fun u9 k9 => u9 = p2.toInt ∧ k9 = p3.toInt)) :
    ∀ t j : Int, inR t j → bI ((aI (G8.2.1 (F a 0))) t) j = 1 → RCH (lnC G (G.2.2.1 (F p1 1)) (vw (G.2.1 (F p0 0))) ((G.1 p1 2).toInt)) p2.toInt p3.toInt t j := by
  intro t j hi h
  rcases (oq8.2.2.2 t j hi).mp h with h | ⟨e1, e2⟩
  · rw [oq1 t hi.1.1 hi.1.2, bI_0] at h
    exact absurd h (by decide)
  · rw [e1, e2]
    exact RCH.self _ _ _
theorem v_X3_straightOrNot_12_12 {K : Nat → Nat} {F : Nat → Nat → Nat} (a : Nat) (p0 : Nat) (p1 : Nat) (G : XG) (G8 : XG) (G1 : XG) (p2 : Int32) (p3 : Int32)
    (ha : K a = 5)
    (hp0 : K p0 = 8)
    (hp1 : K p1 = 2)
    (oq8 : LGo (aI (G1.2.1 (F a 0))) (aI (G.2.1 (F a 1))) (aI (G.2.1 (F a 2))) ((G1.1 a 3).toInt) (aI (G8.2.1 (F a 0))) (aI (G8.2.1 (F a 1))) (aI (G8.2.1 (F a 2))) ((G8.1 a 3).toInt) (fun u9 k9 => u9 = p2.toInt ∧ k9 = p3.toInt))
    (sb : 0 ≤ ((G.1 p1 2).toInt) ∧ ((G.1 p1 2).toInt) ≤ 12)
    (e0 : 0 ≤ p2.toInt ∧ p2.toInt < 3 ∧ 0 ≤ p3.toInt ∧ p3.toInt < 30)
    (t1 : ((G1.1 a 3).toInt) = 0) :
    ∀ z : Int, 0 ≤ z → z < (0 : Int) → ∀ t j : Int, inR t j → lnC G (G.2.2.1 (F p1 1)) (vw (G.2.1 (F p0 0))) ((G.1 p1 2).toInt) t j ((aI (G8.2.1 (F a 1))) z) ((aI (G8.2.1 (F a 2))) z) → bI ((aI (G8.2.1 (F a 0))) t) j = 1 := by
  intro z z0 z1
  exact absurd z0 (by omega)
theorem v_X10_leans_6_1 {F : Nat → Nat → Nat} (a : Nat) (G : XG)
    (ron : RO (vw (G.2.1 (F (F a 3) 0))) (aI (G.2.1 (F (F a 3) 1)))) :
    RO (vw (G.2.1 (F (F a 3) 0))) (aI (G.2.1 (F (F a 3) 1))) := by exact ron
theorem v_X10_leans_77_2 {K : Nat → Nat} {F : Nat → Nat → Nat} (a : Nat) (G : XG) (p0 : Int32) (p1 : Int32) (x6 : Int32) (p2 : Int32)
    (ha : K a = 12)
    (sb : 0 ≤ ((G.1 (F a 2) 2).toInt) ∧ ((G.1 (F a 2) 2).toInt) ≤ 12)
    (z5 : ¬ (0 ≤ p0.toInt ∧ p0.toInt < 3 ∧ 0 ≤ p1.toInt ∧ p1.toInt < 30) → (cel (vw (G.2.1 (F (F a 3) 0))) (p0.toInt) (p1.toInt) 0) = -2000)
    (t6 : (x6.toInt = 1 ∧ (cel (vw (G.2.1 (F (F a 3) 0))) (p0.toInt) (p1.toInt) 0) ≠ -2000) ∨ (x6.toInt = 0 ∧ (cel (vw (G.2.1 (F (F a 3) 0))) (p0.toInt) (p1.toInt) 0) = -2000))
    (c9 : x6.toInt ≠ 0)
    (c15 : ¬ p2.toInt = 0 ∧ ¬ p2.toInt = 1) :
    ((cel (vw (G.2.1 (F (F a 3) 0))) p0.toInt p1.toInt 0 = -2000 ∨ (p2.toInt ≠ 0 ∧ p2.toInt ≠ 1)) ∧ (-1 : Int) = -1) ∨ (cel (vw (G.2.1 (F (F a 3) 0))) p0.toInt p1.toInt 0 ≠ -2000 ∧ ((p2.toInt = 0 ∧ ∃ b : Int → Int, (-1 : Int) = toB b 3 ∧ ∀ t j : Int, inR t j → (bI (b t) j = 1 ↔ lnC G (G.2.2.1 (F (F a 2) 1)) (vw (G.2.1 (F (F a 3) 0))) ((G.1 (F a 2) 2).toInt) t j p0.toInt p1.toInt)) ∨ (p2.toInt = 1 ∧ ∃ b : Int → Int, (-1 : Int) = toB b 3 - 1 ∧ ∀ t j : Int, inR t j → (bI (b t) j = 1 ↔ RCH (lnC G (G.2.2.1 (F (F a 2) 1)) (vw (G.2.1 (F (F a 3) 0))) ((G.1 (F a 2) 2).toInt)) p0.toInt p1.toInt t j)))) := by
  exact Or.inl ⟨Or.inr (by omega), rfl⟩
theorem v_X10_leans_54_3 {K : Nat → Nat} {F : Nat → Nat → Nat} (a : Nat) (G : XG)
    (bko : BKr K G (G.2.2.1 (F (F a 2) 1))) :
    BKr K G (G.2.2.1 (F (F a 2) 1)) := by exact bko
theorem v_X10_leans_57_4 {K : Nat → Nat} {F : Nat → Nat → Nat} (a : Nat) (G : XG) (x54 : Int32) (p0 : Int32) (p1 : Int32) (x6 : Int32) (p2 : Int32)
    (ha : K a = 12)
    (oq54 : ∃ b : Int → Int, x54.toInt = toB b 3 ∧ ∀ t j : Int, inR t j → (bI (b t) j = 1 ↔ lnC G (G.2.2.1 (F (F a 2) 1)) (vw (G.2.1 (F (F a 3) 0))) ((G.1 (F a 2) 2).toInt) t j p0.toInt p1.toInt))
    (sb : 0 ≤ ((G.1 (F a 2) 2).toInt) ∧ ((G.1 (F a 2) 2).toInt) ≤ 12)
    (z5 : ¬ (0 ≤ p0.toInt ∧ p0.toInt < 3 ∧ 0 ≤ p1.toInt ∧ p1.toInt < 30) → (cel (vw (G.2.1 (F (F a 3) 0))) (p0.toInt) (p1.toInt) 0) = -2000)
    (t6 : (x6.toInt = 1 ∧ (cel (vw (G.2.1 (F (F a 3) 0))) (p0.toInt) (p1.toInt) 0) ≠ -2000) ∨ (x6.toInt = 0 ∧ (cel (vw (G.2.1 (F (F a 3) 0))) (p0.toInt) (p1.toInt) 0) = -2000))
    (c9 : x6.toInt ≠ 0)
    (c15 : p2.toInt = 0) :
    ((cel (vw (G.2.1 (F (F a 3) 0))) p0.toInt p1.toInt 0 = -2000 ∨ (p2.toInt ≠ 0 ∧ p2.toInt ≠ 1)) ∧ x54.toInt = -1) ∨ (cel (vw (G.2.1 (F (F a 3) 0))) p0.toInt p1.toInt 0 ≠ -2000 ∧ ((p2.toInt = 0 ∧ ∃ b : Int → Int, x54.toInt = toB b 3 ∧ ∀ t j : Int, inR t j → (bI (b t) j = 1 ↔ lnC G (G.2.2.1 (F (F a 2) 1)) (vw (G.2.1 (F (F a 3) 0))) ((G.1 (F a 2) 2).toInt) t j p0.toInt p1.toInt)) ∨ (p2.toInt = 1 ∧ ∃ b : Int → Int, x54.toInt = toB b 3 - 1 ∧ ∀ t j : Int, inR t j → (bI (b t) j = 1 ↔ RCH (lnC G (G.2.2.1 (F (F a 2) 1)) (vw (G.2.1 (F (F a 3) 0))) ((G.1 (F a 2) 2).toInt)) p0.toInt p1.toInt t j)))) := by
  exact Or.inr ⟨by omega, Or.inl ⟨by omega, oq54⟩⟩
theorem v_X10_leans_72_5 {K : Nat → Nat} {F : Nat → Nat → Nat} (a : Nat) (G : XG)
    (bko : BKr K G (G.2.2.1 (F (F a 2) 1))) :
    BKr K G (G.2.2.1 (F (F a 2) 1)) := by exact bko
theorem v_X10_leans_75_6 {K : Nat → Nat} {F : Nat → Nat → Nat} (a : Nat) (G : XG) (x72 : Int32) (p0 : Int32) (p1 : Int32) (x6 : Int32) (p2 : Int32)
    (ha : K a = 12)
    (oq72 : ∃ b : Int → Int, x72.toInt = toB b 3 - 1 ∧ ∀ t j : Int, inR t j → (bI (b t) j = 1 ↔ RCH (lnC G (G.2.2.1 (F (F a 2) 1)) (vw (G.2.1 (F (F a 3) 0))) ((G.1 (F a 2) 2).toInt)) p0.toInt p1.toInt t j))
    (sb : 0 ≤ ((G.1 (F a 2) 2).toInt) ∧ ((G.1 (F a 2) 2).toInt) ≤ 12)
    (z5 : ¬ (0 ≤ p0.toInt ∧ p0.toInt < 3 ∧ 0 ≤ p1.toInt ∧ p1.toInt < 30) → (cel (vw (G.2.1 (F (F a 3) 0))) (p0.toInt) (p1.toInt) 0) = -2000)
    (t6 : (x6.toInt = 1 ∧ (cel (vw (G.2.1 (F (F a 3) 0))) (p0.toInt) (p1.toInt) 0) ≠ -2000) ∨ (x6.toInt = 0 ∧ (cel (vw (G.2.1 (F (F a 3) 0))) (p0.toInt) (p1.toInt) 0) = -2000))
    (c9 : x6.toInt ≠ 0)
    (c15 : p2.toInt = 1) :
    ((cel (vw (G.2.1 (F (F a 3) 0))) p0.toInt p1.toInt 0 = -2000 ∨ (p2.toInt ≠ 0 ∧ p2.toInt ≠ 1)) ∧ x72.toInt = -1) ∨ (cel (vw (G.2.1 (F (F a 3) 0))) p0.toInt p1.toInt 0 ≠ -2000 ∧ ((p2.toInt = 0 ∧ ∃ b : Int → Int, x72.toInt = toB b 3 ∧ ∀ t j : Int, inR t j → (bI (b t) j = 1 ↔ lnC G (G.2.2.1 (F (F a 2) 1)) (vw (G.2.1 (F (F a 3) 0))) ((G.1 (F a 2) 2).toInt) t j p0.toInt p1.toInt)) ∨ (p2.toInt = 1 ∧ ∃ b : Int → Int, x72.toInt = toB b 3 - 1 ∧ ∀ t j : Int, inR t j → (bI (b t) j = 1 ↔ RCH (lnC G (G.2.2.1 (F (F a 2) 1)) (vw (G.2.1 (F (F a 3) 0))) ((G.1 (F a 2) 2).toInt)) p0.toInt p1.toInt t j)))) := by
  exact Or.inr ⟨by omega, Or.inr ⟨by omega, oq72⟩⟩
theorem v_X10_leans_13_7 {K : Nat → Nat} {F : Nat → Nat → Nat} (a : Nat) (G : XG) (p0 : Int32) (p1 : Int32) (x6 : Int32) (p2 : Int32)
    (ha : K a = 12)
    (sb : 0 ≤ ((G.1 (F a 2) 2).toInt) ∧ ((G.1 (F a 2) 2).toInt) ≤ 12)
    (z5 : ¬ (0 ≤ p0.toInt ∧ p0.toInt < 3 ∧ 0 ≤ p1.toInt ∧ p1.toInt < 30) → (cel (vw (G.2.1 (F (F a 3) 0))) (p0.toInt) (p1.toInt) 0) = -2000)
    (t6 : (x6.toInt = 1 ∧ (cel (vw (G.2.1 (F (F a 3) 0))) (p0.toInt) (p1.toInt) 0) ≠ -2000) ∨ (x6.toInt = 0 ∧ (cel (vw (G.2.1 (F (F a 3) 0))) (p0.toInt) (p1.toInt) 0) = -2000))
    (c9 : ¬ (x6.toInt ≠ 0)) :
    ((cel (vw (G.2.1 (F (F a 3) 0))) p0.toInt p1.toInt 0 = -2000 ∨ (p2.toInt ≠ 0 ∧ p2.toInt ≠ 1)) ∧ (-1 : Int) = -1) ∨ (cel (vw (G.2.1 (F (F a 3) 0))) p0.toInt p1.toInt 0 ≠ -2000 ∧ ((p2.toInt = 0 ∧ ∃ b : Int → Int, (-1 : Int) = toB b 3 ∧ ∀ t j : Int, inR t j → (bI (b t) j = 1 ↔ lnC G (G.2.2.1 (F (F a 2) 1)) (vw (G.2.1 (F (F a 3) 0))) ((G.1 (F a 2) 2).toInt) t j p0.toInt p1.toInt)) ∨ (p2.toInt = 1 ∧ ∃ b : Int → Int, (-1 : Int) = toB b 3 - 1 ∧ ∀ t j : Int, inR t j → (bI (b t) j = 1 ↔ RCH (lnC G (G.2.2.1 (F (F a 2) 1)) (vw (G.2.1 (F (F a 3) 0))) ((G.1 (F a 2) 2).toInt)) p0.toInt p1.toInt t j)))) := by
  exact Or.inl ⟨Or.inl (by omega), rfl⟩
