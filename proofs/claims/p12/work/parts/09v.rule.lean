theorem v_X7_isOnRing_30_1 {F : Nat → Nat → Nat} (p0 : Nat) (G : XG)
    (hro : RO (vw (G.2.1 (F p0 0))) (aI (G.2.1 (F p0 1)))) :
    RO (vw (G.2.1 (F p0 0))) (aI (G.2.1 (F p0 1))) := by exact hro
theorem v_X7_state_75_1 {F : Nat → Nat → Nat} (p0 : Nat) (G : XG)
    (hro : RO (vw (G.2.1 (F p0 0))) (aI (G.2.1 (F p0 1)))) :
    RO (vw (G.2.1 (F p0 0))) (aI (G.2.1 (F p0 1))) := by exact hro
theorem v_X7_state_102_2 {F : Nat → Nat → Nat} (p0 : Nat) (G : XG)
    (hro : RO (vw (G.2.1 (F p0 0))) (aI (G.2.1 (F p0 1)))) :
    RO (vw (G.2.1 (F p0 0))) (aI (G.2.1 (F p0 1))) := by exact hro
theorem v_X7_state_75_3 {F : Nat → Nat → Nat} (p0 : Nat) (G : XG)
    (hro : RO (vw (G.2.1 (F p0 0))) (aI (G.2.1 (F p0 1)))) :
    RO (vw (G.2.1 (F p0 0))) (aI (G.2.1 (F p0 1))) := by exact hro
theorem v_X7_fails_142_1 {F : Nat → Nat → Nat} (p0 : Nat) (G : XG)
    (hro : RO (vw (G.2.1 (F p0 0))) (aI (G.2.1 (F p0 1)))) :
    RO (vw (G.2.1 (F p0 0))) (aI (G.2.1 (F p0 1))) := by exact hro