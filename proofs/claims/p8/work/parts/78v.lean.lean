theorem v_X10_leans_6_1 {K : Nat → Nat} {F : Nat → Nat → Nat} (a : Nat) (G : XG)
    (ha : K a = 12)
    (hk9999 : K (F a 13) = 5)
    (hj9999 : F (F a 13) 99 = 0)
    (hk9999a : K (F (F a 13) 0) = 21)
    (hj9999a : F (F (F a 13) 0) 99 = 102)
    (hk9999b : K (F (F a 13) 1) = 24)
    (hj9999b : F (F (F a 13) 1) 99 = 5)
    (hk9999c : K (F (F a 13) 2) = 24)
    (hj9999c : F (F (F a 13) 2) 99 = 6)
    (hk9999d : K (F a 3) = 8)
    (hj9999d : F (F a 3) 99 = 0)
    (hk9999e : K (F (F a 3) 0) = 20)
    (hj9999f : F (F (F a 3) 0) 99 = 0)
    (hk9999f : K (F (F a 3) 1) = 21)
    (hj9999h : F (F (F a 3) 1) 99 = 0)
    (ron : RO (vw (G.2.1 (F (F a 3) 0))) (aI (G.2.1 (F (F a 3) 1)))) :
    RO (vw (G.2.1 (F (F a 3) 0))) (aI (G.2.1 (F (F a 3) 1))) := by
  first | assumption | omega
