theorem v_X10_actAsOnPaper_14_1 {F : Nat → Nat → Nat} (a : Nat) (G : XG)
    (ron : RO (vw (G.2.1 (F (F a 3) 0))) (aI (G.2.1 (F (F a 3) 1)))) :
    RO (vw (G.2.1 (F (F a 3) 0))) (aI (G.2.1 (F (F a 3) 1))) := by exact ron
theorem v_X10_actAsOnPaper_14_2 {F : Nat → Nat → Nat} (a : Nat) (G : XG)
    (rop : RO (vw (G.2.1 (F (F a 5) 0))) (aI (G.2.1 (F (F a 5) 1)))) :
    RO (vw (G.2.1 (F (F a 5) 0))) (aI (G.2.1 (F (F a 5) 1))) := by exact rop
theorem v_X10_actAsOnPaper_14_3 {K : Nat → Nat} {F : Nat → Nat → Nat} (a : Nat) (G : XG)
    (ha : K a = 12)
    (hk9999 : K (F a 11) = 3)
    (hj9999 : F (F a 11) 99 = 0)
    (hk9999a : K (F a 9) = 6)
    (hj9999a : F (F a 9) 99 = 1)
    (hk9999b : K (F a 14) = 11)
    (hj9999b : F (F a 14) 99 = 0)
    (hk9999c : K (F a 10) = 6)
    (hj9999c : F (F a 10) 99 = 2)
    (hk9999d : K (F a 8) = 6)
    (hj9999d : F (F a 8) 99 = 0)
    (hk9999e : K (F (F a 11) 0) = 21)
    (hj9999e : F (F (F a 11) 0) 99 = 100)
    (hk9999f : K (F (F a 11) 1) = 21)
    (hj9999f : F (F (F a 11) 1) 99 = 101)
    (hk9999g : K (F (F a 11) 2) = 24)
    (hj9999g : F (F (F a 11) 2) 99 = 4)
    (hk9999h : K (F (F a 9) 0) = 22)
    (hj9999i : F (F (F a 9) 0) 99 = 10 * 1 + 0)
    (hk9999i : K (F (F a 9) 1) = 22)
    (hj9999k : F (F (F a 9) 1) 99 = 10 * 1 + 1)
    (hk9999j : K (F (F a 9) 2) = 22)
    (hj9999m : F (F (F a 9) 2) 99 = 10 * 1 + 2)
    (hk9999k : K (F (F a 9) 3) = 22)
    (hj9999o : F (F (F a 9) 3) 99 = 10 * 1 + 3)
    (hk9999l : K (F (F a 9) 4) = 23)
    (hj9999q : F (F (F a 9) 4) 99 = 10 * 1 + 4)
    (hk9999m : K (F (F a 9) 5) = 23)
    (hj9999s : F (F (F a 9) 5) 99 = 10 * 1 + 5)
    (hk9999n : K (F a 16) = 27)
    (hj9999t : F (F a 16) 99 = 0)
    (hk9999o : K (F a 15) = 26)
    (hj9999u : F (F a 15) 99 = 0)
    (hk9999p : K (F (F a 10) 0) = 22)
    (hj9999w : F (F (F a 10) 0) 99 = 10 * 2 + 0)
    (hk9999q : K (F (F a 10) 1) = 22)
    (hj9999z25 : F (F (F a 10) 1) 99 = 10 * 2 + 1)
    (hk9999r : K (F (F a 10) 2) = 22)
    (hj9999z27 : F (F (F a 10) 2) 99 = 10 * 2 + 2)
    (hk9999s : K (F (F a 10) 3) = 22)
    (hj9999z29 : F (F (F a 10) 3) 99 = 10 * 2 + 3)
    (hk9999t : K (F (F a 10) 4) = 23)
    (hj9999z31 : F (F (F a 10) 4) 99 = 10 * 2 + 4)
    (hk9999u : K (F (F a 10) 5) = 23)
    (hj9999z33 : F (F (F a 10) 5) 99 = 10 * 2 + 5)
    (hk9999v : K (F a 3) = 8)
    (hj9999z34 : F (F a 3) 99 = 0)
    (hk9999w : K (F (F a 3) 0) = 20)
    (hj9999z36 : F (F (F a 3) 0) 99 = 0)
    (hk9999y : K (F (F a 3) 1) = 21)
    (hj9999z38 : F (F (F a 3) 1) 99 = 0)
    (hk9999z25 : K (F (F a 8) 0) = 22)
    (hj9999z40 : F (F (F a 8) 0) 99 = 10 * 0 + 0)
    (hk9999z26 : K (F (F a 8) 1) = 22)
    (hj9999z42 : F (F (F a 8) 1) 99 = 10 * 0 + 1)
    (hk9999z27 : K (F (F a 8) 2) = 22)
    (hj9999z44 : F (F (F a 8) 2) 99 = 10 * 0 + 2)
    (hk9999z28 : K (F (F a 8) 3) = 22)
    (hj9999z46 : F (F (F a 8) 3) 99 = 10 * 0 + 3)
    (hk9999z29 : K (F (F a 8) 4) = 23)
    (hj9999z48 : F (F (F a 8) 4) 99 = 10 * 0 + 4)
    (hk9999z30 : K (F (F a 8) 5) = 23)
    (hj9999z50 : F (F (F a 8) 5) 99 = 10 * 0 + 5)
    (hk9999z31 : K (F a 2) = 2)
    (hj9999z51 : F (F a 2) 99 = 0)
    (hk9999z32 : K (F (F a 2) 1) = 15)
    (hj9999z52 : F (F (F a 2) 1) 99 = 1)
    (hk9999z33 : K (F (F a 2) 0) = 15)
    (hj9999z53 : F (F (F a 2) 0) 99 = 0)
    (hk9999z34 : K (F a 4) = 8)
    (hj9999z54 : F (F a 4) 99 = 1)
    (hk9999z35 : K (F (F a 4) 0) = 20)
    (hj9999z56 : F (F (F a 4) 0) 99 = 1)
    (hk9999z36 : K (F (F a 4) 1) = 21)
    (hj9999z58 : F (F (F a 4) 1) 99 = 1)
    (hk9999z37 : K (F a 5) = 8)
    (hj9999z59 : F (F a 5) 99 = 2)
    (hk9999z38 : K (F (F a 5) 0) = 20)
    (hj9999z61 : F (F (F a 5) 0) 99 = 2)
    (hk9999z39 : K (F (F a 5) 1) = 21)
    (hj9999z63 : F (F (F a 5) 1) 99 = 2)
    (ron : RO (vw (G.2.1 (F (F a 3) 0))) (aI (G.2.1 (F (F a 3) 1))))
    (rop : RO (vw (G.2.1 (F (F a 5) 0))) (aI (G.2.1 (F (F a 5) 1))))
    (rob : RO (vw (G.2.1 (F (F a 4) 0))) (aI (G.2.1 (F (F a 4) 1))))
    (bko : BKr K G (G.2.2.1 (F (F a 2) 1)))
    (bkn : BKr K G (G.2.2.1 (F (F a 2) 0)))
    (sb : 0 ≤ ((G.1 (F a 2) 2).toInt) ∧ ((G.1 (F a 2) 2).toInt) ≤ 12)
    (sw : 0 ≤ ((G.1 (F a 8) 6).toInt) ∧ ((G.1 (F a 8) 6).toInt) ≤ 1080) :
    ∀ (i q : Nat), i < 12 → G.2.2.1 (F (F a 2) 1) i = some q → RW (G.1 q) := by
  first
    | exact bko.rw
    | (have hd : ∀ p, p ∈ [(F a 11, 3), (F a 9, 6), (F a 14, 1), (F a 14, 2), (F a 14, 3), (F a 10, 6), (F a 8, 6)] → K p.1 ≠ 9 := (List.forall_mem_cons.mpr ⟨(show K (F a 11) ≠ 9 by omega), List.forall_mem_cons.mpr ⟨(show K (F a 9) ≠ 9 by omega), List.forall_mem_cons.mpr ⟨(show K (F a 14) ≠ 9 by omega), List.forall_mem_cons.mpr ⟨(show K (F a 14) ≠ 9 by omega), List.forall_mem_cons.mpr ⟨(show K (F a 14) ≠ 9 by omega), List.forall_mem_cons.mpr ⟨(show K (F a 10) ≠ 9 by omega), List.forall_mem_cons.mpr ⟨(show K (F a 8) ≠ 9 by omega), fun _ h => by cases h⟩⟩⟩⟩⟩⟩⟩)
       have h9 := (bko.fr hfr hd).rw
       rw [show G94.2.2.1 (F (F a 2) 1) = G.2.2.1 (F (F a 2) 1) by assumption]
       exact h9)
theorem v_X10_actAsOnPaper_14_4 {K : Nat → Nat} {F : Nat → Nat → Nat} (a : Nat) (G : XG)
    (ha : K a = 12)
    (hk9999 : K (F a 11) = 3)
    (hj9999 : F (F a 11) 99 = 0)
    (hk9999a : K (F a 9) = 6)
    (hj9999a : F (F a 9) 99 = 1)
    (hk9999b : K (F a 14) = 11)
    (hj9999b : F (F a 14) 99 = 0)
    (hk9999c : K (F a 10) = 6)
    (hj9999c : F (F a 10) 99 = 2)
    (hk9999d : K (F a 8) = 6)
    (hj9999d : F (F a 8) 99 = 0)
    (hk9999e : K (F (F a 11) 0) = 21)
    (hj9999e : F (F (F a 11) 0) 99 = 100)
    (hk9999f : K (F (F a 11) 1) = 21)
    (hj9999f : F (F (F a 11) 1) 99 = 101)
    (hk9999g : K (F (F a 11) 2) = 24)
    (hj9999g : F (F (F a 11) 2) 99 = 4)
    (hk9999h : K (F (F a 9) 0) = 22)
    (hj9999i : F (F (F a 9) 0) 99 = 10 * 1 + 0)
    (hk9999i : K (F (F a 9) 1) = 22)
    (hj9999k : F (F (F a 9) 1) 99 = 10 * 1 + 1)
    (hk9999j : K (F (F a 9) 2) = 22)
    (hj9999m : F (F (F a 9) 2) 99 = 10 * 1 + 2)
    (hk9999k : K (F (F a 9) 3) = 22)
    (hj9999o : F (F (F a 9) 3) 99 = 10 * 1 + 3)
    (hk9999l : K (F (F a 9) 4) = 23)
    (hj9999q : F (F (F a 9) 4) 99 = 10 * 1 + 4)
    (hk9999m : K (F (F a 9) 5) = 23)
    (hj9999s : F (F (F a 9) 5) 99 = 10 * 1 + 5)
    (hk9999n : K (F a 16) = 27)
    (hj9999t : F (F a 16) 99 = 0)
    (hk9999o : K (F a 15) = 26)
    (hj9999u : F (F a 15) 99 = 0)
    (hk9999p : K (F (F a 10) 0) = 22)
    (hj9999w : F (F (F a 10) 0) 99 = 10 * 2 + 0)
    (hk9999q : K (F (F a 10) 1) = 22)
    (hj9999z25 : F (F (F a 10) 1) 99 = 10 * 2 + 1)
    (hk9999r : K (F (F a 10) 2) = 22)
    (hj9999z27 : F (F (F a 10) 2) 99 = 10 * 2 + 2)
    (hk9999s : K (F (F a 10) 3) = 22)
    (hj9999z29 : F (F (F a 10) 3) 99 = 10 * 2 + 3)
    (hk9999t : K (F (F a 10) 4) = 23)
    (hj9999z31 : F (F (F a 10) 4) 99 = 10 * 2 + 4)
    (hk9999u : K (F (F a 10) 5) = 23)
    (hj9999z33 : F (F (F a 10) 5) 99 = 10 * 2 + 5)
    (hk9999v : K (F a 3) = 8)
    (hj9999z34 : F (F a 3) 99 = 0)
    (hk9999w : K (F (F a 3) 0) = 20)
    (hj9999z36 : F (F (F a 3) 0) 99 = 0)
    (hk9999y : K (F (F a 3) 1) = 21)
    (hj9999z38 : F (F (F a 3) 1) 99 = 0)
    (hk9999z25 : K (F (F a 8) 0) = 22)
    (hj9999z40 : F (F (F a 8) 0) 99 = 10 * 0 + 0)
    (hk9999z26 : K (F (F a 8) 1) = 22)
    (hj9999z42 : F (F (F a 8) 1) 99 = 10 * 0 + 1)
    (hk9999z27 : K (F (F a 8) 2) = 22)
    (hj9999z44 : F (F (F a 8) 2) 99 = 10 * 0 + 2)
    (hk9999z28 : K (F (F a 8) 3) = 22)
    (hj9999z46 : F (F (F a 8) 3) 99 = 10 * 0 + 3)
    (hk9999z29 : K (F (F a 8) 4) = 23)
    (hj9999z48 : F (F (F a 8) 4) 99 = 10 * 0 + 4)
    (hk9999z30 : K (F (F a 8) 5) = 23)
    (hj9999z50 : F (F (F a 8) 5) 99 = 10 * 0 + 5)
    (hk9999z31 : K (F a 2) = 2)
    (hj9999z51 : F (F a 2) 99 = 0)
    (hk9999z32 : K (F (F a 2) 1) = 15)
    (hj9999z52 : F (F (F a 2) 1) 99 = 1)
    (hk9999z33 : K (F (F a 2) 0) = 15)
    (hj9999z53 : F (F (F a 2) 0) 99 = 0)
    (hk9999z34 : K (F a 4) = 8)
    (hj9999z54 : F (F a 4) 99 = 1)
    (hk9999z35 : K (F (F a 4) 0) = 20)
    (hj9999z56 : F (F (F a 4) 0) 99 = 1)
    (hk9999z36 : K (F (F a 4) 1) = 21)
    (hj9999z58 : F (F (F a 4) 1) 99 = 1)
    (hk9999z37 : K (F a 5) = 8)
    (hj9999z59 : F (F a 5) 99 = 2)
    (hk9999z38 : K (F (F a 5) 0) = 20)
    (hj9999z61 : F (F (F a 5) 0) 99 = 2)
    (hk9999z39 : K (F (F a 5) 1) = 21)
    (hj9999z63 : F (F (F a 5) 1) 99 = 2)
    (ron : RO (vw (G.2.1 (F (F a 3) 0))) (aI (G.2.1 (F (F a 3) 1))))
    (rop : RO (vw (G.2.1 (F (F a 5) 0))) (aI (G.2.1 (F (F a 5) 1))))
    (rob : RO (vw (G.2.1 (F (F a 4) 0))) (aI (G.2.1 (F (F a 4) 1))))
    (bko : BKr K G (G.2.2.1 (F (F a 2) 1)))
    (bkn : BKr K G (G.2.2.1 (F (F a 2) 0)))
    (sb : 0 ≤ ((G.1 (F a 2) 2).toInt) ∧ ((G.1 (F a 2) 2).toInt) ≤ 12)
    (sw : 0 ≤ ((G.1 (F a 8) 6).toInt) ∧ ((G.1 (F a 8) 6).toInt) ≤ 1080) :
    F (F a 3) 99 < 12 := by
  first | assumption | omega
theorem v_X10_actAsOnPaper_14_5 {K : Nat → Nat} {F : Nat → Nat → Nat} (a : Nat) (G : XG)
    (ha : K a = 12)
    (hk9999 : K (F a 11) = 3)
    (hj9999 : F (F a 11) 99 = 0)
    (hk9999a : K (F a 9) = 6)
    (hj9999a : F (F a 9) 99 = 1)
    (hk9999b : K (F a 14) = 11)
    (hj9999b : F (F a 14) 99 = 0)
    (hk9999c : K (F a 10) = 6)
    (hj9999c : F (F a 10) 99 = 2)
    (hk9999d : K (F a 8) = 6)
    (hj9999d : F (F a 8) 99 = 0)
    (hk9999e : K (F (F a 11) 0) = 21)
    (hj9999e : F (F (F a 11) 0) 99 = 100)
    (hk9999f : K (F (F a 11) 1) = 21)
    (hj9999f : F (F (F a 11) 1) 99 = 101)
    (hk9999g : K (F (F a 11) 2) = 24)
    (hj9999g : F (F (F a 11) 2) 99 = 4)
    (hk9999h : K (F (F a 9) 0) = 22)
    (hj9999i : F (F (F a 9) 0) 99 = 10 * 1 + 0)
    (hk9999i : K (F (F a 9) 1) = 22)
    (hj9999k : F (F (F a 9) 1) 99 = 10 * 1 + 1)
    (hk9999j : K (F (F a 9) 2) = 22)
    (hj9999m : F (F (F a 9) 2) 99 = 10 * 1 + 2)
    (hk9999k : K (F (F a 9) 3) = 22)
    (hj9999o : F (F (F a 9) 3) 99 = 10 * 1 + 3)
    (hk9999l : K (F (F a 9) 4) = 23)
    (hj9999q : F (F (F a 9) 4) 99 = 10 * 1 + 4)
    (hk9999m : K (F (F a 9) 5) = 23)
    (hj9999s : F (F (F a 9) 5) 99 = 10 * 1 + 5)
    (hk9999n : K (F a 16) = 27)
    (hj9999t : F (F a 16) 99 = 0)
    (hk9999o : K (F a 15) = 26)
    (hj9999u : F (F a 15) 99 = 0)
    (hk9999p : K (F (F a 10) 0) = 22)
    (hj9999w : F (F (F a 10) 0) 99 = 10 * 2 + 0)
    (hk9999q : K (F (F a 10) 1) = 22)
    (hj9999z25 : F (F (F a 10) 1) 99 = 10 * 2 + 1)
    (hk9999r : K (F (F a 10) 2) = 22)
    (hj9999z27 : F (F (F a 10) 2) 99 = 10 * 2 + 2)
    (hk9999s : K (F (F a 10) 3) = 22)
    (hj9999z29 : F (F (F a 10) 3) 99 = 10 * 2 + 3)
    (hk9999t : K (F (F a 10) 4) = 23)
    (hj9999z31 : F (F (F a 10) 4) 99 = 10 * 2 + 4)
    (hk9999u : K (F (F a 10) 5) = 23)
    (hj9999z33 : F (F (F a 10) 5) 99 = 10 * 2 + 5)
    (hk9999v : K (F a 3) = 8)
    (hj9999z34 : F (F a 3) 99 = 0)
    (hk9999w : K (F (F a 3) 0) = 20)
    (hj9999z36 : F (F (F a 3) 0) 99 = 0)
    (hk9999y : K (F (F a 3) 1) = 21)
    (hj9999z38 : F (F (F a 3) 1) 99 = 0)
    (hk9999z25 : K (F (F a 8) 0) = 22)
    (hj9999z40 : F (F (F a 8) 0) 99 = 10 * 0 + 0)
    (hk9999z26 : K (F (F a 8) 1) = 22)
    (hj9999z42 : F (F (F a 8) 1) 99 = 10 * 0 + 1)
    (hk9999z27 : K (F (F a 8) 2) = 22)
    (hj9999z44 : F (F (F a 8) 2) 99 = 10 * 0 + 2)
    (hk9999z28 : K (F (F a 8) 3) = 22)
    (hj9999z46 : F (F (F a 8) 3) 99 = 10 * 0 + 3)
    (hk9999z29 : K (F (F a 8) 4) = 23)
    (hj9999z48 : F (F (F a 8) 4) 99 = 10 * 0 + 4)
    (hk9999z30 : K (F (F a 8) 5) = 23)
    (hj9999z50 : F (F (F a 8) 5) 99 = 10 * 0 + 5)
    (hk9999z31 : K (F a 2) = 2)
    (hj9999z51 : F (F a 2) 99 = 0)
    (hk9999z32 : K (F (F a 2) 1) = 15)
    (hj9999z52 : F (F (F a 2) 1) 99 = 1)
    (hk9999z33 : K (F (F a 2) 0) = 15)
    (hj9999z53 : F (F (F a 2) 0) 99 = 0)
    (hk9999z34 : K (F a 4) = 8)
    (hj9999z54 : F (F a 4) 99 = 1)
    (hk9999z35 : K (F (F a 4) 0) = 20)
    (hj9999z56 : F (F (F a 4) 0) 99 = 1)
    (hk9999z36 : K (F (F a 4) 1) = 21)
    (hj9999z58 : F (F (F a 4) 1) 99 = 1)
    (hk9999z37 : K (F a 5) = 8)
    (hj9999z59 : F (F a 5) 99 = 2)
    (hk9999z38 : K (F (F a 5) 0) = 20)
    (hj9999z61 : F (F (F a 5) 0) 99 = 2)
    (hk9999z39 : K (F (F a 5) 1) = 21)
    (hj9999z63 : F (F (F a 5) 1) 99 = 2)
    (ron : RO (vw (G.2.1 (F (F a 3) 0))) (aI (G.2.1 (F (F a 3) 1))))
    (rop : RO (vw (G.2.1 (F (F a 5) 0))) (aI (G.2.1 (F (F a 5) 1))))
    (rob : RO (vw (G.2.1 (F (F a 4) 0))) (aI (G.2.1 (F (F a 4) 1))))
    (bko : BKr K G (G.2.2.1 (F (F a 2) 1)))
    (bkn : BKr K G (G.2.2.1 (F (F a 2) 0)))
    (sb : 0 ≤ ((G.1 (F a 2) 2).toInt) ∧ ((G.1 (F a 2) 2).toInt) ≤ 12)
    (sw : 0 ≤ ((G.1 (F a 8) 6).toInt) ∧ ((G.1 (F a 8) 6).toInt) ≤ 1080) :
    F (F a 5) 99 < 12 := by
  first | assumption | omega
theorem v_X10_actAsOnPaper_73_6 {F : Nat → Nat → Nat} (a : Nat) (G : XG) (G18 : XG)
    (ron : RO (vw (G.2.1 (F (F a 3) 0))) (aI (G.2.1 (F (F a 3) 1))))
    (rop : RO (vw (G.2.1 (F (F a 5) 0))) (aI (G.2.1 (F (F a 5) 1))))
    (rob : RO (vw (G.2.1 (F (F a 4) 0))) (aI (G.2.1 (F (F a 4) 1))))
    (c_G18_F_F_a_4_0 : G18.2.1 (F (F a 4) 0) = G.2.1 (F (F a 4) 0))
    (c_G18_F_F_a_4_1 : G18.2.1 (F (F a 4) 1) = G.2.1 (F (F a 4) 1)) :
    RO (vw (G18.2.1 (F (F a 4) 0))) (aI (G18.2.1 (F (F a 4) 1))) := by simp only [c_G18_F_F_a_4_0, c_G18_F_F_a_4_1]; assumption
theorem v_X10_actAsOnPaper_73_7 {K : Nat → Nat} {F : Nat → Nat → Nat} (a : Nat) (G : XG) (G18 : XG) (G14 : XG) (x18 : Int32)
    (ha : K a = 12)
    (hk9999 : K (F a 11) = 3)
    (hj9999 : F (F a 11) 99 = 0)
    (hk9999a : K (F a 9) = 6)
    (hj9999a : F (F a 9) 99 = 1)
    (hk9999b : K (F a 14) = 11)
    (hj9999b : F (F a 14) 99 = 0)
    (hk9999c : K (F a 10) = 6)
    (hj9999c : F (F a 10) 99 = 2)
    (hk9999d : K (F a 8) = 6)
    (hj9999d : F (F a 8) 99 = 0)
    (hk9999e : K (F (F a 11) 0) = 21)
    (hj9999e : F (F (F a 11) 0) 99 = 100)
    (hk9999f : K (F (F a 11) 1) = 21)
    (hj9999f : F (F (F a 11) 1) 99 = 101)
    (hk9999g : K (F (F a 11) 2) = 24)
    (hj9999g : F (F (F a 11) 2) 99 = 4)
    (hk9999h : K (F (F a 9) 0) = 22)
    (hj9999i : F (F (F a 9) 0) 99 = 10 * 1 + 0)
    (hk9999i : K (F (F a 9) 1) = 22)
    (hj9999k : F (F (F a 9) 1) 99 = 10 * 1 + 1)
    (hk9999j : K (F (F a 9) 2) = 22)
    (hj9999m : F (F (F a 9) 2) 99 = 10 * 1 + 2)
    (hk9999k : K (F (F a 9) 3) = 22)
    (hj9999o : F (F (F a 9) 3) 99 = 10 * 1 + 3)
    (hk9999l : K (F (F a 9) 4) = 23)
    (hj9999q : F (F (F a 9) 4) 99 = 10 * 1 + 4)
    (hk9999m : K (F (F a 9) 5) = 23)
    (hj9999s : F (F (F a 9) 5) 99 = 10 * 1 + 5)
    (hk9999n : K (F a 16) = 27)
    (hj9999t : F (F a 16) 99 = 0)
    (hk9999o : K (F a 15) = 26)
    (hj9999u : F (F a 15) 99 = 0)
    (hk9999p : K (F (F a 10) 0) = 22)
    (hj9999w : F (F (F a 10) 0) 99 = 10 * 2 + 0)
    (hk9999q : K (F (F a 10) 1) = 22)
    (hj9999z25 : F (F (F a 10) 1) 99 = 10 * 2 + 1)
    (hk9999r : K (F (F a 10) 2) = 22)
    (hj9999z27 : F (F (F a 10) 2) 99 = 10 * 2 + 2)
    (hk9999s : K (F (F a 10) 3) = 22)
    (hj9999z29 : F (F (F a 10) 3) 99 = 10 * 2 + 3)
    (hk9999t : K (F (F a 10) 4) = 23)
    (hj9999z31 : F (F (F a 10) 4) 99 = 10 * 2 + 4)
    (hk9999u : K (F (F a 10) 5) = 23)
    (hj9999z33 : F (F (F a 10) 5) 99 = 10 * 2 + 5)
    (hk9999v : K (F a 3) = 8)
    (hj9999z34 : F (F a 3) 99 = 0)
    (hk9999w : K (F (F a 3) 0) = 20)
    (hj9999z36 : F (F (F a 3) 0) 99 = 0)
    (hk9999y : K (F (F a 3) 1) = 21)
    (hj9999z38 : F (F (F a 3) 1) 99 = 0)
    (hk9999z25 : K (F (F a 8) 0) = 22)
    (hj9999z40 : F (F (F a 8) 0) 99 = 10 * 0 + 0)
    (hk9999z26 : K (F (F a 8) 1) = 22)
    (hj9999z42 : F (F (F a 8) 1) 99 = 10 * 0 + 1)
    (hk9999z27 : K (F (F a 8) 2) = 22)
    (hj9999z44 : F (F (F a 8) 2) 99 = 10 * 0 + 2)
    (hk9999z28 : K (F (F a 8) 3) = 22)
    (hj9999z46 : F (F (F a 8) 3) 99 = 10 * 0 + 3)
    (hk9999z29 : K (F (F a 8) 4) = 23)
    (hj9999z48 : F (F (F a 8) 4) 99 = 10 * 0 + 4)
    (hk9999z30 : K (F (F a 8) 5) = 23)
    (hj9999z50 : F (F (F a 8) 5) 99 = 10 * 0 + 5)
    (hk9999z31 : K (F a 2) = 2)
    (hj9999z51 : F (F a 2) 99 = 0)
    (hk9999z32 : K (F (F a 2) 1) = 15)
    (hj9999z52 : F (F (F a 2) 1) 99 = 1)
    (hk9999z33 : K (F (F a 2) 0) = 15)
    (hj9999z53 : F (F (F a 2) 0) 99 = 0)
    (hk9999z34 : K (F a 4) = 8)
    (hj9999z54 : F (F a 4) 99 = 1)
    (hk9999z35 : K (F (F a 4) 0) = 20)
    (hj9999z56 : F (F (F a 4) 0) 99 = 1)
    (hk9999z36 : K (F (F a 4) 1) = 21)
    (hj9999z58 : F (F (F a 4) 1) 99 = 1)
    (hk9999z37 : K (F a 5) = 8)
    (hj9999z59 : F (F a 5) 99 = 2)
    (hk9999z38 : K (F (F a 5) 0) = 20)
    (hj9999z61 : F (F (F a 5) 0) 99 = 2)
    (hk9999z39 : K (F (F a 5) 1) = 21)
    (hj9999z63 : F (F (F a 5) 1) 99 = 2)
    (hfr : XFr [(F a 11, 3), (F a 9, 6), (F a 14, 1), (F a 14, 2), (F a 14, 3), (F a 10, 6), (F a 8, 6)] [F (F a 11) 0, F (F a 11) 1, F (F a 11) 2, F (F a 9) 0, F (F a 9) 1, F (F a 9) 2, F (F a 9) 3, F (F a 9) 4, F (F a 9) 5, F a 16, F a 15, F (F a 10) 0, F (F a 10) 1, F (F a 10) 2, F (F a 10) 3, F (F a 10) 4, F (F a 10) 5, F (F a 3) 0, F (F a 3) 1, F (F a 8) 0, F (F a 8) 1, F (F a 8) 2, F (F a 8) 3, F (F a 8) 4, F (F a 8) 5] [] G G18)
    (hF14 : XFr [(F a 11, 3), (F a 9, 6)] [F (F a 11) 0, F (F a 11) 1, F (F a 11) 2, F (F a 9) 0, F (F a 9) 1, F (F a 9) 2, F (F a 9) 3, F (F a 9) 4, F (F a 9) 5] [] G G14)
    (hF18 : XFr [(F a 14, 1), (F a 14, 2), (F a 14, 3)] [F a 16] [] G14 G18)
    (ron : RO (vw (G.2.1 (F (F a 3) 0))) (aI (G.2.1 (F (F a 3) 1))))
    (rop : RO (vw (G.2.1 (F (F a 5) 0))) (aI (G.2.1 (F (F a 5) 1))))
    (rob : RO (vw (G.2.1 (F (F a 4) 0))) (aI (G.2.1 (F (F a 4) 1))))
    (bko : BKr K G (G.2.2.1 (F (F a 2) 1)))
    (bkn : BKr K G (G.2.2.1 (F (F a 2) 0)))
    (oq14 : qL G14 F (F a 9) = gaL G (G.2.2.1 (F (F a 2) 1)) (vw (G.2.1 (F (F a 3) 0))) (vw (G.2.1 (F (F a 5) 0))) (0 : Int) (((G.1 (F a 2) 2).toInt)).toNat)
    (oq18 : (x18.toInt = 1 ∧ ∀ x, x ∈ qL G14 F (F a 9) → x.2.2.2.2.1 = 0 → x.2.2.2.2.2 = 0) ∨ (x18.toInt = 0 ∧ ∃ x, x ∈ qL G14 F (F a 9) ∧ x.2.2.2.2.1 = 0 ∧ x.2.2.2.2.2 ≠ 0))
    (sb : 0 ≤ ((G.1 (F a 2) 2).toInt) ∧ ((G.1 (F a 2) 2).toInt) ≤ 12)
    (sw : 0 ≤ ((G.1 (F a 8) 6).toInt) ∧ ((G.1 (F a 8) 6).toInt) ≤ 1080)
    (t14 : 0 ≤ ((G14.1 (F a 9) 6).toInt) ∧ ((G14.1 (F a 9) 6).toInt) ≤ 1080)
    (c21 : x18.toInt ≠ 0)
    (f95 : ((G.1 a 18).toInt) = 0 ∨ ((G.1 a 18).toInt) = 1)
    (c35 : ((G.1 a 18).toInt) ≠ 0)
    (c_G18_F_F_a_10_0 : G18.2.1 (F (F a 10) 0) = G.2.1 (F (F a 10) 0))
    (c_G18_F_F_a_10_1 : G18.2.1 (F (F a 10) 1) = G.2.1 (F (F a 10) 1))
    (c_G18_F_F_a_10_2 : G18.2.1 (F (F a 10) 2) = G.2.1 (F (F a 10) 2))
    (c_G18_F_F_a_10_3 : G18.2.1 (F (F a 10) 3) = G.2.1 (F (F a 10) 3))
    (c_G18_F_F_a_10_4 : G18.2.1 (F (F a 10) 4) = G.2.1 (F (F a 10) 4))
    (c_G18_F_F_a_10_5 : G18.2.1 (F (F a 10) 5) = G.2.1 (F (F a 10) 5))
    (c_G18_F_F_a_11_0 : G18.2.1 (F (F a 11) 0) = G14.2.1 (F (F a 11) 0))
    (c_G18_F_F_a_11_1 : G18.2.1 (F (F a 11) 1) = G14.2.1 (F (F a 11) 1))
    (c_G18_F_F_a_11_2 : G18.2.1 (F (F a 11) 2) = G14.2.1 (F (F a 11) 2))
    (c_G18_F_F_a_3_0 : G18.2.1 (F (F a 3) 0) = G.2.1 (F (F a 3) 0))
    (c_G18_F_F_a_3_1 : G18.2.1 (F (F a 3) 1) = G.2.1 (F (F a 3) 1))
    (c_G18_F_F_a_8_0 : G18.2.1 (F (F a 8) 0) = G.2.1 (F (F a 8) 0))
    (c_G18_F_F_a_8_1 : G18.2.1 (F (F a 8) 1) = G.2.1 (F (F a 8) 1))
    (c_G18_F_F_a_8_2 : G18.2.1 (F (F a 8) 2) = G.2.1 (F (F a 8) 2))
    (c_G18_F_F_a_8_3 : G18.2.1 (F (F a 8) 3) = G.2.1 (F (F a 8) 3))
    (c_G18_F_F_a_8_4 : G18.2.1 (F (F a 8) 4) = G.2.1 (F (F a 8) 4))
    (c_G18_F_F_a_8_5 : G18.2.1 (F (F a 8) 5) = G.2.1 (F (F a 8) 5))
    (c_G18_F_F_a_9_0 : G18.2.1 (F (F a 9) 0) = G14.2.1 (F (F a 9) 0))
    (c_G18_F_F_a_9_1 : G18.2.1 (F (F a 9) 1) = G14.2.1 (F (F a 9) 1))
    (c_G18_F_F_a_9_2 : G18.2.1 (F (F a 9) 2) = G14.2.1 (F (F a 9) 2))
    (c_G18_F_F_a_9_3 : G18.2.1 (F (F a 9) 3) = G14.2.1 (F (F a 9) 3))
    (c_G18_F_F_a_9_4 : G18.2.1 (F (F a 9) 4) = G14.2.1 (F (F a 9) 4))
    (c_G18_F_F_a_9_5 : G18.2.1 (F (F a 9) 5) = G14.2.1 (F (F a 9) 5))
    (c_G18_F_a_15 : G18.2.1 (F a 15) = G.2.1 (F a 15))
    (r_G18_F_F_a_2_0 : G18.2.2.1 (F (F a 2) 0) = G.2.2.1 (F (F a 2) 0))
    (d_G18_F_a_10_6 : G18.1 (F a 10) 6 = G.1 (F a 10) 6)
    (d_G18_F_a_11_3 : G18.1 (F a 11) 3 = G14.1 (F a 11) 3)
    (d_G18_F_a_8_6 : G18.1 (F a 8) 6 = G.1 (F a 8) 6)
    (d_G18_F_a_9_6 : G18.1 (F a 9) 6 = G14.1 (F a 9) 6) :
    BKr K G18 (G18.2.2.1 (F (F a 2) 0)) := by
  have hd : ∀ p, p ∈ [(F a 11, 3), (F a 9, 6), (F a 14, 1), (F a 14, 2), (F a 14, 3), (F a 10, 6), (F a 8, 6)] → K p.1 ≠ 9 := (List.forall_mem_cons.mpr ⟨(show K (F a 11) ≠ 9 by omega), List.forall_mem_cons.mpr ⟨(show K (F a 9) ≠ 9 by omega), List.forall_mem_cons.mpr ⟨(show K (F a 14) ≠ 9 by omega), List.forall_mem_cons.mpr ⟨(show K (F a 14) ≠ 9 by omega), List.forall_mem_cons.mpr ⟨(show K (F a 14) ≠ 9 by omega), List.forall_mem_cons.mpr ⟨(show K (F a 10) ≠ 9 by omega), List.forall_mem_cons.mpr ⟨(show K (F a 8) ≠ 9 by omega), fun _ h => by cases h⟩⟩⟩⟩⟩⟩⟩)
  rw [show G18.2.2.1 (F (F a 2) 0) = G.2.2.1 (F (F a 2) 0) by assumption]
  exact bkn.fr hfr hd
theorem v_X10_actAsOnPaper_94_8 {F : Nat → Nat → Nat} (a : Nat) (G : XG) (G85 : XG)
    (ron : RO (vw (G.2.1 (F (F a 3) 0))) (aI (G.2.1 (F (F a 3) 1))))
    (rop : RO (vw (G.2.1 (F (F a 5) 0))) (aI (G.2.1 (F (F a 5) 1))))
    (rob : RO (vw (G.2.1 (F (F a 4) 0))) (aI (G.2.1 (F (F a 4) 1))))
    (c_G85_F_F_a_5_0 : G85.2.1 (F (F a 5) 0) = G.2.1 (F (F a 5) 0))
    (c_G85_F_F_a_5_1 : G85.2.1 (F (F a 5) 1) = G.2.1 (F (F a 5) 1)) :
    RO (vw (G85.2.1 (F (F a 5) 0))) (aI (G85.2.1 (F (F a 5) 1))) := by simp only [c_G85_F_F_a_5_0, c_G85_F_F_a_5_1]; assumption
theorem v_X10_actAsOnPaper_111_9 {F : Nat → Nat → Nat} (a : Nat) (G : XG) (G94 : XG)
    (ron : RO (vw (G.2.1 (F (F a 3) 0))) (aI (G.2.1 (F (F a 3) 1))))
    (rop : RO (vw (G.2.1 (F (F a 5) 0))) (aI (G.2.1 (F (F a 5) 1))))
    (rob : RO (vw (G.2.1 (F (F a 4) 0))) (aI (G.2.1 (F (F a 4) 1))))
    (oq94a : RO (vw (G94.2.1 (F (F a 3) 0))) (aI (G94.2.1 (F (F a 3) 1))))
    (c_G94_F_F_a_4_0 : G94.2.1 (F (F a 4) 0) = G.2.1 (F (F a 4) 0))
    (c_G94_F_F_a_4_1 : G94.2.1 (F (F a 4) 1) = G.2.1 (F (F a 4) 1)) :
    RO (vw (G94.2.1 (F (F a 4) 0))) (aI (G94.2.1 (F (F a 4) 1))) := by simp only [c_G94_F_F_a_4_0, c_G94_F_F_a_4_1]; assumption
theorem v_X10_actAsOnPaper_111_10 {F : Nat → Nat → Nat} (a : Nat) (G94 : XG)
    (oq94a : RO (vw (G94.2.1 (F (F a 3) 0))) (aI (G94.2.1 (F (F a 3) 1)))) :
    RO (vw (G94.2.1 (F (F a 3) 0))) (aI (G94.2.1 (F (F a 3) 1))) := by exact oq94a
theorem v_X10_actAsOnPaper_111_11 {K : Nat → Nat} {F : Nat → Nat → Nat} (a : Nat) (G : XG) (G94 : XG) (G14 : XG) (G18 : XG) (G73 : XG) (G85 : XG) (x84 : Int32) (x18 : Int32) (x82 : Int32)
    (ha : K a = 12)
    (hk9999 : K (F a 11) = 3)
    (hj9999 : F (F a 11) 99 = 0)
    (hk9999a : K (F a 9) = 6)
    (hj9999a : F (F a 9) 99 = 1)
    (hk9999b : K (F a 14) = 11)
    (hj9999b : F (F a 14) 99 = 0)
    (hk9999c : K (F a 10) = 6)
    (hj9999c : F (F a 10) 99 = 2)
    (hk9999d : K (F a 8) = 6)
    (hj9999d : F (F a 8) 99 = 0)
    (hk9999e : K (F (F a 11) 0) = 21)
    (hj9999e : F (F (F a 11) 0) 99 = 100)
    (hk9999f : K (F (F a 11) 1) = 21)
    (hj9999f : F (F (F a 11) 1) 99 = 101)
    (hk9999g : K (F (F a 11) 2) = 24)
    (hj9999g : F (F (F a 11) 2) 99 = 4)
    (hk9999h : K (F (F a 9) 0) = 22)
    (hj9999i : F (F (F a 9) 0) 99 = 10 * 1 + 0)
    (hk9999i : K (F (F a 9) 1) = 22)
    (hj9999k : F (F (F a 9) 1) 99 = 10 * 1 + 1)
    (hk9999j : K (F (F a 9) 2) = 22)
    (hj9999m : F (F (F a 9) 2) 99 = 10 * 1 + 2)
    (hk9999k : K (F (F a 9) 3) = 22)
    (hj9999o : F (F (F a 9) 3) 99 = 10 * 1 + 3)
    (hk9999l : K (F (F a 9) 4) = 23)
    (hj9999q : F (F (F a 9) 4) 99 = 10 * 1 + 4)
    (hk9999m : K (F (F a 9) 5) = 23)
    (hj9999s : F (F (F a 9) 5) 99 = 10 * 1 + 5)
    (hk9999n : K (F a 16) = 27)
    (hj9999t : F (F a 16) 99 = 0)
    (hk9999o : K (F a 15) = 26)
    (hj9999u : F (F a 15) 99 = 0)
    (hk9999p : K (F (F a 10) 0) = 22)
    (hj9999w : F (F (F a 10) 0) 99 = 10 * 2 + 0)
    (hk9999q : K (F (F a 10) 1) = 22)
    (hj9999z25 : F (F (F a 10) 1) 99 = 10 * 2 + 1)
    (hk9999r : K (F (F a 10) 2) = 22)
    (hj9999z27 : F (F (F a 10) 2) 99 = 10 * 2 + 2)
    (hk9999s : K (F (F a 10) 3) = 22)
    (hj9999z29 : F (F (F a 10) 3) 99 = 10 * 2 + 3)
    (hk9999t : K (F (F a 10) 4) = 23)
    (hj9999z31 : F (F (F a 10) 4) 99 = 10 * 2 + 4)
    (hk9999u : K (F (F a 10) 5) = 23)
    (hj9999z33 : F (F (F a 10) 5) 99 = 10 * 2 + 5)
    (hk9999v : K (F a 3) = 8)
    (hj9999z34 : F (F a 3) 99 = 0)
    (hk9999w : K (F (F a 3) 0) = 20)
    (hj9999z36 : F (F (F a 3) 0) 99 = 0)
    (hk9999y : K (F (F a 3) 1) = 21)
    (hj9999z38 : F (F (F a 3) 1) 99 = 0)
    (hk9999z25 : K (F (F a 8) 0) = 22)
    (hj9999z40 : F (F (F a 8) 0) 99 = 10 * 0 + 0)
    (hk9999z26 : K (F (F a 8) 1) = 22)
    (hj9999z42 : F (F (F a 8) 1) 99 = 10 * 0 + 1)
    (hk9999z27 : K (F (F a 8) 2) = 22)
    (hj9999z44 : F (F (F a 8) 2) 99 = 10 * 0 + 2)
    (hk9999z28 : K (F (F a 8) 3) = 22)
    (hj9999z46 : F (F (F a 8) 3) 99 = 10 * 0 + 3)
    (hk9999z29 : K (F (F a 8) 4) = 23)
    (hj9999z48 : F (F (F a 8) 4) 99 = 10 * 0 + 4)
    (hk9999z30 : K (F (F a 8) 5) = 23)
    (hj9999z50 : F (F (F a 8) 5) 99 = 10 * 0 + 5)
    (hk9999z31 : K (F a 2) = 2)
    (hj9999z51 : F (F a 2) 99 = 0)
    (hk9999z32 : K (F (F a 2) 1) = 15)
    (hj9999z52 : F (F (F a 2) 1) 99 = 1)
    (hk9999z33 : K (F (F a 2) 0) = 15)
    (hj9999z53 : F (F (F a 2) 0) 99 = 0)
    (hk9999z34 : K (F a 4) = 8)
    (hj9999z54 : F (F a 4) 99 = 1)
    (hk9999z35 : K (F (F a 4) 0) = 20)
    (hj9999z56 : F (F (F a 4) 0) 99 = 1)
    (hk9999z36 : K (F (F a 4) 1) = 21)
    (hj9999z58 : F (F (F a 4) 1) 99 = 1)
    (hk9999z37 : K (F a 5) = 8)
    (hj9999z59 : F (F a 5) 99 = 2)
    (hk9999z38 : K (F (F a 5) 0) = 20)
    (hj9999z61 : F (F (F a 5) 0) 99 = 2)
    (hk9999z39 : K (F (F a 5) 1) = 21)
    (hj9999z63 : F (F (F a 5) 1) 99 = 2)
    (hfr : XFr [(F a 11, 3), (F a 9, 6), (F a 14, 1), (F a 14, 2), (F a 14, 3), (F a 10, 6), (F a 8, 6)] [F (F a 11) 0, F (F a 11) 1, F (F a 11) 2, F (F a 9) 0, F (F a 9) 1, F (F a 9) 2, F (F a 9) 3, F (F a 9) 4, F (F a 9) 5, F a 16, F a 15, F (F a 10) 0, F (F a 10) 1, F (F a 10) 2, F (F a 10) 3, F (F a 10) 4, F (F a 10) 5, F (F a 3) 0, F (F a 3) 1, F (F a 8) 0, F (F a 8) 1, F (F a 8) 2, F (F a 8) 3, F (F a 8) 4, F (F a 8) 5] [] G G94)
    (hF14 : XFr [(F a 11, 3), (F a 9, 6)] [F (F a 11) 0, F (F a 11) 1, F (F a 11) 2, F (F a 9) 0, F (F a 9) 1, F (F a 9) 2, F (F a 9) 3, F (F a 9) 4, F (F a 9) 5] [] G G14)
    (hF18 : XFr [(F a 14, 1), (F a 14, 2), (F a 14, 3)] [F a 16] [] G14 G18)
    (hF73 : XFr [] [F a 15] [] G18 G73)
    (hG85 : G85 = cput G73 (F a 15) (4 : Int32).toNatClampNeg x84)
    (hF94 : XFr [] [F (F a 3) 0, F (F a 3) 1] [] G85 G94)
    (ron : RO (vw (G.2.1 (F (F a 3) 0))) (aI (G.2.1 (F (F a 3) 1))))
    (rop : RO (vw (G.2.1 (F (F a 5) 0))) (aI (G.2.1 (F (F a 5) 1))))
    (rob : RO (vw (G.2.1 (F (F a 4) 0))) (aI (G.2.1 (F (F a 4) 1))))
    (bko : BKr K G (G.2.2.1 (F (F a 2) 1)))
    (bkn : BKr K G (G.2.2.1 (F (F a 2) 0)))
    (oq14 : qL G14 F (F a 9) = gaL G (G.2.2.1 (F (F a 2) 1)) (vw (G.2.1 (F (F a 3) 0))) (vw (G.2.1 (F (F a 5) 0))) (0 : Int) (((G.1 (F a 2) 2).toInt)).toNat)
    (oq18 : (x18.toInt = 1 ∧ ∀ x, x ∈ qL G14 F (F a 9) → x.2.2.2.2.1 = 0 → x.2.2.2.2.2 = 0) ∨ (x18.toInt = 0 ∧ ∃ x, x ∈ qL G14 F (F a 9) ∧ x.2.2.2.2.1 = 0 ∧ x.2.2.2.2.2 ≠ 0))
    (hv82 : x82.toInt = (aI (G73.2.1 (F a 15)) 4))
    (oq94 : (vw (G94.2.1 (F (F a 3) 0))) = (vw (G.2.1 (F (F a 5) 0))))
    (oq94a : RO (vw (G94.2.1 (F (F a 3) 0))) (aI (G94.2.1 (F (F a 3) 1))))
    (sb : 0 ≤ ((G.1 (F a 2) 2).toInt) ∧ ((G.1 (F a 2) 2).toInt) ≤ 12)
    (sw : 0 ≤ ((G.1 (F a 8) 6).toInt) ∧ ((G.1 (F a 8) 6).toInt) ≤ 1080)
    (t14 : 0 ≤ ((G14.1 (F a 9) 6).toInt) ∧ ((G14.1 (F a 9) 6).toInt) ≤ 1080)
    (c21 : x18.toInt ≠ 0)
    (f101 : ((G.1 a 18).toInt) = 0 ∨ ((G.1 a 18).toInt) = 1)
    (c35 : ((G.1 a 18).toInt) ≠ 0)
    (t84 : x84.toInt = (aI (G73.2.1 (F a 15)) 4) + (1 : Int) ∨ (aI (G73.2.1 (F a 15)) 4) + (1 : Int) < -2147483648 ∨ 2147483648 ≤ (aI (G73.2.1 (F a 15)) 4) + (1 : Int))
    (c_G18_F_F_a_9_0 : G18.2.1 (F (F a 9) 0) = G14.2.1 (F (F a 9) 0))
    (c_G18_F_F_a_9_1 : G18.2.1 (F (F a 9) 1) = G14.2.1 (F (F a 9) 1))
    (c_G18_F_F_a_9_2 : G18.2.1 (F (F a 9) 2) = G14.2.1 (F (F a 9) 2))
    (c_G18_F_F_a_9_3 : G18.2.1 (F (F a 9) 3) = G14.2.1 (F (F a 9) 3))
    (c_G18_F_F_a_9_4 : G18.2.1 (F (F a 9) 4) = G14.2.1 (F (F a 9) 4))
    (c_G18_F_F_a_9_5 : G18.2.1 (F (F a 9) 5) = G14.2.1 (F (F a 9) 5))
    (c_G94_F_F_a_10_0 : G94.2.1 (F (F a 10) 0) = G.2.1 (F (F a 10) 0))
    (c_G94_F_F_a_10_1 : G94.2.1 (F (F a 10) 1) = G.2.1 (F (F a 10) 1))
    (c_G94_F_F_a_10_2 : G94.2.1 (F (F a 10) 2) = G.2.1 (F (F a 10) 2))
    (c_G94_F_F_a_10_3 : G94.2.1 (F (F a 10) 3) = G.2.1 (F (F a 10) 3))
    (c_G94_F_F_a_10_4 : G94.2.1 (F (F a 10) 4) = G.2.1 (F (F a 10) 4))
    (c_G94_F_F_a_10_5 : G94.2.1 (F (F a 10) 5) = G.2.1 (F (F a 10) 5))
    (c_G94_F_F_a_11_0 : G94.2.1 (F (F a 11) 0) = G14.2.1 (F (F a 11) 0))
    (c_G94_F_F_a_11_1 : G94.2.1 (F (F a 11) 1) = G14.2.1 (F (F a 11) 1))
    (c_G94_F_F_a_11_2 : G94.2.1 (F (F a 11) 2) = G14.2.1 (F (F a 11) 2))
    (c_G94_F_F_a_8_0 : G94.2.1 (F (F a 8) 0) = G.2.1 (F (F a 8) 0))
    (c_G94_F_F_a_8_1 : G94.2.1 (F (F a 8) 1) = G.2.1 (F (F a 8) 1))
    (c_G94_F_F_a_8_2 : G94.2.1 (F (F a 8) 2) = G.2.1 (F (F a 8) 2))
    (c_G94_F_F_a_8_3 : G94.2.1 (F (F a 8) 3) = G.2.1 (F (F a 8) 3))
    (c_G94_F_F_a_8_4 : G94.2.1 (F (F a 8) 4) = G.2.1 (F (F a 8) 4))
    (c_G94_F_F_a_8_5 : G94.2.1 (F (F a 8) 5) = G.2.1 (F (F a 8) 5))
    (c_G94_F_F_a_9_0 : G94.2.1 (F (F a 9) 0) = G14.2.1 (F (F a 9) 0))
    (c_G94_F_F_a_9_1 : G94.2.1 (F (F a 9) 1) = G14.2.1 (F (F a 9) 1))
    (c_G94_F_F_a_9_2 : G94.2.1 (F (F a 9) 2) = G14.2.1 (F (F a 9) 2))
    (c_G94_F_F_a_9_3 : G94.2.1 (F (F a 9) 3) = G14.2.1 (F (F a 9) 3))
    (c_G94_F_F_a_9_4 : G94.2.1 (F (F a 9) 4) = G14.2.1 (F (F a 9) 4))
    (c_G94_F_F_a_9_5 : G94.2.1 (F (F a 9) 5) = G14.2.1 (F (F a 9) 5))
    (c_G94_F_a_15 : G94.2.1 (F a 15) = G85.2.1 (F a 15))
    (c_G94_F_a_16 : G94.2.1 (F a 16) = G18.2.1 (F a 16))
    (r_G94_F_F_a_2_1 : G94.2.2.1 (F (F a 2) 1) = G.2.2.1 (F (F a 2) 1))
    (d_G18_F_a_9_6 : G18.1 (F a 9) 6 = G14.1 (F a 9) 6)
    (d_G94_F_a_10_6 : G94.1 (F a 10) 6 = G.1 (F a 10) 6)
    (d_G94_F_a_11_3 : G94.1 (F a 11) 3 = G14.1 (F a 11) 3)
    (d_G94_F_a_14_1 : G94.1 (F a 14) 1 = G18.1 (F a 14) 1)
    (d_G94_F_a_14_2 : G94.1 (F a 14) 2 = G18.1 (F a 14) 2)
    (d_G94_F_a_14_3 : G94.1 (F a 14) 3 = G18.1 (F a 14) 3)
    (d_G94_F_a_8_6 : G94.1 (F a 8) 6 = G.1 (F a 8) 6)
    (d_G94_F_a_9_6 : G94.1 (F a 9) 6 = G14.1 (F a 9) 6) :
    ∀ (i q : Nat), i < 12 → G94.2.2.1 (F (F a 2) 1) i = some q → RW (G94.1 q) := by
  first
    | exact bko.rw
    | (have hd : ∀ p, p ∈ [(F a 11, 3), (F a 9, 6), (F a 14, 1), (F a 14, 2), (F a 14, 3), (F a 10, 6), (F a 8, 6)] → K p.1 ≠ 9 := (List.forall_mem_cons.mpr ⟨(show K (F a 11) ≠ 9 by omega), List.forall_mem_cons.mpr ⟨(show K (F a 9) ≠ 9 by omega), List.forall_mem_cons.mpr ⟨(show K (F a 14) ≠ 9 by omega), List.forall_mem_cons.mpr ⟨(show K (F a 14) ≠ 9 by omega), List.forall_mem_cons.mpr ⟨(show K (F a 14) ≠ 9 by omega), List.forall_mem_cons.mpr ⟨(show K (F a 10) ≠ 9 by omega), List.forall_mem_cons.mpr ⟨(show K (F a 8) ≠ 9 by omega), fun _ h => by cases h⟩⟩⟩⟩⟩⟩⟩)
       have h9 := (bko.fr hfr hd).rw
       rw [show G94.2.2.1 (F (F a 2) 1) = G.2.2.1 (F (F a 2) 1) by assumption]
       exact h9)
theorem v_X10_actAsOnPaper_111_12 {K : Nat → Nat} {F : Nat → Nat → Nat} (a : Nat) (G : XG) (G94 : XG) (G14 : XG) (G18 : XG) (G73 : XG) (G85 : XG) (x84 : Int32) (x18 : Int32) (x82 : Int32)
    (ha : K a = 12)
    (hk9999 : K (F a 11) = 3)
    (hj9999 : F (F a 11) 99 = 0)
    (hk9999a : K (F a 9) = 6)
    (hj9999a : F (F a 9) 99 = 1)
    (hk9999b : K (F a 14) = 11)
    (hj9999b : F (F a 14) 99 = 0)
    (hk9999c : K (F a 10) = 6)
    (hj9999c : F (F a 10) 99 = 2)
    (hk9999d : K (F a 8) = 6)
    (hj9999d : F (F a 8) 99 = 0)
    (hk9999e : K (F (F a 11) 0) = 21)
    (hj9999e : F (F (F a 11) 0) 99 = 100)
    (hk9999f : K (F (F a 11) 1) = 21)
    (hj9999f : F (F (F a 11) 1) 99 = 101)
    (hk9999g : K (F (F a 11) 2) = 24)
    (hj9999g : F (F (F a 11) 2) 99 = 4)
    (hk9999h : K (F (F a 9) 0) = 22)
    (hj9999i : F (F (F a 9) 0) 99 = 10 * 1 + 0)
    (hk9999i : K (F (F a 9) 1) = 22)
    (hj9999k : F (F (F a 9) 1) 99 = 10 * 1 + 1)
    (hk9999j : K (F (F a 9) 2) = 22)
    (hj9999m : F (F (F a 9) 2) 99 = 10 * 1 + 2)
    (hk9999k : K (F (F a 9) 3) = 22)
    (hj9999o : F (F (F a 9) 3) 99 = 10 * 1 + 3)
    (hk9999l : K (F (F a 9) 4) = 23)
    (hj9999q : F (F (F a 9) 4) 99 = 10 * 1 + 4)
    (hk9999m : K (F (F a 9) 5) = 23)
    (hj9999s : F (F (F a 9) 5) 99 = 10 * 1 + 5)
    (hk9999n : K (F a 16) = 27)
    (hj9999t : F (F a 16) 99 = 0)
    (hk9999o : K (F a 15) = 26)
    (hj9999u : F (F a 15) 99 = 0)
    (hk9999p : K (F (F a 10) 0) = 22)
    (hj9999w : F (F (F a 10) 0) 99 = 10 * 2 + 0)
    (hk9999q : K (F (F a 10) 1) = 22)
    (hj9999z25 : F (F (F a 10) 1) 99 = 10 * 2 + 1)
    (hk9999r : K (F (F a 10) 2) = 22)
    (hj9999z27 : F (F (F a 10) 2) 99 = 10 * 2 + 2)
    (hk9999s : K (F (F a 10) 3) = 22)
    (hj9999z29 : F (F (F a 10) 3) 99 = 10 * 2 + 3)
    (hk9999t : K (F (F a 10) 4) = 23)
    (hj9999z31 : F (F (F a 10) 4) 99 = 10 * 2 + 4)
    (hk9999u : K (F (F a 10) 5) = 23)
    (hj9999z33 : F (F (F a 10) 5) 99 = 10 * 2 + 5)
    (hk9999v : K (F a 3) = 8)
    (hj9999z34 : F (F a 3) 99 = 0)
    (hk9999w : K (F (F a 3) 0) = 20)
    (hj9999z36 : F (F (F a 3) 0) 99 = 0)
    (hk9999y : K (F (F a 3) 1) = 21)
    (hj9999z38 : F (F (F a 3) 1) 99 = 0)
    (hk9999z25 : K (F (F a 8) 0) = 22)
    (hj9999z40 : F (F (F a 8) 0) 99 = 10 * 0 + 0)
    (hk9999z26 : K (F (F a 8) 1) = 22)
    (hj9999z42 : F (F (F a 8) 1) 99 = 10 * 0 + 1)
    (hk9999z27 : K (F (F a 8) 2) = 22)
    (hj9999z44 : F (F (F a 8) 2) 99 = 10 * 0 + 2)
    (hk9999z28 : K (F (F a 8) 3) = 22)
    (hj9999z46 : F (F (F a 8) 3) 99 = 10 * 0 + 3)
    (hk9999z29 : K (F (F a 8) 4) = 23)
    (hj9999z48 : F (F (F a 8) 4) 99 = 10 * 0 + 4)
    (hk9999z30 : K (F (F a 8) 5) = 23)
    (hj9999z50 : F (F (F a 8) 5) 99 = 10 * 0 + 5)
    (hk9999z31 : K (F a 2) = 2)
    (hj9999z51 : F (F a 2) 99 = 0)
    (hk9999z32 : K (F (F a 2) 1) = 15)
    (hj9999z52 : F (F (F a 2) 1) 99 = 1)
    (hk9999z33 : K (F (F a 2) 0) = 15)
    (hj9999z53 : F (F (F a 2) 0) 99 = 0)
    (hk9999z34 : K (F a 4) = 8)
    (hj9999z54 : F (F a 4) 99 = 1)
    (hk9999z35 : K (F (F a 4) 0) = 20)
    (hj9999z56 : F (F (F a 4) 0) 99 = 1)
    (hk9999z36 : K (F (F a 4) 1) = 21)
    (hj9999z58 : F (F (F a 4) 1) 99 = 1)
    (hk9999z37 : K (F a 5) = 8)
    (hj9999z59 : F (F a 5) 99 = 2)
    (hk9999z38 : K (F (F a 5) 0) = 20)
    (hj9999z61 : F (F (F a 5) 0) 99 = 2)
    (hk9999z39 : K (F (F a 5) 1) = 21)
    (hj9999z63 : F (F (F a 5) 1) 99 = 2)
    (hfr : XFr [(F a 11, 3), (F a 9, 6), (F a 14, 1), (F a 14, 2), (F a 14, 3), (F a 10, 6), (F a 8, 6)] [F (F a 11) 0, F (F a 11) 1, F (F a 11) 2, F (F a 9) 0, F (F a 9) 1, F (F a 9) 2, F (F a 9) 3, F (F a 9) 4, F (F a 9) 5, F a 16, F a 15, F (F a 10) 0, F (F a 10) 1, F (F a 10) 2, F (F a 10) 3, F (F a 10) 4, F (F a 10) 5, F (F a 3) 0, F (F a 3) 1, F (F a 8) 0, F (F a 8) 1, F (F a 8) 2, F (F a 8) 3, F (F a 8) 4, F (F a 8) 5] [] G G94)
    (hF14 : XFr [(F a 11, 3), (F a 9, 6)] [F (F a 11) 0, F (F a 11) 1, F (F a 11) 2, F (F a 9) 0, F (F a 9) 1, F (F a 9) 2, F (F a 9) 3, F (F a 9) 4, F (F a 9) 5] [] G G14)
    (hF18 : XFr [(F a 14, 1), (F a 14, 2), (F a 14, 3)] [F a 16] [] G14 G18)
    (hF73 : XFr [] [F a 15] [] G18 G73)
    (hG85 : G85 = cput G73 (F a 15) (4 : Int32).toNatClampNeg x84)
    (hF94 : XFr [] [F (F a 3) 0, F (F a 3) 1] [] G85 G94)
    (ron : RO (vw (G.2.1 (F (F a 3) 0))) (aI (G.2.1 (F (F a 3) 1))))
    (rop : RO (vw (G.2.1 (F (F a 5) 0))) (aI (G.2.1 (F (F a 5) 1))))
    (rob : RO (vw (G.2.1 (F (F a 4) 0))) (aI (G.2.1 (F (F a 4) 1))))
    (bko : BKr K G (G.2.2.1 (F (F a 2) 1)))
    (bkn : BKr K G (G.2.2.1 (F (F a 2) 0)))
    (oq14 : qL G14 F (F a 9) = gaL G (G.2.2.1 (F (F a 2) 1)) (vw (G.2.1 (F (F a 3) 0))) (vw (G.2.1 (F (F a 5) 0))) (0 : Int) (((G.1 (F a 2) 2).toInt)).toNat)
    (oq18 : (x18.toInt = 1 ∧ ∀ x, x ∈ qL G14 F (F a 9) → x.2.2.2.2.1 = 0 → x.2.2.2.2.2 = 0) ∨ (x18.toInt = 0 ∧ ∃ x, x ∈ qL G14 F (F a 9) ∧ x.2.2.2.2.1 = 0 ∧ x.2.2.2.2.2 ≠ 0))
    (hv82 : x82.toInt = (aI (G73.2.1 (F a 15)) 4))
    (oq94 : (vw (G94.2.1 (F (F a 3) 0))) = (vw (G.2.1 (F (F a 5) 0))))
    (oq94a : RO (vw (G94.2.1 (F (F a 3) 0))) (aI (G94.2.1 (F (F a 3) 1))))
    (sb : 0 ≤ ((G.1 (F a 2) 2).toInt) ∧ ((G.1 (F a 2) 2).toInt) ≤ 12)
    (sw : 0 ≤ ((G.1 (F a 8) 6).toInt) ∧ ((G.1 (F a 8) 6).toInt) ≤ 1080)
    (t14 : 0 ≤ ((G14.1 (F a 9) 6).toInt) ∧ ((G14.1 (F a 9) 6).toInt) ≤ 1080)
    (c21 : x18.toInt ≠ 0)
    (f101 : ((G.1 a 18).toInt) = 0 ∨ ((G.1 a 18).toInt) = 1)
    (c35 : ((G.1 a 18).toInt) ≠ 0)
    (t84 : x84.toInt = (aI (G73.2.1 (F a 15)) 4) + (1 : Int) ∨ (aI (G73.2.1 (F a 15)) 4) + (1 : Int) < -2147483648 ∨ 2147483648 ≤ (aI (G73.2.1 (F a 15)) 4) + (1 : Int))
    (c_G18_F_F_a_9_0 : G18.2.1 (F (F a 9) 0) = G14.2.1 (F (F a 9) 0))
    (c_G18_F_F_a_9_1 : G18.2.1 (F (F a 9) 1) = G14.2.1 (F (F a 9) 1))
    (c_G18_F_F_a_9_2 : G18.2.1 (F (F a 9) 2) = G14.2.1 (F (F a 9) 2))
    (c_G18_F_F_a_9_3 : G18.2.1 (F (F a 9) 3) = G14.2.1 (F (F a 9) 3))
    (c_G18_F_F_a_9_4 : G18.2.1 (F (F a 9) 4) = G14.2.1 (F (F a 9) 4))
    (c_G18_F_F_a_9_5 : G18.2.1 (F (F a 9) 5) = G14.2.1 (F (F a 9) 5))
    (c_G94_F_F_a_10_0 : G94.2.1 (F (F a 10) 0) = G.2.1 (F (F a 10) 0))
    (c_G94_F_F_a_10_1 : G94.2.1 (F (F a 10) 1) = G.2.1 (F (F a 10) 1))
    (c_G94_F_F_a_10_2 : G94.2.1 (F (F a 10) 2) = G.2.1 (F (F a 10) 2))
    (c_G94_F_F_a_10_3 : G94.2.1 (F (F a 10) 3) = G.2.1 (F (F a 10) 3))
    (c_G94_F_F_a_10_4 : G94.2.1 (F (F a 10) 4) = G.2.1 (F (F a 10) 4))
    (c_G94_F_F_a_10_5 : G94.2.1 (F (F a 10) 5) = G.2.1 (F (F a 10) 5))
    (c_G94_F_F_a_11_0 : G94.2.1 (F (F a 11) 0) = G14.2.1 (F (F a 11) 0))
    (c_G94_F_F_a_11_1 : G94.2.1 (F (F a 11) 1) = G14.2.1 (F (F a 11) 1))
    (c_G94_F_F_a_11_2 : G94.2.1 (F (F a 11) 2) = G14.2.1 (F (F a 11) 2))
    (c_G94_F_F_a_8_0 : G94.2.1 (F (F a 8) 0) = G.2.1 (F (F a 8) 0))
    (c_G94_F_F_a_8_1 : G94.2.1 (F (F a 8) 1) = G.2.1 (F (F a 8) 1))
    (c_G94_F_F_a_8_2 : G94.2.1 (F (F a 8) 2) = G.2.1 (F (F a 8) 2))
    (c_G94_F_F_a_8_3 : G94.2.1 (F (F a 8) 3) = G.2.1 (F (F a 8) 3))
    (c_G94_F_F_a_8_4 : G94.2.1 (F (F a 8) 4) = G.2.1 (F (F a 8) 4))
    (c_G94_F_F_a_8_5 : G94.2.1 (F (F a 8) 5) = G.2.1 (F (F a 8) 5))
    (c_G94_F_F_a_9_0 : G94.2.1 (F (F a 9) 0) = G14.2.1 (F (F a 9) 0))
    (c_G94_F_F_a_9_1 : G94.2.1 (F (F a 9) 1) = G14.2.1 (F (F a 9) 1))
    (c_G94_F_F_a_9_2 : G94.2.1 (F (F a 9) 2) = G14.2.1 (F (F a 9) 2))
    (c_G94_F_F_a_9_3 : G94.2.1 (F (F a 9) 3) = G14.2.1 (F (F a 9) 3))
    (c_G94_F_F_a_9_4 : G94.2.1 (F (F a 9) 4) = G14.2.1 (F (F a 9) 4))
    (c_G94_F_F_a_9_5 : G94.2.1 (F (F a 9) 5) = G14.2.1 (F (F a 9) 5))
    (c_G94_F_a_15 : G94.2.1 (F a 15) = G85.2.1 (F a 15))
    (c_G94_F_a_16 : G94.2.1 (F a 16) = G18.2.1 (F a 16))
    (d_G18_F_a_9_6 : G18.1 (F a 9) 6 = G14.1 (F a 9) 6)
    (d_G94_F_a_10_6 : G94.1 (F a 10) 6 = G.1 (F a 10) 6)
    (d_G94_F_a_11_3 : G94.1 (F a 11) 3 = G14.1 (F a 11) 3)
    (d_G94_F_a_14_1 : G94.1 (F a 14) 1 = G18.1 (F a 14) 1)
    (d_G94_F_a_14_2 : G94.1 (F a 14) 2 = G18.1 (F a 14) 2)
    (d_G94_F_a_14_3 : G94.1 (F a 14) 3 = G18.1 (F a 14) 3)
    (d_G94_F_a_8_6 : G94.1 (F a 8) 6 = G.1 (F a 8) 6)
    (d_G94_F_a_9_6 : G94.1 (F a 9) 6 = G14.1 (F a 9) 6) :
    F (F a 4) 99 < 12 := by
  first | assumption | omega
theorem v_X10_actAsOnPaper_111_13 {K : Nat → Nat} {F : Nat → Nat → Nat} (a : Nat) (G : XG) (G94 : XG) (G14 : XG) (G18 : XG) (G73 : XG) (G85 : XG) (x84 : Int32) (x18 : Int32) (x82 : Int32)
    (ha : K a = 12)
    (hk9999 : K (F a 11) = 3)
    (hj9999 : F (F a 11) 99 = 0)
    (hk9999a : K (F a 9) = 6)
    (hj9999a : F (F a 9) 99 = 1)
    (hk9999b : K (F a 14) = 11)
    (hj9999b : F (F a 14) 99 = 0)
    (hk9999c : K (F a 10) = 6)
    (hj9999c : F (F a 10) 99 = 2)
    (hk9999d : K (F a 8) = 6)
    (hj9999d : F (F a 8) 99 = 0)
    (hk9999e : K (F (F a 11) 0) = 21)
    (hj9999e : F (F (F a 11) 0) 99 = 100)
    (hk9999f : K (F (F a 11) 1) = 21)
    (hj9999f : F (F (F a 11) 1) 99 = 101)
    (hk9999g : K (F (F a 11) 2) = 24)
    (hj9999g : F (F (F a 11) 2) 99 = 4)
    (hk9999h : K (F (F a 9) 0) = 22)
    (hj9999i : F (F (F a 9) 0) 99 = 10 * 1 + 0)
    (hk9999i : K (F (F a 9) 1) = 22)
    (hj9999k : F (F (F a 9) 1) 99 = 10 * 1 + 1)
    (hk9999j : K (F (F a 9) 2) = 22)
    (hj9999m : F (F (F a 9) 2) 99 = 10 * 1 + 2)
    (hk9999k : K (F (F a 9) 3) = 22)
    (hj9999o : F (F (F a 9) 3) 99 = 10 * 1 + 3)
    (hk9999l : K (F (F a 9) 4) = 23)
    (hj9999q : F (F (F a 9) 4) 99 = 10 * 1 + 4)
    (hk9999m : K (F (F a 9) 5) = 23)
    (hj9999s : F (F (F a 9) 5) 99 = 10 * 1 + 5)
    (hk9999n : K (F a 16) = 27)
    (hj9999t : F (F a 16) 99 = 0)
    (hk9999o : K (F a 15) = 26)
    (hj9999u : F (F a 15) 99 = 0)
    (hk9999p : K (F (F a 10) 0) = 22)
    (hj9999w : F (F (F a 10) 0) 99 = 10 * 2 + 0)
    (hk9999q : K (F (F a 10) 1) = 22)
    (hj9999z25 : F (F (F a 10) 1) 99 = 10 * 2 + 1)
    (hk9999r : K (F (F a 10) 2) = 22)
    (hj9999z27 : F (F (F a 10) 2) 99 = 10 * 2 + 2)
    (hk9999s : K (F (F a 10) 3) = 22)
    (hj9999z29 : F (F (F a 10) 3) 99 = 10 * 2 + 3)
    (hk9999t : K (F (F a 10) 4) = 23)
    (hj9999z31 : F (F (F a 10) 4) 99 = 10 * 2 + 4)
    (hk9999u : K (F (F a 10) 5) = 23)
    (hj9999z33 : F (F (F a 10) 5) 99 = 10 * 2 + 5)
    (hk9999v : K (F a 3) = 8)
    (hj9999z34 : F (F a 3) 99 = 0)
    (hk9999w : K (F (F a 3) 0) = 20)
    (hj9999z36 : F (F (F a 3) 0) 99 = 0)
    (hk9999y : K (F (F a 3) 1) = 21)
    (hj9999z38 : F (F (F a 3) 1) 99 = 0)
    (hk9999z25 : K (F (F a 8) 0) = 22)
    (hj9999z40 : F (F (F a 8) 0) 99 = 10 * 0 + 0)
    (hk9999z26 : K (F (F a 8) 1) = 22)
    (hj9999z42 : F (F (F a 8) 1) 99 = 10 * 0 + 1)
    (hk9999z27 : K (F (F a 8) 2) = 22)
    (hj9999z44 : F (F (F a 8) 2) 99 = 10 * 0 + 2)
    (hk9999z28 : K (F (F a 8) 3) = 22)
    (hj9999z46 : F (F (F a 8) 3) 99 = 10 * 0 + 3)
    (hk9999z29 : K (F (F a 8) 4) = 23)
    (hj9999z48 : F (F (F a 8) 4) 99 = 10 * 0 + 4)
    (hk9999z30 : K (F (F a 8) 5) = 23)
    (hj9999z50 : F (F (F a 8) 5) 99 = 10 * 0 + 5)
    (hk9999z31 : K (F a 2) = 2)
    (hj9999z51 : F (F a 2) 99 = 0)
    (hk9999z32 : K (F (F a 2) 1) = 15)
    (hj9999z52 : F (F (F a 2) 1) 99 = 1)
    (hk9999z33 : K (F (F a 2) 0) = 15)
    (hj9999z53 : F (F (F a 2) 0) 99 = 0)
    (hk9999z34 : K (F a 4) = 8)
    (hj9999z54 : F (F a 4) 99 = 1)
    (hk9999z35 : K (F (F a 4) 0) = 20)
    (hj9999z56 : F (F (F a 4) 0) 99 = 1)
    (hk9999z36 : K (F (F a 4) 1) = 21)
    (hj9999z58 : F (F (F a 4) 1) 99 = 1)
    (hk9999z37 : K (F a 5) = 8)
    (hj9999z59 : F (F a 5) 99 = 2)
    (hk9999z38 : K (F (F a 5) 0) = 20)
    (hj9999z61 : F (F (F a 5) 0) 99 = 2)
    (hk9999z39 : K (F (F a 5) 1) = 21)
    (hj9999z63 : F (F (F a 5) 1) 99 = 2)
    (hfr : XFr [(F a 11, 3), (F a 9, 6), (F a 14, 1), (F a 14, 2), (F a 14, 3), (F a 10, 6), (F a 8, 6)] [F (F a 11) 0, F (F a 11) 1, F (F a 11) 2, F (F a 9) 0, F (F a 9) 1, F (F a 9) 2, F (F a 9) 3, F (F a 9) 4, F (F a 9) 5, F a 16, F a 15, F (F a 10) 0, F (F a 10) 1, F (F a 10) 2, F (F a 10) 3, F (F a 10) 4, F (F a 10) 5, F (F a 3) 0, F (F a 3) 1, F (F a 8) 0, F (F a 8) 1, F (F a 8) 2, F (F a 8) 3, F (F a 8) 4, F (F a 8) 5] [] G G94)
    (hF14 : XFr [(F a 11, 3), (F a 9, 6)] [F (F a 11) 0, F (F a 11) 1, F (F a 11) 2, F (F a 9) 0, F (F a 9) 1, F (F a 9) 2, F (F a 9) 3, F (F a 9) 4, F (F a 9) 5] [] G G14)
    (hF18 : XFr [(F a 14, 1), (F a 14, 2), (F a 14, 3)] [F a 16] [] G14 G18)
    (hF73 : XFr [] [F a 15] [] G18 G73)
    (hG85 : G85 = cput G73 (F a 15) (4 : Int32).toNatClampNeg x84)
    (hF94 : XFr [] [F (F a 3) 0, F (F a 3) 1] [] G85 G94)
    (ron : RO (vw (G.2.1 (F (F a 3) 0))) (aI (G.2.1 (F (F a 3) 1))))
    (rop : RO (vw (G.2.1 (F (F a 5) 0))) (aI (G.2.1 (F (F a 5) 1))))
    (rob : RO (vw (G.2.1 (F (F a 4) 0))) (aI (G.2.1 (F (F a 4) 1))))
    (bko : BKr K G (G.2.2.1 (F (F a 2) 1)))
    (bkn : BKr K G (G.2.2.1 (F (F a 2) 0)))
    (oq14 : qL G14 F (F a 9) = gaL G (G.2.2.1 (F (F a 2) 1)) (vw (G.2.1 (F (F a 3) 0))) (vw (G.2.1 (F (F a 5) 0))) (0 : Int) (((G.1 (F a 2) 2).toInt)).toNat)
    (oq18 : (x18.toInt = 1 ∧ ∀ x, x ∈ qL G14 F (F a 9) → x.2.2.2.2.1 = 0 → x.2.2.2.2.2 = 0) ∨ (x18.toInt = 0 ∧ ∃ x, x ∈ qL G14 F (F a 9) ∧ x.2.2.2.2.1 = 0 ∧ x.2.2.2.2.2 ≠ 0))
    (hv82 : x82.toInt = (aI (G73.2.1 (F a 15)) 4))
    (oq94 : (vw (G94.2.1 (F (F a 3) 0))) = (vw (G.2.1 (F (F a 5) 0))))
    (oq94a : RO (vw (G94.2.1 (F (F a 3) 0))) (aI (G94.2.1 (F (F a 3) 1))))
    (sb : 0 ≤ ((G.1 (F a 2) 2).toInt) ∧ ((G.1 (F a 2) 2).toInt) ≤ 12)
    (sw : 0 ≤ ((G.1 (F a 8) 6).toInt) ∧ ((G.1 (F a 8) 6).toInt) ≤ 1080)
    (t14 : 0 ≤ ((G14.1 (F a 9) 6).toInt) ∧ ((G14.1 (F a 9) 6).toInt) ≤ 1080)
    (c21 : x18.toInt ≠ 0)
    (f101 : ((G.1 a 18).toInt) = 0 ∨ ((G.1 a 18).toInt) = 1)
    (c35 : ((G.1 a 18).toInt) ≠ 0)
    (t84 : x84.toInt = (aI (G73.2.1 (F a 15)) 4) + (1 : Int) ∨ (aI (G73.2.1 (F a 15)) 4) + (1 : Int) < -2147483648 ∨ 2147483648 ≤ (aI (G73.2.1 (F a 15)) 4) + (1 : Int))
    (c_G18_F_F_a_9_0 : G18.2.1 (F (F a 9) 0) = G14.2.1 (F (F a 9) 0))
    (c_G18_F_F_a_9_1 : G18.2.1 (F (F a 9) 1) = G14.2.1 (F (F a 9) 1))
    (c_G18_F_F_a_9_2 : G18.2.1 (F (F a 9) 2) = G14.2.1 (F (F a 9) 2))
    (c_G18_F_F_a_9_3 : G18.2.1 (F (F a 9) 3) = G14.2.1 (F (F a 9) 3))
    (c_G18_F_F_a_9_4 : G18.2.1 (F (F a 9) 4) = G14.2.1 (F (F a 9) 4))
    (c_G18_F_F_a_9_5 : G18.2.1 (F (F a 9) 5) = G14.2.1 (F (F a 9) 5))
    (c_G94_F_F_a_10_0 : G94.2.1 (F (F a 10) 0) = G.2.1 (F (F a 10) 0))
    (c_G94_F_F_a_10_1 : G94.2.1 (F (F a 10) 1) = G.2.1 (F (F a 10) 1))
    (c_G94_F_F_a_10_2 : G94.2.1 (F (F a 10) 2) = G.2.1 (F (F a 10) 2))
    (c_G94_F_F_a_10_3 : G94.2.1 (F (F a 10) 3) = G.2.1 (F (F a 10) 3))
    (c_G94_F_F_a_10_4 : G94.2.1 (F (F a 10) 4) = G.2.1 (F (F a 10) 4))
    (c_G94_F_F_a_10_5 : G94.2.1 (F (F a 10) 5) = G.2.1 (F (F a 10) 5))
    (c_G94_F_F_a_11_0 : G94.2.1 (F (F a 11) 0) = G14.2.1 (F (F a 11) 0))
    (c_G94_F_F_a_11_1 : G94.2.1 (F (F a 11) 1) = G14.2.1 (F (F a 11) 1))
    (c_G94_F_F_a_11_2 : G94.2.1 (F (F a 11) 2) = G14.2.1 (F (F a 11) 2))
    (c_G94_F_F_a_8_0 : G94.2.1 (F (F a 8) 0) = G.2.1 (F (F a 8) 0))
    (c_G94_F_F_a_8_1 : G94.2.1 (F (F a 8) 1) = G.2.1 (F (F a 8) 1))
    (c_G94_F_F_a_8_2 : G94.2.1 (F (F a 8) 2) = G.2.1 (F (F a 8) 2))
    (c_G94_F_F_a_8_3 : G94.2.1 (F (F a 8) 3) = G.2.1 (F (F a 8) 3))
    (c_G94_F_F_a_8_4 : G94.2.1 (F (F a 8) 4) = G.2.1 (F (F a 8) 4))
    (c_G94_F_F_a_8_5 : G94.2.1 (F (F a 8) 5) = G.2.1 (F (F a 8) 5))
    (c_G94_F_F_a_9_0 : G94.2.1 (F (F a 9) 0) = G14.2.1 (F (F a 9) 0))
    (c_G94_F_F_a_9_1 : G94.2.1 (F (F a 9) 1) = G14.2.1 (F (F a 9) 1))
    (c_G94_F_F_a_9_2 : G94.2.1 (F (F a 9) 2) = G14.2.1 (F (F a 9) 2))
    (c_G94_F_F_a_9_3 : G94.2.1 (F (F a 9) 3) = G14.2.1 (F (F a 9) 3))
    (c_G94_F_F_a_9_4 : G94.2.1 (F (F a 9) 4) = G14.2.1 (F (F a 9) 4))
    (c_G94_F_F_a_9_5 : G94.2.1 (F (F a 9) 5) = G14.2.1 (F (F a 9) 5))
    (c_G94_F_a_15 : G94.2.1 (F a 15) = G85.2.1 (F a 15))
    (c_G94_F_a_16 : G94.2.1 (F a 16) = G18.2.1 (F a 16))
    (d_G18_F_a_9_6 : G18.1 (F a 9) 6 = G14.1 (F a 9) 6)
    (d_G94_F_a_10_6 : G94.1 (F a 10) 6 = G.1 (F a 10) 6)
    (d_G94_F_a_11_3 : G94.1 (F a 11) 3 = G14.1 (F a 11) 3)
    (d_G94_F_a_14_1 : G94.1 (F a 14) 1 = G18.1 (F a 14) 1)
    (d_G94_F_a_14_2 : G94.1 (F a 14) 2 = G18.1 (F a 14) 2)
    (d_G94_F_a_14_3 : G94.1 (F a 14) 3 = G18.1 (F a 14) 3)
    (d_G94_F_a_8_6 : G94.1 (F a 8) 6 = G.1 (F a 8) 6)
    (d_G94_F_a_9_6 : G94.1 (F a 9) 6 = G14.1 (F a 9) 6) :
    F (F a 3) 99 < 12 := by
  first | assumption | omega
theorem v_X10_actAsOnPaper_121_14 {K : Nat → Nat} {F : Nat → Nat → Nat} (a : Nat) (G : XG) (G111 : XG) (G14 : XG) (G94 : XG) (x18 : Int32)
    (ha : K a = 12)
    (hk9999 : K (F a 11) = 3)
    (hj9999 : F (F a 11) 99 = 0)
    (hk9999a : K (F a 9) = 6)
    (hj9999a : F (F a 9) 99 = 1)
    (hk9999b : K (F a 14) = 11)
    (hj9999b : F (F a 14) 99 = 0)
    (hk9999c : K (F a 10) = 6)
    (hj9999c : F (F a 10) 99 = 2)
    (hk9999d : K (F a 8) = 6)
    (hj9999d : F (F a 8) 99 = 0)
    (hk9999e : K (F (F a 11) 0) = 21)
    (hj9999e : F (F (F a 11) 0) 99 = 100)
    (hk9999f : K (F (F a 11) 1) = 21)
    (hj9999f : F (F (F a 11) 1) 99 = 101)
    (hk9999g : K (F (F a 11) 2) = 24)
    (hj9999g : F (F (F a 11) 2) 99 = 4)
    (hk9999h : K (F (F a 9) 0) = 22)
    (hj9999i : F (F (F a 9) 0) 99 = 10 * 1 + 0)
    (hk9999i : K (F (F a 9) 1) = 22)
    (hj9999k : F (F (F a 9) 1) 99 = 10 * 1 + 1)
    (hk9999j : K (F (F a 9) 2) = 22)
    (hj9999m : F (F (F a 9) 2) 99 = 10 * 1 + 2)
    (hk9999k : K (F (F a 9) 3) = 22)
    (hj9999o : F (F (F a 9) 3) 99 = 10 * 1 + 3)
    (hk9999l : K (F (F a 9) 4) = 23)
    (hj9999q : F (F (F a 9) 4) 99 = 10 * 1 + 4)
    (hk9999m : K (F (F a 9) 5) = 23)
    (hj9999s : F (F (F a 9) 5) 99 = 10 * 1 + 5)
    (hk9999n : K (F a 16) = 27)
    (hj9999t : F (F a 16) 99 = 0)
    (hk9999o : K (F a 15) = 26)
    (hj9999u : F (F a 15) 99 = 0)
    (hk9999p : K (F (F a 10) 0) = 22)
    (hj9999w : F (F (F a 10) 0) 99 = 10 * 2 + 0)
    (hk9999q : K (F (F a 10) 1) = 22)
    (hj9999z25 : F (F (F a 10) 1) 99 = 10 * 2 + 1)
    (hk9999r : K (F (F a 10) 2) = 22)
    (hj9999z27 : F (F (F a 10) 2) 99 = 10 * 2 + 2)
    (hk9999s : K (F (F a 10) 3) = 22)
    (hj9999z29 : F (F (F a 10) 3) 99 = 10 * 2 + 3)
    (hk9999t : K (F (F a 10) 4) = 23)
    (hj9999z31 : F (F (F a 10) 4) 99 = 10 * 2 + 4)
    (hk9999u : K (F (F a 10) 5) = 23)
    (hj9999z33 : F (F (F a 10) 5) 99 = 10 * 2 + 5)
    (hk9999v : K (F a 3) = 8)
    (hj9999z34 : F (F a 3) 99 = 0)
    (hk9999w : K (F (F a 3) 0) = 20)
    (hj9999z36 : F (F (F a 3) 0) 99 = 0)
    (hk9999y : K (F (F a 3) 1) = 21)
    (hj9999z38 : F (F (F a 3) 1) 99 = 0)
    (hk9999z25 : K (F (F a 8) 0) = 22)
    (hj9999z40 : F (F (F a 8) 0) 99 = 10 * 0 + 0)
    (hk9999z26 : K (F (F a 8) 1) = 22)
    (hj9999z42 : F (F (F a 8) 1) 99 = 10 * 0 + 1)
    (hk9999z27 : K (F (F a 8) 2) = 22)
    (hj9999z44 : F (F (F a 8) 2) 99 = 10 * 0 + 2)
    (hk9999z28 : K (F (F a 8) 3) = 22)
    (hj9999z46 : F (F (F a 8) 3) 99 = 10 * 0 + 3)
    (hk9999z29 : K (F (F a 8) 4) = 23)
    (hj9999z48 : F (F (F a 8) 4) 99 = 10 * 0 + 4)
    (hk9999z30 : K (F (F a 8) 5) = 23)
    (hj9999z50 : F (F (F a 8) 5) 99 = 10 * 0 + 5)
    (hk9999z31 : K (F a 2) = 2)
    (hj9999z51 : F (F a 2) 99 = 0)
    (hk9999z32 : K (F (F a 2) 1) = 15)
    (hj9999z52 : F (F (F a 2) 1) 99 = 1)
    (hk9999z33 : K (F (F a 2) 0) = 15)
    (hj9999z53 : F (F (F a 2) 0) 99 = 0)
    (hk9999z34 : K (F a 4) = 8)
    (hj9999z54 : F (F a 4) 99 = 1)
    (hk9999z35 : K (F (F a 4) 0) = 20)
    (hj9999z56 : F (F (F a 4) 0) 99 = 1)
    (hk9999z36 : K (F (F a 4) 1) = 21)
    (hj9999z58 : F (F (F a 4) 1) 99 = 1)
    (hk9999z37 : K (F a 5) = 8)
    (hj9999z59 : F (F a 5) 99 = 2)
    (hk9999z38 : K (F (F a 5) 0) = 20)
    (hj9999z61 : F (F (F a 5) 0) 99 = 2)
    (hk9999z39 : K (F (F a 5) 1) = 21)
    (hj9999z63 : F (F (F a 5) 1) 99 = 2)
    (hfr : XFr [(F a 11, 3), (F a 9, 6), (F a 14, 1), (F a 14, 2), (F a 14, 3), (F a 10, 6), (F a 8, 6)] [F (F a 11) 0, F (F a 11) 1, F (F a 11) 2, F (F a 9) 0, F (F a 9) 1, F (F a 9) 2, F (F a 9) 3, F (F a 9) 4, F (F a 9) 5, F a 16, F a 15, F (F a 10) 0, F (F a 10) 1, F (F a 10) 2, F (F a 10) 3, F (F a 10) 4, F (F a 10) 5, F (F a 3) 0, F (F a 3) 1, F (F a 8) 0, F (F a 8) 1, F (F a 8) 2, F (F a 8) 3, F (F a 8) 4, F (F a 8) 5] [] G G111)
    (hF111 : XFr [(F a 11, 3), (F a 8, 6)] [F (F a 11) 0, F (F a 11) 1, F (F a 11) 2, F (F a 8) 0, F (F a 8) 1, F (F a 8) 2, F (F a 8) 3, F (F a 8) 4, F (F a 8) 5] [] G94 G111)
    (bko : BKr K G (G.2.2.1 (F (F a 2) 1)))
    (oq14 : qL G14 F (F a 9) = gaL G (G.2.2.1 (F (F a 2) 1)) (vw (G.2.1 (F (F a 3) 0))) (vw (G.2.1 (F (F a 5) 0))) (0 : Int) (((G.1 (F a 2) 2).toInt)).toNat)
    (oq18 : (x18.toInt = 1 ∧ ∀ x, x ∈ qL G14 F (F a 9) → x.2.2.2.2.1 = 0 → x.2.2.2.2.2 = 0) ∨ (x18.toInt = 0 ∧ ∃ x, x ∈ qL G14 F (F a 9) ∧ x.2.2.2.2.1 = 0 ∧ x.2.2.2.2.2 ≠ 0))
    (oq94 : (vw (G94.2.1 (F (F a 3) 0))) = (vw (G.2.1 (F (F a 5) 0))))
    (oq111 : qL G111 F (F a 8) = gaL G94 (G94.2.2.1 (F (F a 2) 1)) (vw (G.2.1 (F (F a 4) 0))) (vw (G94.2.1 (F (F a 3) 0))) (1 : Int) (((G.1 (F a 2) 2).toInt)).toNat)
    (sb : 0 ≤ ((G.1 (F a 2) 2).toInt) ∧ ((G.1 (F a 2) 2).toInt) ≤ 12)
    (sw : 0 ≤ ((G.1 (F a 8) 6).toInt) ∧ ((G.1 (F a 8) 6).toInt) ≤ 1080)
    (t14 : 0 ≤ ((G14.1 (F a 9) 6).toInt) ∧ ((G14.1 (F a 9) 6).toInt) ≤ 1080)
    (c21 : x18.toInt ≠ 0)
    (f104 : ((G.1 a 18).toInt) = 0 ∨ ((G.1 a 18).toInt) = 1)
    (c35 : ((G.1 a 18).toInt) ≠ 0)
    (t111 : 0 ≤ ((G111.1 (F a 8) 6).toInt) ∧ ((G111.1 (F a 8) 6).toInt) ≤ 1080)
    (c_G111_F_F_a_3_0 : G111.2.1 (F (F a 3) 0) = G94.2.1 (F (F a 3) 0))
    (r_G94_F_F_a_2_1 : G94.2.2.1 (F (F a 2) 1) = G.2.2.1 (F (F a 2) 1)) :
    ActR ((G.1 a 18).toInt) ((G14.1 (F a 9) 6).toInt) (gaL G (G.2.2.1 (F (F a 2) 1)) (vw (G.2.1 (F (F a 3) 0))) (vw (G.2.1 (F (F a 5) 0))) 0 (((G.1 (F a 2) 2).toInt)).toNat) (vw (G.2.1 (F (F a 3) 0))) (vw (G111.2.1 (F (F a 3) 0))) (vw (G.2.1 (F (F a 5) 0))) (qL G F (F a 8)) (qL G111 F (F a 8)) (gaL G (G.2.2.1 (F (F a 2) 1)) (vw (G.2.1 (F (F a 4) 0))) (vw (G.2.1 (F (F a 5) 0))) 1 (((G.1 (F a 2) 2).toInt)).toNat) := by
  have hd : ∀ p, p ∈ [(F a 11, 3), (F a 9, 6), (F a 14, 1), (F a 14, 2), (F a 14, 3), (F a 10, 6), (F a 8, 6)] → K p.1 ≠ 9 := (List.forall_mem_cons.mpr ⟨(show K (F a 11) ≠ 9 by omega), List.forall_mem_cons.mpr ⟨(show K (F a 9) ≠ 9 by omega), List.forall_mem_cons.mpr ⟨(show K (F a 14) ≠ 9 by omega), List.forall_mem_cons.mpr ⟨(show K (F a 14) ≠ 9 by omega), List.forall_mem_cons.mpr ⟨(show K (F a 14) ≠ 9 by omega), List.forall_mem_cons.mpr ⟨(show K (F a 10) ≠ 9 by omega), List.forall_mem_cons.mpr ⟨(show K (F a 8) ≠ 9 by omega), fun _ h => by cases h⟩⟩⟩⟩⟩⟩⟩)
  have hd2 : ∀ p, p ∈ [(F a 11, 3), (F a 8, 6)] → K p.1 ≠ 9 := (List.forall_mem_cons.mpr ⟨(show K (F a 11) ≠ 9 by omega), List.forall_mem_cons.mpr ⟨(show K (F a 8) ≠ 9 by omega), fun _ h => by cases h⟩⟩)
  rcases oq18 with h | h
  · refine Or.inr ⟨?_, fun h9 => absurd h9 c35, ?_, ?_, fun h9 => absurd h9 c35, fun _ => ?_⟩
    · rw [← oq14]; exact h.2
    · rw [← oq14, qL_len]; omega
    · rw [c_G111_F_F_a_3_0]; exact oq94
    · rw [oq111, r_G94_F_F_a_2_1, oq94]
      refine gaL_cg (fun i q hi hq => ?_)
      have hk := (bko i q (by omega) hq).1
      exact (hF111.rule hd2 hk).symm.trans (hfr.rule hd hk)
  · exfalso; omega
theorem v_X10_actAsOnPaper_121_15 {F : Nat → Nat → Nat} (a : Nat) (G111 : XG) (G94 : XG)
    (oq94a : RO (vw (G94.2.1 (F (F a 3) 0))) (aI (G94.2.1 (F (F a 3) 1))))
    (c_G111_F_F_a_3_0 : G111.2.1 (F (F a 3) 0) = G94.2.1 (F (F a 3) 0))
    (c_G111_F_F_a_3_1 : G111.2.1 (F (F a 3) 1) = G94.2.1 (F (F a 3) 1)) :
    RO (vw (G111.2.1 (F (F a 3) 0))) (aI (G111.2.1 (F (F a 3) 1))) := by
  rw [c_G111_F_F_a_3_0, c_G111_F_F_a_3_1]; exact oq94a
theorem v_X10_actAsOnPaper_43_16 {K : Nat → Nat} {F : Nat → Nat → Nat} (a : Nat) (G : XG) (G14 : XG) (x18 : Int32)
    (ha : K a = 12)
    (hk9999 : K (F a 11) = 3)
    (hj9999 : F (F a 11) 99 = 0)
    (hk9999a : K (F a 9) = 6)
    (hj9999a : F (F a 9) 99 = 1)
    (hk9999b : K (F a 14) = 11)
    (hj9999b : F (F a 14) 99 = 0)
    (hk9999c : K (F a 10) = 6)
    (hj9999c : F (F a 10) 99 = 2)
    (hk9999d : K (F a 8) = 6)
    (hj9999d : F (F a 8) 99 = 0)
    (hk9999e : K (F (F a 11) 0) = 21)
    (hj9999e : F (F (F a 11) 0) 99 = 100)
    (hk9999f : K (F (F a 11) 1) = 21)
    (hj9999f : F (F (F a 11) 1) 99 = 101)
    (hk9999g : K (F (F a 11) 2) = 24)
    (hj9999g : F (F (F a 11) 2) 99 = 4)
    (hk9999h : K (F (F a 9) 0) = 22)
    (hj9999i : F (F (F a 9) 0) 99 = 10 * 1 + 0)
    (hk9999i : K (F (F a 9) 1) = 22)
    (hj9999k : F (F (F a 9) 1) 99 = 10 * 1 + 1)
    (hk9999j : K (F (F a 9) 2) = 22)
    (hj9999m : F (F (F a 9) 2) 99 = 10 * 1 + 2)
    (hk9999k : K (F (F a 9) 3) = 22)
    (hj9999o : F (F (F a 9) 3) 99 = 10 * 1 + 3)
    (hk9999l : K (F (F a 9) 4) = 23)
    (hj9999q : F (F (F a 9) 4) 99 = 10 * 1 + 4)
    (hk9999m : K (F (F a 9) 5) = 23)
    (hj9999s : F (F (F a 9) 5) 99 = 10 * 1 + 5)
    (hk9999n : K (F a 16) = 27)
    (hj9999t : F (F a 16) 99 = 0)
    (hk9999o : K (F a 15) = 26)
    (hj9999u : F (F a 15) 99 = 0)
    (hk9999p : K (F (F a 10) 0) = 22)
    (hj9999w : F (F (F a 10) 0) 99 = 10 * 2 + 0)
    (hk9999q : K (F (F a 10) 1) = 22)
    (hj9999z25 : F (F (F a 10) 1) 99 = 10 * 2 + 1)
    (hk9999r : K (F (F a 10) 2) = 22)
    (hj9999z27 : F (F (F a 10) 2) 99 = 10 * 2 + 2)
    (hk9999s : K (F (F a 10) 3) = 22)
    (hj9999z29 : F (F (F a 10) 3) 99 = 10 * 2 + 3)
    (hk9999t : K (F (F a 10) 4) = 23)
    (hj9999z31 : F (F (F a 10) 4) 99 = 10 * 2 + 4)
    (hk9999u : K (F (F a 10) 5) = 23)
    (hj9999z33 : F (F (F a 10) 5) 99 = 10 * 2 + 5)
    (hk9999v : K (F a 3) = 8)
    (hj9999z34 : F (F a 3) 99 = 0)
    (hk9999w : K (F (F a 3) 0) = 20)
    (hj9999z36 : F (F (F a 3) 0) 99 = 0)
    (hk9999y : K (F (F a 3) 1) = 21)
    (hj9999z38 : F (F (F a 3) 1) 99 = 0)
    (hk9999z25 : K (F (F a 8) 0) = 22)
    (hj9999z40 : F (F (F a 8) 0) 99 = 10 * 0 + 0)
    (hk9999z26 : K (F (F a 8) 1) = 22)
    (hj9999z42 : F (F (F a 8) 1) 99 = 10 * 0 + 1)
    (hk9999z27 : K (F (F a 8) 2) = 22)
    (hj9999z44 : F (F (F a 8) 2) 99 = 10 * 0 + 2)
    (hk9999z28 : K (F (F a 8) 3) = 22)
    (hj9999z46 : F (F (F a 8) 3) 99 = 10 * 0 + 3)
    (hk9999z29 : K (F (F a 8) 4) = 23)
    (hj9999z48 : F (F (F a 8) 4) 99 = 10 * 0 + 4)
    (hk9999z30 : K (F (F a 8) 5) = 23)
    (hj9999z50 : F (F (F a 8) 5) 99 = 10 * 0 + 5)
    (hk9999z31 : K (F a 2) = 2)
    (hj9999z51 : F (F a 2) 99 = 0)
    (hk9999z32 : K (F (F a 2) 1) = 15)
    (hj9999z52 : F (F (F a 2) 1) 99 = 1)
    (hk9999z33 : K (F (F a 2) 0) = 15)
    (hj9999z53 : F (F (F a 2) 0) 99 = 0)
    (hk9999z34 : K (F a 4) = 8)
    (hj9999z54 : F (F a 4) 99 = 1)
    (hk9999z35 : K (F (F a 4) 0) = 20)
    (hj9999z56 : F (F (F a 4) 0) 99 = 1)
    (hk9999z36 : K (F (F a 4) 1) = 21)
    (hj9999z58 : F (F (F a 4) 1) 99 = 1)
    (hk9999z37 : K (F a 5) = 8)
    (hj9999z59 : F (F a 5) 99 = 2)
    (hk9999z38 : K (F (F a 5) 0) = 20)
    (hj9999z61 : F (F (F a 5) 0) 99 = 2)
    (hk9999z39 : K (F (F a 5) 1) = 21)
    (hj9999z63 : F (F (F a 5) 1) 99 = 2)
    (oq18 : (x18.toInt = 1 ∧ ∀ x, x ∈ qL G14 F (F a 9) → x.2.2.2.2.1 = 0 → x.2.2.2.2.2 = 0) ∨ (x18.toInt = 0 ∧ ∃ x, x ∈ qL G14 F (F a 9) ∧ x.2.2.2.2.1 = 0 ∧ x.2.2.2.2.2 ≠ 0))
    (sb : 0 ≤ ((G.1 (F a 2) 2).toInt) ∧ ((G.1 (F a 2) 2).toInt) ≤ 12)
    (sw : 0 ≤ ((G.1 (F a 8) 6).toInt) ∧ ((G.1 (F a 8) 6).toInt) ≤ 1080)
    (t14 : 0 ≤ ((G14.1 (F a 9) 6).toInt) ∧ ((G14.1 (F a 9) 6).toInt) ≤ 1080)
    (c21 : x18.toInt ≠ 0)
    (f95 : ((G.1 a 18).toInt) = 0 ∨ ((G.1 a 18).toInt) = 1)
    (c35 : ¬ (((G.1 a 18).toInt) ≠ 0)) :
    F (F a 9) 99 ≠ 2 := by
  omega
theorem v_X10_actAsOnPaper_60_17 {F : Nat → Nat → Nat} (a : Nat) (G : XG) (G43 : XG)
    (ron : RO (vw (G.2.1 (F (F a 3) 0))) (aI (G.2.1 (F (F a 3) 1))))
    (rop : RO (vw (G.2.1 (F (F a 5) 0))) (aI (G.2.1 (F (F a 5) 1))))
    (rob : RO (vw (G.2.1 (F (F a 4) 0))) (aI (G.2.1 (F (F a 4) 1))))
    (c_G43_F_F_a_5_0 : G43.2.1 (F (F a 5) 0) = G.2.1 (F (F a 5) 0))
    (c_G43_F_F_a_5_1 : G43.2.1 (F (F a 5) 1) = G.2.1 (F (F a 5) 1)) :
    RO (vw (G43.2.1 (F (F a 5) 0))) (aI (G43.2.1 (F (F a 5) 1))) := by simp only [c_G43_F_F_a_5_0, c_G43_F_F_a_5_1]; assumption
theorem v_X10_actAsOnPaper_70_18 {K : Nat → Nat} {F : Nat → Nat → Nat} (a : Nat) (G : XG) (G60 : XG) (G14 : XG) (G18 : XG) (G43 : XG) (x18 : Int32) (x43 : Int32)
    (ha : K a = 12)
    (oq14 : qL G14 F (F a 9) = gaL G (G.2.2.1 (F (F a 2) 1)) (vw (G.2.1 (F (F a 3) 0))) (vw (G.2.1 (F (F a 5) 0))) (0 : Int) (((G.1 (F a 2) 2).toInt)).toNat)
    (oq18 : (x18.toInt = 1 ∧ ∀ x, x ∈ qL G14 F (F a 9) → x.2.2.2.2.1 = 0 → x.2.2.2.2.2 = 0) ∨ (x18.toInt = 0 ∧ ∃ x, x ∈ qL G14 F (F a 9) ∧ x.2.2.2.2.1 = 0 ∧ x.2.2.2.2.2 ≠ 0))
    (oq43 : (x43.toInt = 1 ∧ ∀ x, x ∈ qL G18 F (F a 9) → x.2.2.2.2.1 ≠ 0 → x.2.2.2.2.2 = 0) ∨ (x43.toInt = 0 ∧ ∃ x, x ∈ qL G18 F (F a 9) ∧ x.2.2.2.2.1 ≠ 0 ∧ x.2.2.2.2.2 ≠ 0))
    (oq43a : AskR (qL G18 F (F a 9)) (qL G43 F (F a 10)) x43.toInt)
    (oq60 : (vw (G60.2.1 (F (F a 3) 0))) = (vw (G.2.1 (F (F a 5) 0))))
    (sb : 0 ≤ ((G.1 (F a 2) 2).toInt) ∧ ((G.1 (F a 2) 2).toInt) ≤ 12)
    (sw : 0 ≤ ((G.1 (F a 8) 6).toInt) ∧ ((G.1 (F a 8) 6).toInt) ≤ 1080)
    (t14 : 0 ≤ ((G14.1 (F a 9) 6).toInt) ∧ ((G14.1 (F a 9) 6).toInt) ≤ 1080)
    (c21 : x18.toInt ≠ 0)
    (f102 : ((G.1 a 18).toInt) = 0 ∨ ((G.1 a 18).toInt) = 1)
    (c35 : ¬ (((G.1 a 18).toInt) ≠ 0))
    (t43 : 0 ≤ ((G43.1 (F a 10) 6).toInt) ∧ ((G43.1 (F a 10) 6).toInt) ≤ 1080)
    (f105 : x43.toInt = 0 ∨ x43.toInt = 1)
    (c46 : x43.toInt ≠ 0)
    (c_G18_F_F_a_9_0 : G18.2.1 (F (F a 9) 0) = G14.2.1 (F (F a 9) 0))
    (c_G18_F_F_a_9_1 : G18.2.1 (F (F a 9) 1) = G14.2.1 (F (F a 9) 1))
    (c_G18_F_F_a_9_2 : G18.2.1 (F (F a 9) 2) = G14.2.1 (F (F a 9) 2))
    (c_G18_F_F_a_9_3 : G18.2.1 (F (F a 9) 3) = G14.2.1 (F (F a 9) 3))
    (c_G18_F_F_a_9_4 : G18.2.1 (F (F a 9) 4) = G14.2.1 (F (F a 9) 4))
    (c_G18_F_F_a_9_5 : G18.2.1 (F (F a 9) 5) = G14.2.1 (F (F a 9) 5))
    (c_G60_F_F_a_8_0 : G60.2.1 (F (F a 8) 0) = G.2.1 (F (F a 8) 0))
    (c_G60_F_F_a_8_1 : G60.2.1 (F (F a 8) 1) = G.2.1 (F (F a 8) 1))
    (c_G60_F_F_a_8_2 : G60.2.1 (F (F a 8) 2) = G.2.1 (F (F a 8) 2))
    (c_G60_F_F_a_8_3 : G60.2.1 (F (F a 8) 3) = G.2.1 (F (F a 8) 3))
    (c_G60_F_F_a_8_4 : G60.2.1 (F (F a 8) 4) = G.2.1 (F (F a 8) 4))
    (c_G60_F_F_a_8_5 : G60.2.1 (F (F a 8) 5) = G.2.1 (F (F a 8) 5))
    (d_G18_F_a_9_6 : G18.1 (F a 9) 6 = G14.1 (F a 9) 6)
    (d_G60_F_a_8_6 : G60.1 (F a 8) 6 = G.1 (F a 8) 6) :
    ActR ((G.1 a 18).toInt) ((G14.1 (F a 9) 6).toInt) (gaL G (G.2.2.1 (F (F a 2) 1)) (vw (G.2.1 (F (F a 3) 0))) (vw (G.2.1 (F (F a 5) 0))) 0 (((G.1 (F a 2) 2).toInt)).toNat) (vw (G.2.1 (F (F a 3) 0))) (vw (G60.2.1 (F (F a 3) 0))) (vw (G.2.1 (F (F a 5) 0))) (qL G F (F a 8)) (qL G60 F (F a 8)) (gaL G (G.2.2.1 (F (F a 2) 1)) (vw (G.2.1 (F (F a 4) 0))) (vw (G.2.1 (F (F a 5) 0))) 1 (((G.1 (F a 2) 2).toInt)).toNat) := by
  have e : qL G18 F (F a 9) = qL G14 F (F a 9) := qL_cg d_G18_F_a_9_6 c_G18_F_F_a_9_0 c_G18_F_F_a_9_1 c_G18_F_F_a_9_2 c_G18_F_F_a_9_3 c_G18_F_F_a_9_4 c_G18_F_F_a_9_5
  rcases oq18 with h | h
  · rcases oq43 with h2 | h2
    · refine Or.inr ⟨?_, fun _ => ?_, ?_, oq60, fun _ => qL_cg d_G60_F_a_8_6 c_G60_F_F_a_8_0 c_G60_F_F_a_8_1 c_G60_F_F_a_8_2 c_G60_F_F_a_8_3 c_G60_F_F_a_8_4 c_G60_F_F_a_8_5, fun h9 => absurd h9 (by omega)⟩
      · rw [← oq14]; exact h.2
      · rw [← oq14, ← e]; exact h2.2
      · rw [← oq14, qL_len]; omega
    · exfalso; omega
  · exfalso; omega
theorem v_X10_actAsOnPaper_70_19 {F : Nat → Nat → Nat} (a : Nat) (G60 : XG)
    (oq60a : RO (vw (G60.2.1 (F (F a 3) 0))) (aI (G60.2.1 (F (F a 3) 1)))) :
    RO (vw (G60.2.1 (F (F a 3) 0))) (aI (G60.2.1 (F (F a 3) 1))) := by
  exact oq60a
theorem v_X10_actAsOnPaper_51_20 {K : Nat → Nat} {F : Nat → Nat → Nat} (a : Nat) (G : XG) (G43 : XG) (G14 : XG) (G18 : XG) (x18 : Int32) (x43 : Int32)
    (ha : K a = 12)
    (oq14 : qL G14 F (F a 9) = gaL G (G.2.2.1 (F (F a 2) 1)) (vw (G.2.1 (F (F a 3) 0))) (vw (G.2.1 (F (F a 5) 0))) (0 : Int) (((G.1 (F a 2) 2).toInt)).toNat)
    (oq18 : (x18.toInt = 1 ∧ ∀ x, x ∈ qL G14 F (F a 9) → x.2.2.2.2.1 = 0 → x.2.2.2.2.2 = 0) ∨ (x18.toInt = 0 ∧ ∃ x, x ∈ qL G14 F (F a 9) ∧ x.2.2.2.2.1 = 0 ∧ x.2.2.2.2.2 ≠ 0))
    (oq43 : (x43.toInt = 1 ∧ ∀ x, x ∈ qL G18 F (F a 9) → x.2.2.2.2.1 ≠ 0 → x.2.2.2.2.2 = 0) ∨ (x43.toInt = 0 ∧ ∃ x, x ∈ qL G18 F (F a 9) ∧ x.2.2.2.2.1 ≠ 0 ∧ x.2.2.2.2.2 ≠ 0))
    (oq43a : AskR (qL G18 F (F a 9)) (qL G43 F (F a 10)) x43.toInt)
    (sb : 0 ≤ ((G.1 (F a 2) 2).toInt) ∧ ((G.1 (F a 2) 2).toInt) ≤ 12)
    (sw : 0 ≤ ((G.1 (F a 8) 6).toInt) ∧ ((G.1 (F a 8) 6).toInt) ≤ 1080)
    (t14 : 0 ≤ ((G14.1 (F a 9) 6).toInt) ∧ ((G14.1 (F a 9) 6).toInt) ≤ 1080)
    (c21 : x18.toInt ≠ 0)
    (f98 : ((G.1 a 18).toInt) = 0 ∨ ((G.1 a 18).toInt) = 1)
    (c35 : ¬ (((G.1 a 18).toInt) ≠ 0))
    (t43 : 0 ≤ ((G43.1 (F a 10) 6).toInt) ∧ ((G43.1 (F a 10) 6).toInt) ≤ 1080)
    (f101 : x43.toInt = 0 ∨ x43.toInt = 1)
    (c46 : ¬ (x43.toInt ≠ 0))
    (c_G18_F_F_a_9_0 : G18.2.1 (F (F a 9) 0) = G14.2.1 (F (F a 9) 0))
    (c_G18_F_F_a_9_1 : G18.2.1 (F (F a 9) 1) = G14.2.1 (F (F a 9) 1))
    (c_G18_F_F_a_9_2 : G18.2.1 (F (F a 9) 2) = G14.2.1 (F (F a 9) 2))
    (c_G18_F_F_a_9_3 : G18.2.1 (F (F a 9) 3) = G14.2.1 (F (F a 9) 3))
    (c_G18_F_F_a_9_4 : G18.2.1 (F (F a 9) 4) = G14.2.1 (F (F a 9) 4))
    (c_G18_F_F_a_9_5 : G18.2.1 (F (F a 9) 5) = G14.2.1 (F (F a 9) 5))
    (c_G43_F_F_a_3_0 : G43.2.1 (F (F a 3) 0) = G.2.1 (F (F a 3) 0))
    (c_G43_F_F_a_8_0 : G43.2.1 (F (F a 8) 0) = G.2.1 (F (F a 8) 0))
    (c_G43_F_F_a_8_1 : G43.2.1 (F (F a 8) 1) = G.2.1 (F (F a 8) 1))
    (c_G43_F_F_a_8_2 : G43.2.1 (F (F a 8) 2) = G.2.1 (F (F a 8) 2))
    (c_G43_F_F_a_8_3 : G43.2.1 (F (F a 8) 3) = G.2.1 (F (F a 8) 3))
    (c_G43_F_F_a_8_4 : G43.2.1 (F (F a 8) 4) = G.2.1 (F (F a 8) 4))
    (c_G43_F_F_a_8_5 : G43.2.1 (F (F a 8) 5) = G.2.1 (F (F a 8) 5))
    (d_G18_F_a_9_6 : G18.1 (F a 9) 6 = G14.1 (F a 9) 6)
    (d_G43_F_a_8_6 : G43.1 (F a 8) 6 = G.1 (F a 8) 6) :
    ActR ((G.1 a 18).toInt) (-5 : Int) (gaL G (G.2.2.1 (F (F a 2) 1)) (vw (G.2.1 (F (F a 3) 0))) (vw (G.2.1 (F (F a 5) 0))) 0 (((G.1 (F a 2) 2).toInt)).toNat) (vw (G.2.1 (F (F a 3) 0))) (vw (G43.2.1 (F (F a 3) 0))) (vw (G.2.1 (F (F a 5) 0))) (qL G F (F a 8)) (qL G43 F (F a 8)) (gaL G (G.2.2.1 (F (F a 2) 1)) (vw (G.2.1 (F (F a 4) 0))) (vw (G.2.1 (F (F a 5) 0))) 1 (((G.1 (F a 2) 2).toInt)).toNat) := by
  have e : qL G18 F (F a 9) = qL G14 F (F a 9) := qL_cg d_G18_F_a_9_6 c_G18_F_F_a_9_0 c_G18_F_F_a_9_1 c_G18_F_F_a_9_2 c_G18_F_F_a_9_3 c_G18_F_F_a_9_4 c_G18_F_F_a_9_5
  rcases oq43 with h | h
  · exfalso; omega
  · refine Or.inl ⟨Or.inr ⟨by omega, ?_⟩, rfl, ?_, ?_⟩
    · rw [← oq14, ← e]; exact h.2
    · rw [c_G43_F_F_a_3_0]
    · exact qL_cg d_G43_F_a_8_6 c_G43_F_F_a_8_0 c_G43_F_F_a_8_1 c_G43_F_F_a_8_2 c_G43_F_F_a_8_3 c_G43_F_F_a_8_4 c_G43_F_F_a_8_5
theorem v_X10_actAsOnPaper_51_21 {F : Nat → Nat → Nat} (a : Nat) (G : XG) (G43 : XG)
    (ron : RO (vw (G.2.1 (F (F a 3) 0))) (aI (G.2.1 (F (F a 3) 1))))
    (c_G43_F_F_a_3_0 : G43.2.1 (F (F a 3) 0) = G.2.1 (F (F a 3) 0))
    (c_G43_F_F_a_3_1 : G43.2.1 (F (F a 3) 1) = G.2.1 (F (F a 3) 1)) :
    RO (vw (G43.2.1 (F (F a 3) 0))) (aI (G43.2.1 (F (F a 3) 1))) := by
  rw [c_G43_F_F_a_3_0, c_G43_F_F_a_3_1]; exact ron
theorem v_X10_actAsOnPaper_30_22 {K : Nat → Nat} {F : Nat → Nat → Nat} (a : Nat) (G : XG) (G27 : XG) (G14 : XG) (x18 : Int32)
    (ha : K a = 12)
    (oq14 : qL G14 F (F a 9) = gaL G (G.2.2.1 (F (F a 2) 1)) (vw (G.2.1 (F (F a 3) 0))) (vw (G.2.1 (F (F a 5) 0))) (0 : Int) (((G.1 (F a 2) 2).toInt)).toNat)
    (oq18 : (x18.toInt = 1 ∧ ∀ x, x ∈ qL G14 F (F a 9) → x.2.2.2.2.1 = 0 → x.2.2.2.2.2 = 0) ∨ (x18.toInt = 0 ∧ ∃ x, x ∈ qL G14 F (F a 9) ∧ x.2.2.2.2.1 = 0 ∧ x.2.2.2.2.2 ≠ 0))
    (sb : 0 ≤ ((G.1 (F a 2) 2).toInt) ∧ ((G.1 (F a 2) 2).toInt) ≤ 12)
    (sw : 0 ≤ ((G.1 (F a 8) 6).toInt) ∧ ((G.1 (F a 8) 6).toInt) ≤ 1080)
    (t14 : 0 ≤ ((G14.1 (F a 9) 6).toInt) ∧ ((G14.1 (F a 9) 6).toInt) ≤ 1080)
    (c21 : ¬ (x18.toInt ≠ 0))
    (c_G27_F_F_a_3_0 : G27.2.1 (F (F a 3) 0) = G.2.1 (F (F a 3) 0))
    (c_G27_F_F_a_8_0 : G27.2.1 (F (F a 8) 0) = G.2.1 (F (F a 8) 0))
    (c_G27_F_F_a_8_1 : G27.2.1 (F (F a 8) 1) = G.2.1 (F (F a 8) 1))
    (c_G27_F_F_a_8_2 : G27.2.1 (F (F a 8) 2) = G.2.1 (F (F a 8) 2))
    (c_G27_F_F_a_8_3 : G27.2.1 (F (F a 8) 3) = G.2.1 (F (F a 8) 3))
    (c_G27_F_F_a_8_4 : G27.2.1 (F (F a 8) 4) = G.2.1 (F (F a 8) 4))
    (c_G27_F_F_a_8_5 : G27.2.1 (F (F a 8) 5) = G.2.1 (F (F a 8) 5))
    (d_G27_F_a_8_6 : G27.1 (F a 8) 6 = G.1 (F a 8) 6) :
    ActR ((G.1 a 18).toInt) (-5 : Int) (gaL G (G.2.2.1 (F (F a 2) 1)) (vw (G.2.1 (F (F a 3) 0))) (vw (G.2.1 (F (F a 5) 0))) 0 (((G.1 (F a 2) 2).toInt)).toNat) (vw (G.2.1 (F (F a 3) 0))) (vw (G27.2.1 (F (F a 3) 0))) (vw (G.2.1 (F (F a 5) 0))) (qL G F (F a 8)) (qL G27 F (F a 8)) (gaL G (G.2.2.1 (F (F a 2) 1)) (vw (G.2.1 (F (F a 4) 0))) (vw (G.2.1 (F (F a 5) 0))) 1 (((G.1 (F a 2) 2).toInt)).toNat) := by
  rcases oq18 with h | h
  · exfalso; omega
  · refine Or.inl ⟨Or.inl ?_, rfl, ?_, ?_⟩
    · rw [← oq14]; exact h.2
    · rw [c_G27_F_F_a_3_0]
    · exact qL_cg d_G27_F_a_8_6 c_G27_F_F_a_8_0 c_G27_F_F_a_8_1 c_G27_F_F_a_8_2 c_G27_F_F_a_8_3 c_G27_F_F_a_8_4 c_G27_F_F_a_8_5
theorem v_X10_actAsOnPaper_30_23 {F : Nat → Nat → Nat} (a : Nat) (G : XG) (G27 : XG)
    (ron : RO (vw (G.2.1 (F (F a 3) 0))) (aI (G.2.1 (F (F a 3) 1))))
    (c_G27_F_F_a_3_0 : G27.2.1 (F (F a 3) 0) = G.2.1 (F (F a 3) 0))
    (c_G27_F_F_a_3_1 : G27.2.1 (F (F a 3) 1) = G.2.1 (F (F a 3) 1)) :
    RO (vw (G27.2.1 (F (F a 3) 0))) (aI (G27.2.1 (F (F a 3) 1))) := by
  rw [c_G27_F_F_a_3_0, c_G27_F_F_a_3_1]; exact ron
abbrev rm_X10_actAsOnPaper : Room := { frames := 9, cells := 14, slots := 1400, locals := 216 }
set_option maxHeartbeats 4000000 in
set_option maxRecDepth 100000 in
theorem c_X10_actAsOnPaper (l : Launch) (E : XE) (K : Nat → Nat) (F : Nat → Nat → Nat) (G : XG) (a : Nat) (ha : K a = 12) (sb : 0 ≤ ((G.1 (F a 2) 2).toInt) ∧ ((G.1 (F a 2) 2).toInt) ≤ 12) (sw : 0 ≤ ((G.1 (F a 8) 6).toInt) ∧ ((G.1 (F a 8) 6).toInt) ≤ 1080) (ron : RO (vw (G.2.1 (F (F a 3) 0))) (aI (G.2.1 (F (F a 3) 1)))) (rop : RO (vw (G.2.1 (F (F a 5) 0))) (aI (G.2.1 (F (F a 5) 1)))) (rob : RO (vw (G.2.1 (F (F a 4) 0))) (aI (G.2.1 (F (F a 4) 1)))) (bko : BKr K G (G.2.2.1 (F (F a 2) 1))) (bkn : BKr K G (G.2.2.1 (F (F a 2) 0))) : Met l yX10_actAsOnPaper (xw yX10_actAsOnPaper cX10_actAsOnPaper 1 (some .int)) rm_X10_actAsOnPaper (va_Pc [.ref a] (XP E K F G)) (XQ E (fun v (u : XG) => ∃ r : Int32, v = .int r ∧ XFr [(F a 11, 3), (F a 9, 6), (F a 14, 1), (F a 14, 2), (F a 14, 3), (F a 10, 6), (F a 8, 6)] [F (F a 11) 0, F (F a 11) 1, F (F a 11) 2, F (F a 9) 0, F (F a 9) 1, F (F a 9) 2, F (F a 9) 3, F (F a 9) 4, F (F a 9) 5, F a 16, F a 15, F (F a 10) 0, F (F a 10) 1, F (F a 10) 2, F (F a 10) 3, F (F a 10) 4, F (F a 10) 5, F (F a 3) 0, F (F a 3) 1, F (F a 8) 0, F (F a 8) 1, F (F a 8) 2, F (F a 8) 3, F (F a 8) 4, F (F a 8) 5] [] G u ∧ (0 ≤ ((u.1 (F a 8) 6).toInt) ∧ ((u.1 (F a 8) 6).toInt) ≤ 1080) ∧ (ActR ((G.1 a 18).toInt) r.toInt (gaL G (G.2.2.1 (F (F a 2) 1)) (vw (G.2.1 (F (F a 3) 0))) (vw (G.2.1 (F (F a 5) 0))) 0 (((G.1 (F a 2) 2).toInt)).toNat) (vw (G.2.1 (F (F a 3) 0))) (vw (u.2.1 (F (F a 3) 0))) (vw (G.2.1 (F (F a 5) 0))) (qL G F (F a 8)) (qL u F (F a 8)) (gaL G (G.2.2.1 (F (F a 2) 1)) (vw (G.2.1 (F (F a 4) 0))) (vw (G.2.1 (F (F a 5) 0))) 1 (((G.1 (F a 2) 2).toInt)).toNat)) ∧ (RO (vw (u.2.1 (F (F a 3) 0))) (aI (u.2.1 (F (F a 3) 1))))) (fun u H => TW E K F u H)) 14 1400 (xA E) := by
  refine x_enter (by decide) (Nat.le_of_ble_eq_true rfl) ?_
  intro p e s m args below meth c Q S hr hlk hnm hQ hP ls hl
  obtain ⟨hz, hK, hT⟩ := hP
  obtain ⟨hx, hb, -, -, -⟩ := id S
  obtain ⟨H, hT, hS, hgo⟩ : ∃ H : Heap, TW E K F G H ∧ va_S (xA E) s.heap H [] ∧ H = s.heap := ⟨_, hT, va_S.rf, rfl⟩
  rw [← hgo]
  have hl : lv_has ls 1 [(0, .ref a)] := hl
  obtain ⟨hk9999, hj9999⟩ := fkX10_11 hT ha
  obtain ⟨hk9999a, hj9999a⟩ := fkX10_9 hT ha
  obtain ⟨hk9999b, hj9999b⟩ := fkX10_14 hT ha
  obtain ⟨hk9999c, hj9999c⟩ := fkX10_10 hT ha
  obtain ⟨hk9999d, hj9999d⟩ := fkX10_8 hT ha
  obtain ⟨hk9999e, hj9999e⟩ := fkX1_0 hT hk9999
  obtain ⟨hk9999f, hj9999f⟩ := fkX1_1 hT hk9999
  obtain ⟨hk9999g, hj9999g⟩ := fkX1_2 hT hk9999
  obtain ⟨hk9999h, hj9999h⟩ := fkX4_0 hT hk9999a
  have hj9999i : F (F (F a 9) 0) 99 = 10 * 1 + 0 := by rw [hj9999h, hj9999a]
  obtain ⟨hk9999i, hj9999j⟩ := fkX4_1 hT hk9999a
  have hj9999k : F (F (F a 9) 1) 99 = 10 * 1 + 1 := by rw [hj9999j, hj9999a]
  obtain ⟨hk9999j, hj9999l⟩ := fkX4_2 hT hk9999a
  have hj9999m : F (F (F a 9) 2) 99 = 10 * 1 + 2 := by rw [hj9999l, hj9999a]
  obtain ⟨hk9999k, hj9999n⟩ := fkX4_3 hT hk9999a
  have hj9999o : F (F (F a 9) 3) 99 = 10 * 1 + 3 := by rw [hj9999n, hj9999a]
  obtain ⟨hk9999l, hj9999p⟩ := fkX4_4 hT hk9999a
  have hj9999q : F (F (F a 9) 4) 99 = 10 * 1 + 4 := by rw [hj9999p, hj9999a]
  obtain ⟨hk9999m, hj9999r⟩ := fkX4_5 hT hk9999a
  have hj9999s : F (F (F a 9) 5) 99 = 10 * 1 + 5 := by rw [hj9999r, hj9999a]
  obtain ⟨hk9999n, hj9999t⟩ := fkX10_16 hT ha
  obtain ⟨hk9999o, hj9999u⟩ := fkX10_15 hT ha
  obtain ⟨hk9999p, hj9999v⟩ := fkX4_0 hT hk9999c
  have hj9999w : F (F (F a 10) 0) 99 = 10 * 2 + 0 := by rw [hj9999v, hj9999c]
  obtain ⟨hk9999q, hj9999y⟩ := fkX4_1 hT hk9999c
  have hj9999z25 : F (F (F a 10) 1) 99 = 10 * 2 + 1 := by rw [hj9999y, hj9999c]
  obtain ⟨hk9999r, hj9999z26⟩ := fkX4_2 hT hk9999c
  have hj9999z27 : F (F (F a 10) 2) 99 = 10 * 2 + 2 := by rw [hj9999z26, hj9999c]
  obtain ⟨hk9999s, hj9999z28⟩ := fkX4_3 hT hk9999c
  have hj9999z29 : F (F (F a 10) 3) 99 = 10 * 2 + 3 := by rw [hj9999z28, hj9999c]
  obtain ⟨hk9999t, hj9999z30⟩ := fkX4_4 hT hk9999c
  have hj9999z31 : F (F (F a 10) 4) 99 = 10 * 2 + 4 := by rw [hj9999z30, hj9999c]
  obtain ⟨hk9999u, hj9999z32⟩ := fkX4_5 hT hk9999c
  have hj9999z33 : F (F (F a 10) 5) 99 = 10 * 2 + 5 := by rw [hj9999z32, hj9999c]
  obtain ⟨hk9999v, hj9999z34⟩ := fkX10_3 hT ha
  obtain ⟨hk9999w, hj9999z35⟩ := fkX6_0 hT hk9999v
  have hj9999z36 : F (F (F a 3) 0) 99 = 0 := by rw [hj9999z35, hj9999z34]
  obtain ⟨hk9999y, hj9999z37⟩ := fkX6_1 hT hk9999v
  have hj9999z38 : F (F (F a 3) 1) 99 = 0 := by rw [hj9999z37, hj9999z34]
  obtain ⟨hk9999z25, hj9999z39⟩ := fkX4_0 hT hk9999d
  have hj9999z40 : F (F (F a 8) 0) 99 = 10 * 0 + 0 := by rw [hj9999z39, hj9999d]
  obtain ⟨hk9999z26, hj9999z41⟩ := fkX4_1 hT hk9999d
  have hj9999z42 : F (F (F a 8) 1) 99 = 10 * 0 + 1 := by rw [hj9999z41, hj9999d]
  obtain ⟨hk9999z27, hj9999z43⟩ := fkX4_2 hT hk9999d
  have hj9999z44 : F (F (F a 8) 2) 99 = 10 * 0 + 2 := by rw [hj9999z43, hj9999d]
  obtain ⟨hk9999z28, hj9999z45⟩ := fkX4_3 hT hk9999d
  have hj9999z46 : F (F (F a 8) 3) 99 = 10 * 0 + 3 := by rw [hj9999z45, hj9999d]
  obtain ⟨hk9999z29, hj9999z47⟩ := fkX4_4 hT hk9999d
  have hj9999z48 : F (F (F a 8) 4) 99 = 10 * 0 + 4 := by rw [hj9999z47, hj9999d]
  obtain ⟨hk9999z30, hj9999z49⟩ := fkX4_5 hT hk9999d
  have hj9999z50 : F (F (F a 8) 5) 99 = 10 * 0 + 5 := by rw [hj9999z49, hj9999d]
  obtain ⟨hk9999z31, hj9999z51⟩ := fkX10_2 hT ha
  obtain ⟨hk9999z32, hj9999z52⟩ := fkX0_1 hT hk9999z31
  obtain ⟨hk9999z33, hj9999z53⟩ := fkX0_0 hT hk9999z31
  obtain ⟨hk9999z34, hj9999z54⟩ := fkX10_4 hT ha
  obtain ⟨hk9999z35, hj9999z55⟩ := fkX6_0 hT hk9999z34
  have hj9999z56 : F (F (F a 4) 0) 99 = 1 := by rw [hj9999z55, hj9999z54]
  obtain ⟨hk9999z36, hj9999z57⟩ := fkX6_1 hT hk9999z34
  have hj9999z58 : F (F (F a 4) 1) 99 = 1 := by rw [hj9999z57, hj9999z54]
  obtain ⟨hk9999z37, hj9999z59⟩ := fkX10_5 hT ha
  obtain ⟨hk9999z38, hj9999z60⟩ := fkX6_0 hT hk9999z37
  have hj9999z61 : F (F (F a 5) 0) 99 = 2 := by rw [hj9999z60, hj9999z59]
  obtain ⟨hk9999z39, hj9999z62⟩ := fkX6_1 hT hk9999z37
  have hj9999z63 : F (F (F a 5) 1) 99 = 2 := by rw [hj9999z62, hj9999z59]
  refine lv_aload_n hx hb dX10_actAsOnPaper_0 rfl (lv_at hl 0 rfl) ?_
  refine lv_aload_n hx hb dX10_actAsOnPaper_1 rfl (lv_at hl 0 rfl) ?_
  refine gX10_9 S hK hT ha kf_X10_61 dX10_actAsOnPaper_2 (fun _ _ => ?_)
  refine lv_aload_n hx hb dX10_actAsOnPaper_5 rfl (lv_at hl 0 rfl) ?_
  refine gX10_3 S hK hT ha kf_X10_37 dX10_actAsOnPaper_6 (fun _ _ => ?_)
  refine lv_aload_n hx hb dX10_actAsOnPaper_9 rfl (lv_at hl 0 rfl) ?_
  refine gX10_5 S hK hT ha kf_X10_44 dX10_actAsOnPaper_10 (fun _ _ => ?_)
  refine lv_iconst (v := 0) hx hb dX10_actAsOnPaper_13 (by decide) ?_
  refine x_cv0 (x_runV (b := a) (As := [.ref (F a 9), .ref (F a 3), .ref (F a 5), .int 0]) (rest := []) S (c_X10_gather l E K F G a (F a 9) (F a 3) (F a 5) 0 ha hk9999a hk9999v hk9999z37 (sb) (v_X10_actAsOnPaper_14_1 (F := F) a G ron) (v_X10_actAsOnPaper_14_2 (F := F) a G rop) (v_X10_actAsOnPaper_14_3 (K := K) (F := F) a G ha hk9999 hj9999 hk9999a hj9999a hk9999b hj9999b hk9999c hj9999c hk9999d hj9999d hk9999e hj9999e hk9999f hj9999f hk9999g hj9999g hk9999h hj9999i hk9999i hj9999k hk9999j hj9999m hk9999k hj9999o hk9999l hj9999q hk9999m hj9999s hk9999n hj9999t hk9999o hj9999u hk9999p hj9999w hk9999q hj9999z25 hk9999r hj9999z27 hk9999s hj9999z29 hk9999t hj9999z31 hk9999u hj9999z33 hk9999v hj9999z34 hk9999w hj9999z36 hk9999y hj9999z38 hk9999z25 hj9999z40 hk9999z26 hj9999z42 hk9999z27 hj9999z44 hk9999z28 hj9999z46 hk9999z29 hj9999z48 hk9999z30 hj9999z50 hk9999z31 hj9999z51 hk9999z32 hj9999z52 hk9999z33 hj9999z53 hk9999z34 hj9999z54 hk9999z35 hj9999z56 hk9999z36 hj9999z58 hk9999z37 hj9999z59 hk9999z38 hj9999z61 hk9999z39 hj9999z63 ron rop rob bko bkn sb sw) (v_X10_actAsOnPaper_14_4 (K := K) (F := F) a G ha hk9999 hj9999 hk9999a hj9999a hk9999b hj9999b hk9999c hj9999c hk9999d hj9999d hk9999e hj9999e hk9999f hj9999f hk9999g hj9999g hk9999h hj9999i hk9999i hj9999k hk9999j hj9999m hk9999k hj9999o hk9999l hj9999q hk9999m hj9999s hk9999n hj9999t hk9999o hj9999u hk9999p hj9999w hk9999q hj9999z25 hk9999r hj9999z27 hk9999s hj9999z29 hk9999t hj9999z31 hk9999u hj9999z33 hk9999v hj9999z34 hk9999w hj9999z36 hk9999y hj9999z38 hk9999z25 hj9999z40 hk9999z26 hj9999z42 hk9999z27 hj9999z44 hk9999z28 hj9999z46 hk9999z29 hj9999z48 hk9999z30 hj9999z50 hk9999z31 hj9999z51 hk9999z32 hj9999z52 hk9999z33 hj9999z53 hk9999z34 hj9999z54 hk9999z35 hj9999z56 hk9999z36 hj9999z58 hk9999z37 hj9999z59 hk9999z38 hj9999z61 hk9999z39 hj9999z63 ron rop rob bko bkn sb sw) (v_X10_actAsOnPaper_14_5 (K := K) (F := F) a G ha hk9999 hj9999 hk9999a hj9999a hk9999b hj9999b hk9999c hj9999c hk9999d hj9999d hk9999e hj9999e hk9999f hj9999f hk9999g hj9999g hk9999h hj9999i hk9999i hj9999k hk9999j hj9999m hk9999k hj9999o hk9999l hj9999q hk9999m hj9999s hk9999n hj9999t hk9999o hj9999u hk9999p hj9999w hk9999q hj9999z25 hk9999r hj9999z27 hk9999s hj9999z29 hk9999t hj9999z31 hk9999u hj9999z33 hk9999v hj9999z34 hk9999w hj9999z36 hk9999y hj9999z38 hk9999z25 hj9999z40 hk9999z26 hj9999z42 hk9999z27 hj9999z44 hk9999z28 hj9999z46 hk9999z29 hj9999z48 hk9999z30 hj9999z50 hk9999z31 hj9999z51 hk9999z32 hj9999z52 hk9999z33 hj9999z53 hk9999z34 hj9999z54 hk9999z35 hj9999z56 hk9999z36 hj9999z58 hk9999z37 hj9999z59 hk9999z38 hj9999z61 hk9999z39 hj9999z63 ron rop rob bko bkn sb sw)) mv_X10_gather km_X10_240 rfl rfl ⟨Nat.le_of_ble_eq_true rfl, Nat.le_of_ble_eq_true rfl⟩ (rc_12 hK hT ha) hK (fun _ => XP.blind) (fun U hU hW => XP.at hK hz hS hT hU hW) rfl hl.1 (Nat.le_of_ble_eq_true rfl) dX10_actAsOnPaper_14 ⟨Nat.le_of_ble_eq_true rfl, Nat.le_of_ble_eq_true rfl⟩) hS ?_
  rintro G14 H locs ⟨hF14, t14, oq14⟩ hT hS
  have t14 : 0 ≤ ((G14.1 (F a 9) 6).toInt) ∧ ((G14.1 (F a 9) 6).toInt) ≤ 1080 := t14
  refine lv_aload_n hx hb dX10_actAsOnPaper_17 rfl (lv_at hl 0 rfl) ?_
  refine x_cl (x_runV (b := a) (As := []) (rest := []) S (c_X10_askAtOnce l E K F G14 a ha (t14)) mv_X10_askAtOnce km_X10_401 rfl rfl ⟨Nat.le_of_ble_eq_true rfl, Nat.le_of_ble_eq_true rfl⟩ (rc_12 hK hT ha) hK (fun _ => XP.blind) (fun U hU hW => XP.at hK hz hS hT hU hW) rfl hl.1 (Nat.le_of_ble_eq_true rfl) dX10_actAsOnPaper_18 ⟨Nat.le_of_ble_eq_true rfl, Nat.le_of_ble_eq_true rfl⟩) hS ?_
  rintro _ G18 H locs ⟨x18, rfl, b18, hF18, oq18⟩ hT hS
  refine xi_zne (tgt := 31) hx hb (rfl : Int32.toInt x18 = x18.toInt) dX10_actAsOnPaper_21 (by decide) (fun c21 => ?_) (fun c21 => ?_)
  · refine lv_aload_n hx hb dX10_actAsOnPaper_31 rfl (lv_at hl 0 rfl) ?_
    refine gX10_18 S hK hT ha kf_X10_123 dX10_actAsOnPaper_32 (v := (G.1 a 18)) ((hF18.1 _ _ (xnj (by decide) (xnj (by decide) (xnj (by decide) xn0)))).trans (hF14.1 _ _ (xnj (by decide) (xnj (by decide) xn0)))) (fun hz32 => ?_)
    refine xi_zne (tgt := 71) hx hb (rfl : Int32.toInt (G.1 a 18) = ((G.1 a 18).toInt)) dX10_actAsOnPaper_35 (by decide) (fun c35 => ?_) (fun c35 => ?_)
    · refine lv_aload_n hx hb dX10_actAsOnPaper_71 rfl (lv_at hl 0 rfl) ?_
      refine lv_iconst (v := 0) hx hb dX10_actAsOnPaper_72 (by decide) ?_
      refine x_cv0 (x_runV (b := a) (As := [.int 0]) (rest := []) S (c_X10_tally l E K F G18 a 0 ha (Or.inl rfl) (v_X10_actAsOnPaper_73_6 (F := F) a G G18 ron rop rob ((hF18.2.1 _ (xn1 (xne_k hk9999z35 hk9999n (by decide)) xn0)).trans (hF14.2.1 _ (xn1 (xne_k hk9999z35 hk9999e (by decide)) (xn1 (xne_k hk9999z35 hk9999f (by decide)) (xn1 (xne_k hk9999z35 hk9999g (by decide)) (xn1 (xne_k hk9999z35 hk9999h (by decide)) (xn1 (xne_k hk9999z35 hk9999i (by decide)) (xn1 (xne_k hk9999z35 hk9999j (by decide)) (xn1 (xne_k hk9999z35 hk9999k (by decide)) (xn1 (xne_k hk9999z35 hk9999l (by decide)) (xn1 (xne_k hk9999z35 hk9999m (by decide)) xn0))))))))))) ((hF18.2.1 _ (xn1 (xne_k hk9999z36 hk9999n (by decide)) xn0)).trans (hF14.2.1 _ (xn1 (xne_j hj9999z58 hj9999e (by first | decide | omega)) (xn1 (xne_j hj9999z58 hj9999f (by first | decide | omega)) (xn1 (xne_k hk9999z36 hk9999g (by decide)) (xn1 (xne_k hk9999z36 hk9999h (by decide)) (xn1 (xne_k hk9999z36 hk9999i (by decide)) (xn1 (xne_k hk9999z36 hk9999j (by decide)) (xn1 (xne_k hk9999z36 hk9999k (by decide)) (xn1 (xne_k hk9999z36 hk9999l (by decide)) (xn1 (xne_k hk9999z36 hk9999m (by decide)) xn0)))))))))))) (v_X10_actAsOnPaper_73_7 (K := K) (F := F) a G G18 G14 x18 ha hk9999 hj9999 hk9999a hj9999a hk9999b hj9999b hk9999c hj9999c hk9999d hj9999d hk9999e hj9999e hk9999f hj9999f hk9999g hj9999g hk9999h hj9999i hk9999i hj9999k hk9999j hj9999m hk9999k hj9999o hk9999l hj9999q hk9999m hj9999s hk9999n hj9999t hk9999o hj9999u hk9999p hj9999w hk9999q hj9999z25 hk9999r hj9999z27 hk9999s hj9999z29 hk9999t hj9999z31 hk9999u hj9999z33 hk9999v hj9999z34 hk9999w hj9999z36 hk9999y hj9999z38 hk9999z25 hj9999z40 hk9999z26 hj9999z42 hk9999z27 hj9999z44 hk9999z28 hj9999z46 hk9999z29 hj9999z48 hk9999z30 hj9999z50 hk9999z31 hj9999z51 hk9999z32 hj9999z52 hk9999z33 hj9999z53 hk9999z34 hj9999z54 hk9999z35 hj9999z56 hk9999z36 hj9999z58 hk9999z37 hj9999z59 hk9999z38 hj9999z61 hk9999z39 hj9999z63 (XFr.call (XFr.call XFr.rf hF14 (xm1 0 rfl (xm1 1 rfl xm0)) (xm1 0 rfl (xm1 1 rfl (xm1 2 rfl (xm1 3 rfl (xm1 4 rfl (xm1 5 rfl (xm1 6 rfl (xm1 7 rfl (xm1 8 rfl xm0))))))))) xm0) hF18 (xm1 2 rfl (xm1 3 rfl (xm1 4 rfl xm0))) (xm1 9 rfl xm0) xm0) hF14 hF18 ron rop rob bko bkn oq14 oq18 sb sw t14 c21 (xzi hz32) c35 ((hF18.2.1 _ (xn1 (xne_k hk9999p hk9999n (by decide)) xn0)).trans (hF14.2.1 _ (xn1 (xne_k hk9999p hk9999e (by decide)) (xn1 (xne_k hk9999p hk9999f (by decide)) (xn1 (xne_k hk9999p hk9999g (by decide)) (xn1 (xne_j hj9999w hj9999i (by first | decide | omega)) (xn1 (xne_j hj9999w hj9999k (by first | decide | omega)) (xn1 (xne_j hj9999w hj9999m (by first | decide | omega)) (xn1 (xne_j hj9999w hj9999o (by first | decide | omega)) (xn1 (xne_k hk9999p hk9999l (by decide)) (xn1 (xne_k hk9999p hk9999m (by decide)) xn0))))))))))) ((hF18.2.1 _ (xn1 (xne_k hk9999q hk9999n (by decide)) xn0)).trans (hF14.2.1 _ (xn1 (xne_k hk9999q hk9999e (by decide)) (xn1 (xne_k hk9999q hk9999f (by decide)) (xn1 (xne_k hk9999q hk9999g (by decide)) (xn1 (xne_j hj9999z25 hj9999i (by first | decide | omega)) (xn1 (xne_j hj9999z25 hj9999k (by first | decide | omega)) (xn1 (xne_j hj9999z25 hj9999m (by first | decide | omega)) (xn1 (xne_j hj9999z25 hj9999o (by first | decide | omega)) (xn1 (xne_k hk9999q hk9999l (by decide)) (xn1 (xne_k hk9999q hk9999m (by decide)) xn0))))))))))) ((hF18.2.1 _ (xn1 (xne_k hk9999r hk9999n (by decide)) xn0)).trans (hF14.2.1 _ (xn1 (xne_k hk9999r hk9999e (by decide)) (xn1 (xne_k hk9999r hk9999f (by decide)) (xn1 (xne_k hk9999r hk9999g (by decide)) (xn1 (xne_j hj9999z27 hj9999i (by first | decide | omega)) (xn1 (xne_j hj9999z27 hj9999k (by first | decide | omega)) (xn1 (xne_j hj9999z27 hj9999m (by first | decide | omega)) (xn1 (xne_j hj9999z27 hj9999o (by first | decide | omega)) (xn1 (xne_k hk9999r hk9999l (by decide)) (xn1 (xne_k hk9999r hk9999m (by decide)) xn0))))))))))) ((hF18.2.1 _ (xn1 (xne_k hk9999s hk9999n (by decide)) xn0)).trans (hF14.2.1 _ (xn1 (xne_k hk9999s hk9999e (by decide)) (xn1 (xne_k hk9999s hk9999f (by decide)) (xn1 (xne_k hk9999s hk9999g (by decide)) (xn1 (xne_j hj9999z29 hj9999i (by first | decide | omega)) (xn1 (xne_j hj9999z29 hj9999k (by first | decide | omega)) (xn1 (xne_j hj9999z29 hj9999m (by first | decide | omega)) (xn1 (xne_j hj9999z29 hj9999o (by first | decide | omega)) (xn1 (xne_k hk9999s hk9999l (by decide)) (xn1 (xne_k hk9999s hk9999m (by decide)) xn0))))))))))) ((hF18.2.1 _ (xn1 (xne_k hk9999t hk9999n (by decide)) xn0)).trans (hF14.2.1 _ (xn1 (xne_k hk9999t hk9999e (by decide)) (xn1 (xne_k hk9999t hk9999f (by decide)) (xn1 (xne_k hk9999t hk9999g (by decide)) (xn1 (xne_k hk9999t hk9999h (by decide)) (xn1 (xne_k hk9999t hk9999i (by decide)) (xn1 (xne_k hk9999t hk9999j (by decide)) (xn1 (xne_k hk9999t hk9999k (by decide)) (xn1 (xne_j hj9999z31 hj9999q (by first | decide | omega)) (xn1 (xne_j hj9999z31 hj9999s (by first | decide | omega)) xn0))))))))))) ((hF18.2.1 _ (xn1 (xne_k hk9999u hk9999n (by decide)) xn0)).trans (hF14.2.1 _ (xn1 (xne_k hk9999u hk9999e (by decide)) (xn1 (xne_k hk9999u hk9999f (by decide)) (xn1 (xne_k hk9999u hk9999g (by decide)) (xn1 (xne_k hk9999u hk9999h (by decide)) (xn1 (xne_k hk9999u hk9999i (by decide)) (xn1 (xne_k hk9999u hk9999j (by decide)) (xn1 (xne_k hk9999u hk9999k (by decide)) (xn1 (xne_j hj9999z33 hj9999q (by first | decide | omega)) (xn1 (xne_j hj9999z33 hj9999s (by first | decide | omega)) xn0))))))))))) (hF18.2.1 _ (xn1 (xne_k hk9999e hk9999n (by decide)) xn0)) (hF18.2.1 _ (xn1 (xne_k hk9999f hk9999n (by decide)) xn0)) (hF18.2.1 _ (xn1 (xne_k hk9999g hk9999n (by decide)) xn0)) ((hF18.2.1 _ (xn1 (xne_k hk9999w hk9999n (by decide)) xn0)).trans (hF14.2.1 _ (xn1 (xne_k hk9999w hk9999e (by decide)) (xn1 (xne_k hk9999w hk9999f (by decide)) (xn1 (xne_k hk9999w hk9999g (by decide)) (xn1 (xne_k hk9999w hk9999h (by decide)) (xn1 (xne_k hk9999w hk9999i (by decide)) (xn1 (xne_k hk9999w hk9999j (by decide)) (xn1 (xne_k hk9999w hk9999k (by decide)) (xn1 (xne_k hk9999w hk9999l (by decide)) (xn1 (xne_k hk9999w hk9999m (by decide)) xn0))))))))))) ((hF18.2.1 _ (xn1 (xne_k hk9999y hk9999n (by decide)) xn0)).trans (hF14.2.1 _ (xn1 (xne_j hj9999z38 hj9999e (by first | decide | omega)) (xn1 (xne_j hj9999z38 hj9999f (by first | decide | omega)) (xn1 (xne_k hk9999y hk9999g (by decide)) (xn1 (xne_k hk9999y hk9999h (by decide)) (xn1 (xne_k hk9999y hk9999i (by decide)) (xn1 (xne_k hk9999y hk9999j (by decide)) (xn1 (xne_k hk9999y hk9999k (by decide)) (xn1 (xne_k hk9999y hk9999l (by decide)) (xn1 (xne_k hk9999y hk9999m (by decide)) xn0))))))))))) ((hF18.2.1 _ (xn1 (xne_k hk9999z25 hk9999n (by decide)) xn0)).trans (hF14.2.1 _ (xn1 (xne_k hk9999z25 hk9999e (by decide)) (xn1 (xne_k hk9999z25 hk9999f (by decide)) (xn1 (xne_k hk9999z25 hk9999g (by decide)) (xn1 (xne_j hj9999z40 hj9999i (by first | decide | omega)) (xn1 (xne_j hj9999z40 hj9999k (by first | decide | omega)) (xn1 (xne_j hj9999z40 hj9999m (by first | decide | omega)) (xn1 (xne_j hj9999z40 hj9999o (by first | decide | omega)) (xn1 (xne_k hk9999z25 hk9999l (by decide)) (xn1 (xne_k hk9999z25 hk9999m (by decide)) xn0))))))))))) ((hF18.2.1 _ (xn1 (xne_k hk9999z26 hk9999n (by decide)) xn0)).trans (hF14.2.1 _ (xn1 (xne_k hk9999z26 hk9999e (by decide)) (xn1 (xne_k hk9999z26 hk9999f (by decide)) (xn1 (xne_k hk9999z26 hk9999g (by decide)) (xn1 (xne_j hj9999z42 hj9999i (by first | decide | omega)) (xn1 (xne_j hj9999z42 hj9999k (by first | decide | omega)) (xn1 (xne_j hj9999z42 hj9999m (by first | decide | omega)) (xn1 (xne_j hj9999z42 hj9999o (by first | decide | omega)) (xn1 (xne_k hk9999z26 hk9999l (by decide)) (xn1 (xne_k hk9999z26 hk9999m (by decide)) xn0))))))))))) ((hF18.2.1 _ (xn1 (xne_k hk9999z27 hk9999n (by decide)) xn0)).trans (hF14.2.1 _ (xn1 (xne_k hk9999z27 hk9999e (by decide)) (xn1 (xne_k hk9999z27 hk9999f (by decide)) (xn1 (xne_k hk9999z27 hk9999g (by decide)) (xn1 (xne_j hj9999z44 hj9999i (by first | decide | omega)) (xn1 (xne_j hj9999z44 hj9999k (by first | decide | omega)) (xn1 (xne_j hj9999z44 hj9999m (by first | decide | omega)) (xn1 (xne_j hj9999z44 hj9999o (by first | decide | omega)) (xn1 (xne_k hk9999z27 hk9999l (by decide)) (xn1 (xne_k hk9999z27 hk9999m (by decide)) xn0))))))))))) ((hF18.2.1 _ (xn1 (xne_k hk9999z28 hk9999n (by decide)) xn0)).trans (hF14.2.1 _ (xn1 (xne_k hk9999z28 hk9999e (by decide)) (xn1 (xne_k hk9999z28 hk9999f (by decide)) (xn1 (xne_k hk9999z28 hk9999g (by decide)) (xn1 (xne_j hj9999z46 hj9999i (by first | decide | omega)) (xn1 (xne_j hj9999z46 hj9999k (by first | decide | omega)) (xn1 (xne_j hj9999z46 hj9999m (by first | decide | omega)) (xn1 (xne_j hj9999z46 hj9999o (by first | decide | omega)) (xn1 (xne_k hk9999z28 hk9999l (by decide)) (xn1 (xne_k hk9999z28 hk9999m (by decide)) xn0))))))))))) ((hF18.2.1 _ (xn1 (xne_k hk9999z29 hk9999n (by decide)) xn0)).trans (hF14.2.1 _ (xn1 (xne_k hk9999z29 hk9999e (by decide)) (xn1 (xne_k hk9999z29 hk9999f (by decide)) (xn1 (xne_k hk9999z29 hk9999g (by decide)) (xn1 (xne_k hk9999z29 hk9999h (by decide)) (xn1 (xne_k hk9999z29 hk9999i (by decide)) (xn1 (xne_k hk9999z29 hk9999j (by decide)) (xn1 (xne_k hk9999z29 hk9999k (by decide)) (xn1 (xne_j hj9999z48 hj9999q (by first | decide | omega)) (xn1 (xne_j hj9999z48 hj9999s (by first | decide | omega)) xn0))))))))))) ((hF18.2.1 _ (xn1 (xne_k hk9999z30 hk9999n (by decide)) xn0)).trans (hF14.2.1 _ (xn1 (xne_k hk9999z30 hk9999e (by decide)) (xn1 (xne_k hk9999z30 hk9999f (by decide)) (xn1 (xne_k hk9999z30 hk9999g (by decide)) (xn1 (xne_k hk9999z30 hk9999h (by decide)) (xn1 (xne_k hk9999z30 hk9999i (by decide)) (xn1 (xne_k hk9999z30 hk9999j (by decide)) (xn1 (xne_k hk9999z30 hk9999k (by decide)) (xn1 (xne_j hj9999z50 hj9999q (by first | decide | omega)) (xn1 (xne_j hj9999z50 hj9999s (by first | decide | omega)) xn0))))))))))) (hF18.2.1 _ (xn1 (xne_k hk9999h hk9999n (by decide)) xn0)) (hF18.2.1 _ (xn1 (xne_k hk9999i hk9999n (by decide)) xn0)) (hF18.2.1 _ (xn1 (xne_k hk9999j hk9999n (by decide)) xn0)) (hF18.2.1 _ (xn1 (xne_k hk9999k hk9999n (by decide)) xn0)) (hF18.2.1 _ (xn1 (xne_k hk9999l hk9999n (by decide)) xn0)) (hF18.2.1 _ (xn1 (xne_k hk9999m hk9999n (by decide)) xn0)) ((hF18.2.1 _ (xn1 (xne_k hk9999o hk9999n (by decide)) xn0)).trans (hF14.2.1 _ (xn1 (xne_k hk9999o hk9999e (by decide)) (xn1 (xne_k hk9999o hk9999f (by decide)) (xn1 (xne_k hk9999o hk9999g (by decide)) (xn1 (xne_k hk9999o hk9999h (by decide)) (xn1 (xne_k hk9999o hk9999i (by decide)) (xn1 (xne_k hk9999o hk9999j (by decide)) (xn1 (xne_k hk9999o hk9999k (by decide)) (xn1 (xne_k hk9999o hk9999l (by decide)) (xn1 (xne_k hk9999o hk9999m (by decide)) xn0))))))))))) ((hF18.2.2 _ xn0).trans (hF14.2.2 _ xn0)) ((hF18.1 _ _ (xnj (by decide) (xnj (by decide) (xnj (by decide) xn0)))).trans (hF14.1 _ _ (xnj (by decide) (xna (xne_j hj9999c hj9999a (by first | decide | omega)) xn0)))) (hF18.1 _ _ (xnj (by decide) (xnj (by decide) (xna (xne_k hk9999 hk9999b (by decide)) xn0)))) ((hF18.1 _ _ (xnj (by decide) (xnj (by decide) (xnj (by decide) xn0)))).trans (hF14.1 _ _ (xnj (by decide) (xna (xne_j hj9999d hj9999a (by first | decide | omega)) xn0)))) (hF18.1 _ _ (xnj (by decide) (xnj (by decide) (xnj (by decide) xn0)))))) mv_X10_tally km_X10_251 rfl rfl ⟨Nat.le_of_ble_eq_true rfl, Nat.le_of_ble_eq_true rfl⟩ (rc_12 hK hT ha) hK (fun _ => XP.blind) (fun U hU hW => XP.at hK hz hS hT hU hW) rfl hl.1 (Nat.le_of_ble_eq_true rfl) dX10_actAsOnPaper_73 ⟨Nat.le_of_ble_eq_true rfl, Nat.le_of_ble_eq_true rfl⟩) hS ?_
      rintro G73 H locs hF73 hT hS
      refine lv_aload_n hx hb dX10_actAsOnPaper_76 rfl (lv_at hl 0 rfl) ?_
      refine gX10_15 S hK hT ha kf_X10_95 dX10_actAsOnPaper_77 (fun _ _ => ?_)
      refine lv_iconst (v := 4) hx hb dX10_actAsOnPaper_80 (by decide) ?_
      refine lv_dup2_11 hx hb dX10_actAsOnPaper_81 rfl rfl ?_
      refine al_0 S hK hT hk9999o ar_26 (by decide) (by decide) dX10_actAsOnPaper_82 (fun x82 hv82 o82 => ?_)
      have hv82 : x82.toInt = (aI (G73.2.1 (F a 15)) 4) := hv82.trans (by rw [((by decide) : Int32.toInt 4 = (4 : Int))])
      refine lv_iconst (v := 1) hx hb dX10_actAsOnPaper_83 (by decide) ?_
      refine xi_iadd hx hb (hv82 : Int32.toInt x82 = (aI (G73.2.1 (F a 15)) 4)) ((by decide) : Int32.toInt 1 = (1 : Int)) dX10_actAsOnPaper_84 (fun x84 t84 => ?_)
      refine as_0 (x := x84) S hK hT hS hk9999o ar_26 aw_26 (by decide) (by decide) dX10_actAsOnPaper_85 (fun H locs hT hS => ?_)
      obtain ⟨G85, hG85⟩ : ∃ GG : XG, GG = cput G73 (F a 15) (4 : Int32).toNatClampNeg x84 := ⟨_, rfl⟩
      rw [← hG85] at hT
      refine lv_aload_n hx hb dX10_actAsOnPaper_86 rfl (lv_at hl 0 rfl) ?_
      refine gX10_3 S hK hT ha kf_X10_37 dX10_actAsOnPaper_87 (fun _ _ => ?_)
      refine lv_aload_n hx hb dX10_actAsOnPaper_90 rfl (lv_at hl 0 rfl) ?_
      refine gX10_5 S hK hT ha kf_X10_44 dX10_actAsOnPaper_91 (fun _ _ => ?_)
      refine x_cv0 (x_runV (b := (F a 3)) (As := [.ref (F a 5)]) (rest := []) S (c_X6_copy l E K F G85 (F a 3) (F a 5) hk9999v hk9999z37 (v_X10_actAsOnPaper_94_8 (F := F) a G G85 ron rop rob ((lc_c hG85 (xne_k hk9999z38 hk9999o (by decide))).trans ((hF73.2.1 _ (xn1 (xne_k hk9999z38 hk9999o (by decide)) xn0)).trans ((hF18.2.1 _ (xn1 (xne_k hk9999z38 hk9999n (by decide)) xn0)).trans (hF14.2.1 _ (xn1 (xne_k hk9999z38 hk9999e (by decide)) (xn1 (xne_k hk9999z38 hk9999f (by decide)) (xn1 (xne_k hk9999z38 hk9999g (by decide)) (xn1 (xne_k hk9999z38 hk9999h (by decide)) (xn1 (xne_k hk9999z38 hk9999i (by decide)) (xn1 (xne_k hk9999z38 hk9999j (by decide)) (xn1 (xne_k hk9999z38 hk9999k (by decide)) (xn1 (xne_k hk9999z38 hk9999l (by decide)) (xn1 (xne_k hk9999z38 hk9999m (by decide)) xn0))))))))))))) ((lc_c hG85 (xne_k hk9999z39 hk9999o (by decide))).trans ((hF73.2.1 _ (xn1 (xne_k hk9999z39 hk9999o (by decide)) xn0)).trans ((hF18.2.1 _ (xn1 (xne_k hk9999z39 hk9999n (by decide)) xn0)).trans (hF14.2.1 _ (xn1 (xne_j hj9999z63 hj9999e (by first | decide | omega)) (xn1 (xne_j hj9999z63 hj9999f (by first | decide | omega)) (xn1 (xne_k hk9999z39 hk9999g (by decide)) (xn1 (xne_k hk9999z39 hk9999h (by decide)) (xn1 (xne_k hk9999z39 hk9999i (by decide)) (xn1 (xne_k hk9999z39 hk9999j (by decide)) (xn1 (xne_k hk9999z39 hk9999k (by decide)) (xn1 (xne_k hk9999z39 hk9999l (by decide)) (xn1 (xne_k hk9999z39 hk9999m (by decide)) xn0))))))))))))))) mv_X6_copy km_X10_195 rfl rfl ⟨Nat.le_of_ble_eq_true rfl, Nat.le_of_ble_eq_true rfl⟩ (rc_8 hK hT hk9999v) hK (fun _ => XP.blind) (fun U hU hW => XP.at hK hz hS hT hU hW) rfl hl.1 (Nat.le_of_ble_eq_true rfl) dX10_actAsOnPaper_94 ⟨Nat.le_of_ble_eq_true rfl, Nat.le_of_ble_eq_true rfl⟩) hS ?_
      rintro G94 H locs ⟨hF94, oq94, oq94a⟩ hT hS
      have oq94 : (vw (G94.2.1 (F (F a 3) 0))) = (vw (G.2.1 (F (F a 5) 0))) := by simp only [(show G85.2.1 (F (F a 5) 0) = G.2.1 (F (F a 5) 0) from ((lc_c hG85 (xne_k hk9999z38 hk9999o (by decide))).trans ((hF73.2.1 _ (xn1 (xne_k hk9999z38 hk9999o (by decide)) xn0)).trans ((hF18.2.1 _ (xn1 (xne_k hk9999z38 hk9999n (by decide)) xn0)).trans (hF14.2.1 _ (xn1 (xne_k hk9999z38 hk9999e (by decide)) (xn1 (xne_k hk9999z38 hk9999f (by decide)) (xn1 (xne_k hk9999z38 hk9999g (by decide)) (xn1 (xne_k hk9999z38 hk9999h (by decide)) (xn1 (xne_k hk9999z38 hk9999i (by decide)) (xn1 (xne_k hk9999z38 hk9999j (by decide)) (xn1 (xne_k hk9999z38 hk9999k (by decide)) (xn1 (xne_k hk9999z38 hk9999l (by decide)) (xn1 (xne_k hk9999z38 hk9999m (by decide)) xn0))))))))))))))] at oq94; exact oq94
      refine lv_aload_n hx hb dX10_actAsOnPaper_97 rfl (lv_at hl 0 rfl) ?_
      refine lv_aload_n hx hb dX10_actAsOnPaper_98 rfl (lv_at hl 0 rfl) ?_
      refine gX10_8 S hK hT ha kf_X10_57 dX10_actAsOnPaper_99 (fun _ _ => ?_)
      refine lv_aload_n hx hb dX10_actAsOnPaper_102 rfl (lv_at hl 0 rfl) ?_
      refine gX10_4 S hK hT ha kf_X10_41 dX10_actAsOnPaper_103 (fun _ _ => ?_)
      refine lv_aload_n hx hb dX10_actAsOnPaper_106 rfl (lv_at hl 0 rfl) ?_
      refine gX10_3 S hK hT ha kf_X10_37 dX10_actAsOnPaper_107 (fun _ _ => ?_)
      refine lv_iconst (v := 1) hx hb dX10_actAsOnPaper_110 (by decide) ?_
      refine x_cv0 (x_runV (b := a) (As := [.ref (F a 8), .ref (F a 4), .ref (F a 3), .int 1]) (rest := []) S (c_X10_gather l E K F G94 a (F a 8) (F a 4) (F a 3) 1 ha hk9999d hk9999z34 hk9999v (by rw [(show (G94.1 (F a 2) 2).toInt = ((G.1 (F a 2) 2).toInt) from (congrArg Int32.toInt ((hF94.1 _ _ xn0).trans ((lc_d hG85).trans ((hF73.1 _ _ xn0).trans ((hF18.1 _ _ (xnj (by decide) (xna (xne_k hk9999z31 hk9999b (by decide)) (xnj (by decide) xn0)))).trans (hF14.1 _ _ (xnj (by decide) (xnj (by decide) xn0)))))))).trans (rfl : Int32.toInt (G.1 (F a 2) 2) = ((G.1 (F a 2) 2).toInt)))] <;> exact (sb)) (v_X10_actAsOnPaper_111_9 (F := F) a G G94 ron rop rob oq94a ((hF94.2.1 _ (xn1 (xne_j hj9999z56 hj9999z36 (by first | decide | omega)) (xn1 (xne_k hk9999z35 hk9999y (by decide)) xn0))).trans ((lc_c hG85 (xne_k hk9999z35 hk9999o (by decide))).trans ((hF73.2.1 _ (xn1 (xne_k hk9999z35 hk9999o (by decide)) xn0)).trans ((hF18.2.1 _ (xn1 (xne_k hk9999z35 hk9999n (by decide)) xn0)).trans (hF14.2.1 _ (xn1 (xne_k hk9999z35 hk9999e (by decide)) (xn1 (xne_k hk9999z35 hk9999f (by decide)) (xn1 (xne_k hk9999z35 hk9999g (by decide)) (xn1 (xne_k hk9999z35 hk9999h (by decide)) (xn1 (xne_k hk9999z35 hk9999i (by decide)) (xn1 (xne_k hk9999z35 hk9999j (by decide)) (xn1 (xne_k hk9999z35 hk9999k (by decide)) (xn1 (xne_k hk9999z35 hk9999l (by decide)) (xn1 (xne_k hk9999z35 hk9999m (by decide)) xn0)))))))))))))) ((hF94.2.1 _ (xn1 (xne_k hk9999z36 hk9999w (by decide)) (xn1 (xne_j hj9999z58 hj9999z38 (by first | decide | omega)) xn0))).trans ((lc_c hG85 (xne_k hk9999z36 hk9999o (by decide))).trans ((hF73.2.1 _ (xn1 (xne_k hk9999z36 hk9999o (by decide)) xn0)).trans ((hF18.2.1 _ (xn1 (xne_k hk9999z36 hk9999n (by decide)) xn0)).trans (hF14.2.1 _ (xn1 (xne_j hj9999z58 hj9999e (by first | decide | omega)) (xn1 (xne_j hj9999z58 hj9999f (by first | decide | omega)) (xn1 (xne_k hk9999z36 hk9999g (by decide)) (xn1 (xne_k hk9999z36 hk9999h (by decide)) (xn1 (xne_k hk9999z36 hk9999i (by decide)) (xn1 (xne_k hk9999z36 hk9999j (by decide)) (xn1 (xne_k hk9999z36 hk9999k (by decide)) (xn1 (xne_k hk9999z36 hk9999l (by decide)) (xn1 (xne_k hk9999z36 hk9999m (by decide)) xn0))))))))))))))) (v_X10_actAsOnPaper_111_10 (F := F) a G94 oq94a) (v_X10_actAsOnPaper_111_11 (K := K) (F := F) a G G94 G14 G18 G73 G85 x84 x18 x82 ha hk9999 hj9999 hk9999a hj9999a hk9999b hj9999b hk9999c hj9999c hk9999d hj9999d hk9999e hj9999e hk9999f hj9999f hk9999g hj9999g hk9999h hj9999i hk9999i hj9999k hk9999j hj9999m hk9999k hj9999o hk9999l hj9999q hk9999m hj9999s hk9999n hj9999t hk9999o hj9999u hk9999p hj9999w hk9999q hj9999z25 hk9999r hj9999z27 hk9999s hj9999z29 hk9999t hj9999z31 hk9999u hj9999z33 hk9999v hj9999z34 hk9999w hj9999z36 hk9999y hj9999z38 hk9999z25 hj9999z40 hk9999z26 hj9999z42 hk9999z27 hj9999z44 hk9999z28 hj9999z46 hk9999z29 hj9999z48 hk9999z30 hj9999z50 hk9999z31 hj9999z51 hk9999z32 hj9999z52 hk9999z33 hj9999z53 hk9999z34 hj9999z54 hk9999z35 hj9999z56 hk9999z36 hj9999z58 hk9999z37 hj9999z59 hk9999z38 hj9999z61 hk9999z39 hj9999z63 (XFr.call (by rw [hG85]; exact XFr.cput (XFr.call (XFr.call (XFr.call XFr.rf hF14 (xm1 0 rfl (xm1 1 rfl xm0)) (xm1 0 rfl (xm1 1 rfl (xm1 2 rfl (xm1 3 rfl (xm1 4 rfl (xm1 5 rfl (xm1 6 rfl (xm1 7 rfl (xm1 8 rfl xm0))))))))) xm0) hF18 (xm1 2 rfl (xm1 3 rfl (xm1 4 rfl xm0))) (xm1 9 rfl xm0) xm0) hF73 xm0 (xm1 10 rfl xm0) xm0) (List.mem_of_getElem? (i := 10) rfl)) hF94 xm0 (xm1 17 rfl (xm1 18 rfl xm0)) xm0) hF14 hF18 hF73 hG85 hF94 ron rop rob bko bkn oq14 oq18 hv82 oq94 oq94a sb sw t14 c21 (xzi hz32) c35 t84 (hF18.2.1 _ (xn1 (xne_k hk9999h hk9999n (by decide)) xn0)) (hF18.2.1 _ (xn1 (xne_k hk9999i hk9999n (by decide)) xn0)) (hF18.2.1 _ (xn1 (xne_k hk9999j hk9999n (by decide)) xn0)) (hF18.2.1 _ (xn1 (xne_k hk9999k hk9999n (by decide)) xn0)) (hF18.2.1 _ (xn1 (xne_k hk9999l hk9999n (by decide)) xn0)) (hF18.2.1 _ (xn1 (xne_k hk9999m hk9999n (by decide)) xn0)) ((hF94.2.1 _ (xn1 (xne_k hk9999p hk9999w (by decide)) (xn1 (xne_k hk9999p hk9999y (by decide)) xn0))).trans ((lc_c hG85 (xne_k hk9999p hk9999o (by decide))).trans ((hF73.2.1 _ (xn1 (xne_k hk9999p hk9999o (by decide)) xn0)).trans ((hF18.2.1 _ (xn1 (xne_k hk9999p hk9999n (by decide)) xn0)).trans (hF14.2.1 _ (xn1 (xne_k hk9999p hk9999e (by decide)) (xn1 (xne_k hk9999p hk9999f (by decide)) (xn1 (xne_k hk9999p hk9999g (by decide)) (xn1 (xne_j hj9999w hj9999i (by first | decide | omega)) (xn1 (xne_j hj9999w hj9999k (by first | decide | omega)) (xn1 (xne_j hj9999w hj9999m (by first | decide | omega)) (xn1 (xne_j hj9999w hj9999o (by first | decide | omega)) (xn1 (xne_k hk9999p hk9999l (by decide)) (xn1 (xne_k hk9999p hk9999m (by decide)) xn0)))))))))))))) ((hF94.2.1 _ (xn1 (xne_k hk9999q hk9999w (by decide)) (xn1 (xne_k hk9999q hk9999y (by decide)) xn0))).trans ((lc_c hG85 (xne_k hk9999q hk9999o (by decide))).trans ((hF73.2.1 _ (xn1 (xne_k hk9999q hk9999o (by decide)) xn0)).trans ((hF18.2.1 _ (xn1 (xne_k hk9999q hk9999n (by decide)) xn0)).trans (hF14.2.1 _ (xn1 (xne_k hk9999q hk9999e (by decide)) (xn1 (xne_k hk9999q hk9999f (by decide)) (xn1 (xne_k hk9999q hk9999g (by decide)) (xn1 (xne_j hj9999z25 hj9999i (by first | decide | omega)) (xn1 (xne_j hj9999z25 hj9999k (by first | decide | omega)) (xn1 (xne_j hj9999z25 hj9999m (by first | decide | omega)) (xn1 (xne_j hj9999z25 hj9999o (by first | decide | omega)) (xn1 (xne_k hk9999q hk9999l (by decide)) (xn1 (xne_k hk9999q hk9999m (by decide)) xn0)))))))))))))) ((hF94.2.1 _ (xn1 (xne_k hk9999r hk9999w (by decide)) (xn1 (xne_k hk9999r hk9999y (by decide)) xn0))).trans ((lc_c hG85 (xne_k hk9999r hk9999o (by decide))).trans ((hF73.2.1 _ (xn1 (xne_k hk9999r hk9999o (by decide)) xn0)).trans ((hF18.2.1 _ (xn1 (xne_k hk9999r hk9999n (by decide)) xn0)).trans (hF14.2.1 _ (xn1 (xne_k hk9999r hk9999e (by decide)) (xn1 (xne_k hk9999r hk9999f (by decide)) (xn1 (xne_k hk9999r hk9999g (by decide)) (xn1 (xne_j hj9999z27 hj9999i (by first | decide | omega)) (xn1 (xne_j hj9999z27 hj9999k (by first | decide | omega)) (xn1 (xne_j hj9999z27 hj9999m (by first | decide | omega)) (xn1 (xne_j hj9999z27 hj9999o (by first | decide | omega)) (xn1 (xne_k hk9999r hk9999l (by decide)) (xn1 (xne_k hk9999r hk9999m (by decide)) xn0)))))))))))))) ((hF94.2.1 _ (xn1 (xne_k hk9999s hk9999w (by decide)) (xn1 (xne_k hk9999s hk9999y (by decide)) xn0))).trans ((lc_c hG85 (xne_k hk9999s hk9999o (by decide))).trans ((hF73.2.1 _ (xn1 (xne_k hk9999s hk9999o (by decide)) xn0)).trans ((hF18.2.1 _ (xn1 (xne_k hk9999s hk9999n (by decide)) xn0)).trans (hF14.2.1 _ (xn1 (xne_k hk9999s hk9999e (by decide)) (xn1 (xne_k hk9999s hk9999f (by decide)) (xn1 (xne_k hk9999s hk9999g (by decide)) (xn1 (xne_j hj9999z29 hj9999i (by first | decide | omega)) (xn1 (xne_j hj9999z29 hj9999k (by first | decide | omega)) (xn1 (xne_j hj9999z29 hj9999m (by first | decide | omega)) (xn1 (xne_j hj9999z29 hj9999o (by first | decide | omega)) (xn1 (xne_k hk9999s hk9999l (by decide)) (xn1 (xne_k hk9999s hk9999m (by decide)) xn0)))))))))))))) ((hF94.2.1 _ (xn1 (xne_k hk9999t hk9999w (by decide)) (xn1 (xne_k hk9999t hk9999y (by decide)) xn0))).trans ((lc_c hG85 (xne_k hk9999t hk9999o (by decide))).trans ((hF73.2.1 _ (xn1 (xne_k hk9999t hk9999o (by decide)) xn0)).trans ((hF18.2.1 _ (xn1 (xne_k hk9999t hk9999n (by decide)) xn0)).trans (hF14.2.1 _ (xn1 (xne_k hk9999t hk9999e (by decide)) (xn1 (xne_k hk9999t hk9999f (by decide)) (xn1 (xne_k hk9999t hk9999g (by decide)) (xn1 (xne_k hk9999t hk9999h (by decide)) (xn1 (xne_k hk9999t hk9999i (by decide)) (xn1 (xne_k hk9999t hk9999j (by decide)) (xn1 (xne_k hk9999t hk9999k (by decide)) (xn1 (xne_j hj9999z31 hj9999q (by first | decide | omega)) (xn1 (xne_j hj9999z31 hj9999s (by first | decide | omega)) xn0)))))))))))))) ((hF94.2.1 _ (xn1 (xne_k hk9999u hk9999w (by decide)) (xn1 (xne_k hk9999u hk9999y (by decide)) xn0))).trans ((lc_c hG85 (xne_k hk9999u hk9999o (by decide))).trans ((hF73.2.1 _ (xn1 (xne_k hk9999u hk9999o (by decide)) xn0)).trans ((hF18.2.1 _ (xn1 (xne_k hk9999u hk9999n (by decide)) xn0)).trans (hF14.2.1 _ (xn1 (xne_k hk9999u hk9999e (by decide)) (xn1 (xne_k hk9999u hk9999f (by decide)) (xn1 (xne_k hk9999u hk9999g (by decide)) (xn1 (xne_k hk9999u hk9999h (by decide)) (xn1 (xne_k hk9999u hk9999i (by decide)) (xn1 (xne_k hk9999u hk9999j (by decide)) (xn1 (xne_k hk9999u hk9999k (by decide)) (xn1 (xne_j hj9999z33 hj9999q (by first | decide | omega)) (xn1 (xne_j hj9999z33 hj9999s (by first | decide | omega)) xn0)))))))))))))) ((hF94.2.1 _ (xn1 (xne_k hk9999e hk9999w (by decide)) (xn1 (xne_j hj9999e hj9999z38 (by first | decide | omega)) xn0))).trans ((lc_c hG85 (xne_k hk9999e hk9999o (by decide))).trans ((hF73.2.1 _ (xn1 (xne_k hk9999e hk9999o (by decide)) xn0)).trans (hF18.2.1 _ (xn1 (xne_k hk9999e hk9999n (by decide)) xn0))))) ((hF94.2.1 _ (xn1 (xne_k hk9999f hk9999w (by decide)) (xn1 (xne_j hj9999f hj9999z38 (by first | decide | omega)) xn0))).trans ((lc_c hG85 (xne_k hk9999f hk9999o (by decide))).trans ((hF73.2.1 _ (xn1 (xne_k hk9999f hk9999o (by decide)) xn0)).trans (hF18.2.1 _ (xn1 (xne_k hk9999f hk9999n (by decide)) xn0))))) ((hF94.2.1 _ (xn1 (xne_k hk9999g hk9999w (by decide)) (xn1 (xne_k hk9999g hk9999y (by decide)) xn0))).trans ((lc_c hG85 (xne_k hk9999g hk9999o (by decide))).trans ((hF73.2.1 _ (xn1 (xne_k hk9999g hk9999o (by decide)) xn0)).trans (hF18.2.1 _ (xn1 (xne_k hk9999g hk9999n (by decide)) xn0))))) ((hF94.2.1 _ (xn1 (xne_k hk9999z25 hk9999w (by decide)) (xn1 (xne_k hk9999z25 hk9999y (by decide)) xn0))).trans ((lc_c hG85 (xne_k hk9999z25 hk9999o (by decide))).trans ((hF73.2.1 _ (xn1 (xne_k hk9999z25 hk9999o (by decide)) xn0)).trans ((hF18.2.1 _ (xn1 (xne_k hk9999z25 hk9999n (by decide)) xn0)).trans (hF14.2.1 _ (xn1 (xne_k hk9999z25 hk9999e (by decide)) (xn1 (xne_k hk9999z25 hk9999f (by decide)) (xn1 (xne_k hk9999z25 hk9999g (by decide)) (xn1 (xne_j hj9999z40 hj9999i (by first | decide | omega)) (xn1 (xne_j hj9999z40 hj9999k (by first | decide | omega)) (xn1 (xne_j hj9999z40 hj9999m (by first | decide | omega)) (xn1 (xne_j hj9999z40 hj9999o (by first | decide | omega)) (xn1 (xne_k hk9999z25 hk9999l (by decide)) (xn1 (xne_k hk9999z25 hk9999m (by decide)) xn0)))))))))))))) ((hF94.2.1 _ (xn1 (xne_k hk9999z26 hk9999w (by decide)) (xn1 (xne_k hk9999z26 hk9999y (by decide)) xn0))).trans ((lc_c hG85 (xne_k hk9999z26 hk9999o (by decide))).trans ((hF73.2.1 _ (xn1 (xne_k hk9999z26 hk9999o (by decide)) xn0)).trans ((hF18.2.1 _ (xn1 (xne_k hk9999z26 hk9999n (by decide)) xn0)).trans (hF14.2.1 _ (xn1 (xne_k hk9999z26 hk9999e (by decide)) (xn1 (xne_k hk9999z26 hk9999f (by decide)) (xn1 (xne_k hk9999z26 hk9999g (by decide)) (xn1 (xne_j hj9999z42 hj9999i (by first | decide | omega)) (xn1 (xne_j hj9999z42 hj9999k (by first | decide | omega)) (xn1 (xne_j hj9999z42 hj9999m (by first | decide | omega)) (xn1 (xne_j hj9999z42 hj9999o (by first | decide | omega)) (xn1 (xne_k hk9999z26 hk9999l (by decide)) (xn1 (xne_k hk9999z26 hk9999m (by decide)) xn0)))))))))))))) ((hF94.2.1 _ (xn1 (xne_k hk9999z27 hk9999w (by decide)) (xn1 (xne_k hk9999z27 hk9999y (by decide)) xn0))).trans ((lc_c hG85 (xne_k hk9999z27 hk9999o (by decide))).trans ((hF73.2.1 _ (xn1 (xne_k hk9999z27 hk9999o (by decide)) xn0)).trans ((hF18.2.1 _ (xn1 (xne_k hk9999z27 hk9999n (by decide)) xn0)).trans (hF14.2.1 _ (xn1 (xne_k hk9999z27 hk9999e (by decide)) (xn1 (xne_k hk9999z27 hk9999f (by decide)) (xn1 (xne_k hk9999z27 hk9999g (by decide)) (xn1 (xne_j hj9999z44 hj9999i (by first | decide | omega)) (xn1 (xne_j hj9999z44 hj9999k (by first | decide | omega)) (xn1 (xne_j hj9999z44 hj9999m (by first | decide | omega)) (xn1 (xne_j hj9999z44 hj9999o (by first | decide | omega)) (xn1 (xne_k hk9999z27 hk9999l (by decide)) (xn1 (xne_k hk9999z27 hk9999m (by decide)) xn0)))))))))))))) ((hF94.2.1 _ (xn1 (xne_k hk9999z28 hk9999w (by decide)) (xn1 (xne_k hk9999z28 hk9999y (by decide)) xn0))).trans ((lc_c hG85 (xne_k hk9999z28 hk9999o (by decide))).trans ((hF73.2.1 _ (xn1 (xne_k hk9999z28 hk9999o (by decide)) xn0)).trans ((hF18.2.1 _ (xn1 (xne_k hk9999z28 hk9999n (by decide)) xn0)).trans (hF14.2.1 _ (xn1 (xne_k hk9999z28 hk9999e (by decide)) (xn1 (xne_k hk9999z28 hk9999f (by decide)) (xn1 (xne_k hk9999z28 hk9999g (by decide)) (xn1 (xne_j hj9999z46 hj9999i (by first | decide | omega)) (xn1 (xne_j hj9999z46 hj9999k (by first | decide | omega)) (xn1 (xne_j hj9999z46 hj9999m (by first | decide | omega)) (xn1 (xne_j hj9999z46 hj9999o (by first | decide | omega)) (xn1 (xne_k hk9999z28 hk9999l (by decide)) (xn1 (xne_k hk9999z28 hk9999m (by decide)) xn0)))))))))))))) ((hF94.2.1 _ (xn1 (xne_k hk9999z29 hk9999w (by decide)) (xn1 (xne_k hk9999z29 hk9999y (by decide)) xn0))).trans ((lc_c hG85 (xne_k hk9999z29 hk9999o (by decide))).trans ((hF73.2.1 _ (xn1 (xne_k hk9999z29 hk9999o (by decide)) xn0)).trans ((hF18.2.1 _ (xn1 (xne_k hk9999z29 hk9999n (by decide)) xn0)).trans (hF14.2.1 _ (xn1 (xne_k hk9999z29 hk9999e (by decide)) (xn1 (xne_k hk9999z29 hk9999f (by decide)) (xn1 (xne_k hk9999z29 hk9999g (by decide)) (xn1 (xne_k hk9999z29 hk9999h (by decide)) (xn1 (xne_k hk9999z29 hk9999i (by decide)) (xn1 (xne_k hk9999z29 hk9999j (by decide)) (xn1 (xne_k hk9999z29 hk9999k (by decide)) (xn1 (xne_j hj9999z48 hj9999q (by first | decide | omega)) (xn1 (xne_j hj9999z48 hj9999s (by first | decide | omega)) xn0)))))))))))))) ((hF94.2.1 _ (xn1 (xne_k hk9999z30 hk9999w (by decide)) (xn1 (xne_k hk9999z30 hk9999y (by decide)) xn0))).trans ((lc_c hG85 (xne_k hk9999z30 hk9999o (by decide))).trans ((hF73.2.1 _ (xn1 (xne_k hk9999z30 hk9999o (by decide)) xn0)).trans ((hF18.2.1 _ (xn1 (xne_k hk9999z30 hk9999n (by decide)) xn0)).trans (hF14.2.1 _ (xn1 (xne_k hk9999z30 hk9999e (by decide)) (xn1 (xne_k hk9999z30 hk9999f (by decide)) (xn1 (xne_k hk9999z30 hk9999g (by decide)) (xn1 (xne_k hk9999z30 hk9999h (by decide)) (xn1 (xne_k hk9999z30 hk9999i (by decide)) (xn1 (xne_k hk9999z30 hk9999j (by decide)) (xn1 (xne_k hk9999z30 hk9999k (by decide)) (xn1 (xne_j hj9999z50 hj9999q (by first | decide | omega)) (xn1 (xne_j hj9999z50 hj9999s (by first | decide | omega)) xn0)))))))))))))) ((hF94.2.1 _ (xn1 (xne_k hk9999h hk9999w (by decide)) (xn1 (xne_k hk9999h hk9999y (by decide)) xn0))).trans ((lc_c hG85 (xne_k hk9999h hk9999o (by decide))).trans ((hF73.2.1 _ (xn1 (xne_k hk9999h hk9999o (by decide)) xn0)).trans (hF18.2.1 _ (xn1 (xne_k hk9999h hk9999n (by decide)) xn0))))) ((hF94.2.1 _ (xn1 (xne_k hk9999i hk9999w (by decide)) (xn1 (xne_k hk9999i hk9999y (by decide)) xn0))).trans ((lc_c hG85 (xne_k hk9999i hk9999o (by decide))).trans ((hF73.2.1 _ (xn1 (xne_k hk9999i hk9999o (by decide)) xn0)).trans (hF18.2.1 _ (xn1 (xne_k hk9999i hk9999n (by decide)) xn0))))) ((hF94.2.1 _ (xn1 (xne_k hk9999j hk9999w (by decide)) (xn1 (xne_k hk9999j hk9999y (by decide)) xn0))).trans ((lc_c hG85 (xne_k hk9999j hk9999o (by decide))).trans ((hF73.2.1 _ (xn1 (xne_k hk9999j hk9999o (by decide)) xn0)).trans (hF18.2.1 _ (xn1 (xne_k hk9999j hk9999n (by decide)) xn0))))) ((hF94.2.1 _ (xn1 (xne_k hk9999k hk9999w (by decide)) (xn1 (xne_k hk9999k hk9999y (by decide)) xn0))).trans ((lc_c hG85 (xne_k hk9999k hk9999o (by decide))).trans ((hF73.2.1 _ (xn1 (xne_k hk9999k hk9999o (by decide)) xn0)).trans (hF18.2.1 _ (xn1 (xne_k hk9999k hk9999n (by decide)) xn0))))) ((hF94.2.1 _ (xn1 (xne_k hk9999l hk9999w (by decide)) (xn1 (xne_k hk9999l hk9999y (by decide)) xn0))).trans ((lc_c hG85 (xne_k hk9999l hk9999o (by decide))).trans ((hF73.2.1 _ (xn1 (xne_k hk9999l hk9999o (by decide)) xn0)).trans (hF18.2.1 _ (xn1 (xne_k hk9999l hk9999n (by decide)) xn0))))) ((hF94.2.1 _ (xn1 (xne_k hk9999m hk9999w (by decide)) (xn1 (xne_k hk9999m hk9999y (by decide)) xn0))).trans ((lc_c hG85 (xne_k hk9999m hk9999o (by decide))).trans ((hF73.2.1 _ (xn1 (xne_k hk9999m hk9999o (by decide)) xn0)).trans (hF18.2.1 _ (xn1 (xne_k hk9999m hk9999n (by decide)) xn0))))) (hF94.2.1 _ (xn1 (xne_k hk9999o hk9999w (by decide)) (xn1 (xne_k hk9999o hk9999y (by decide)) xn0))) ((hF94.2.1 _ (xn1 (xne_k hk9999n hk9999w (by decide)) (xn1 (xne_k hk9999n hk9999y (by decide)) xn0))).trans ((lc_c hG85 (xne_k hk9999n hk9999o (by decide))).trans (hF73.2.1 _ (xn1 (xne_k hk9999n hk9999o (by decide)) xn0)))) ((hF94.2.2 _ xn0).trans ((lc_r hG85).trans ((hF73.2.2 _ xn0).trans ((hF18.2.2 _ xn0).trans (hF14.2.2 _ xn0))))) (hF18.1 _ _ (xnj (by decide) (xnj (by decide) (xnj (by decide) xn0)))) ((hF94.1 _ _ xn0).trans ((lc_d hG85).trans ((hF73.1 _ _ xn0).trans ((hF18.1 _ _ (xnj (by decide) (xnj (by decide) (xnj (by decide) xn0)))).trans (hF14.1 _ _ (xnj (by decide) (xna (xne_j hj9999c hj9999a (by first | decide | omega)) xn0))))))) ((hF94.1 _ _ xn0).trans ((lc_d hG85).trans ((hF73.1 _ _ xn0).trans (hF18.1 _ _ (xnj (by decide) (xnj (by decide) (xna (xne_k hk9999 hk9999b (by decide)) xn0))))))) ((hF94.1 _ _ xn0).trans ((lc_d hG85).trans (hF73.1 _ _ xn0))) ((hF94.1 _ _ xn0).trans ((lc_d hG85).trans (hF73.1 _ _ xn0))) ((hF94.1 _ _ xn0).trans ((lc_d hG85).trans (hF73.1 _ _ xn0))) ((hF94.1 _ _ xn0).trans ((lc_d hG85).trans ((hF73.1 _ _ xn0).trans ((hF18.1 _ _ (xnj (by decide) (xnj (by decide) (xnj (by decide) xn0)))).trans (hF14.1 _ _ (xnj (by decide) (xna (xne_j hj9999d hj9999a (by first | decide | omega)) xn0))))))) ((hF94.1 _ _ xn0).trans ((lc_d hG85).trans ((hF73.1 _ _ xn0).trans (hF18.1 _ _ (xnj (by decide) (xnj (by decide) (xnj (by decide) xn0)))))))) (v_X10_actAsOnPaper_111_12 (K := K) (F := F) a G G94 G14 G18 G73 G85 x84 x18 x82 ha hk9999 hj9999 hk9999a hj9999a hk9999b hj9999b hk9999c hj9999c hk9999d hj9999d hk9999e hj9999e hk9999f hj9999f hk9999g hj9999g hk9999h hj9999i hk9999i hj9999k hk9999j hj9999m hk9999k hj9999o hk9999l hj9999q hk9999m hj9999s hk9999n hj9999t hk9999o hj9999u hk9999p hj9999w hk9999q hj9999z25 hk9999r hj9999z27 hk9999s hj9999z29 hk9999t hj9999z31 hk9999u hj9999z33 hk9999v hj9999z34 hk9999w hj9999z36 hk9999y hj9999z38 hk9999z25 hj9999z40 hk9999z26 hj9999z42 hk9999z27 hj9999z44 hk9999z28 hj9999z46 hk9999z29 hj9999z48 hk9999z30 hj9999z50 hk9999z31 hj9999z51 hk9999z32 hj9999z52 hk9999z33 hj9999z53 hk9999z34 hj9999z54 hk9999z35 hj9999z56 hk9999z36 hj9999z58 hk9999z37 hj9999z59 hk9999z38 hj9999z61 hk9999z39 hj9999z63 (XFr.call (by rw [hG85]; exact XFr.cput (XFr.call (XFr.call (XFr.call XFr.rf hF14 (xm1 0 rfl (xm1 1 rfl xm0)) (xm1 0 rfl (xm1 1 rfl (xm1 2 rfl (xm1 3 rfl (xm1 4 rfl (xm1 5 rfl (xm1 6 rfl (xm1 7 rfl (xm1 8 rfl xm0))))))))) xm0) hF18 (xm1 2 rfl (xm1 3 rfl (xm1 4 rfl xm0))) (xm1 9 rfl xm0) xm0) hF73 xm0 (xm1 10 rfl xm0) xm0) (List.mem_of_getElem? (i := 10) rfl)) hF94 xm0 (xm1 17 rfl (xm1 18 rfl xm0)) xm0) hF14 hF18 hF73 hG85 hF94 ron rop rob bko bkn oq14 oq18 hv82 oq94 oq94a sb sw t14 c21 (xzi hz32) c35 t84 (hF18.2.1 _ (xn1 (xne_k hk9999h hk9999n (by decide)) xn0)) (hF18.2.1 _ (xn1 (xne_k hk9999i hk9999n (by decide)) xn0)) (hF18.2.1 _ (xn1 (xne_k hk9999j hk9999n (by decide)) xn0)) (hF18.2.1 _ (xn1 (xne_k hk9999k hk9999n (by decide)) xn0)) (hF18.2.1 _ (xn1 (xne_k hk9999l hk9999n (by decide)) xn0)) (hF18.2.1 _ (xn1 (xne_k hk9999m hk9999n (by decide)) xn0)) ((hF94.2.1 _ (xn1 (xne_k hk9999p hk9999w (by decide)) (xn1 (xne_k hk9999p hk9999y (by decide)) xn0))).trans ((lc_c hG85 (xne_k hk9999p hk9999o (by decide))).trans ((hF73.2.1 _ (xn1 (xne_k hk9999p hk9999o (by decide)) xn0)).trans ((hF18.2.1 _ (xn1 (xne_k hk9999p hk9999n (by decide)) xn0)).trans (hF14.2.1 _ (xn1 (xne_k hk9999p hk9999e (by decide)) (xn1 (xne_k hk9999p hk9999f (by decide)) (xn1 (xne_k hk9999p hk9999g (by decide)) (xn1 (xne_j hj9999w hj9999i (by first | decide | omega)) (xn1 (xne_j hj9999w hj9999k (by first | decide | omega)) (xn1 (xne_j hj9999w hj9999m (by first | decide | omega)) (xn1 (xne_j hj9999w hj9999o (by first | decide | omega)) (xn1 (xne_k hk9999p hk9999l (by decide)) (xn1 (xne_k hk9999p hk9999m (by decide)) xn0)))))))))))))) ((hF94.2.1 _ (xn1 (xne_k hk9999q hk9999w (by decide)) (xn1 (xne_k hk9999q hk9999y (by decide)) xn0))).trans ((lc_c hG85 (xne_k hk9999q hk9999o (by decide))).trans ((hF73.2.1 _ (xn1 (xne_k hk9999q hk9999o (by decide)) xn0)).trans ((hF18.2.1 _ (xn1 (xne_k hk9999q hk9999n (by decide)) xn0)).trans (hF14.2.1 _ (xn1 (xne_k hk9999q hk9999e (by decide)) (xn1 (xne_k hk9999q hk9999f (by decide)) (xn1 (xne_k hk9999q hk9999g (by decide)) (xn1 (xne_j hj9999z25 hj9999i (by first | decide | omega)) (xn1 (xne_j hj9999z25 hj9999k (by first | decide | omega)) (xn1 (xne_j hj9999z25 hj9999m (by first | decide | omega)) (xn1 (xne_j hj9999z25 hj9999o (by first | decide | omega)) (xn1 (xne_k hk9999q hk9999l (by decide)) (xn1 (xne_k hk9999q hk9999m (by decide)) xn0)))))))))))))) ((hF94.2.1 _ (xn1 (xne_k hk9999r hk9999w (by decide)) (xn1 (xne_k hk9999r hk9999y (by decide)) xn0))).trans ((lc_c hG85 (xne_k hk9999r hk9999o (by decide))).trans ((hF73.2.1 _ (xn1 (xne_k hk9999r hk9999o (by decide)) xn0)).trans ((hF18.2.1 _ (xn1 (xne_k hk9999r hk9999n (by decide)) xn0)).trans (hF14.2.1 _ (xn1 (xne_k hk9999r hk9999e (by decide)) (xn1 (xne_k hk9999r hk9999f (by decide)) (xn1 (xne_k hk9999r hk9999g (by decide)) (xn1 (xne_j hj9999z27 hj9999i (by first | decide | omega)) (xn1 (xne_j hj9999z27 hj9999k (by first | decide | omega)) (xn1 (xne_j hj9999z27 hj9999m (by first | decide | omega)) (xn1 (xne_j hj9999z27 hj9999o (by first | decide | omega)) (xn1 (xne_k hk9999r hk9999l (by decide)) (xn1 (xne_k hk9999r hk9999m (by decide)) xn0)))))))))))))) ((hF94.2.1 _ (xn1 (xne_k hk9999s hk9999w (by decide)) (xn1 (xne_k hk9999s hk9999y (by decide)) xn0))).trans ((lc_c hG85 (xne_k hk9999s hk9999o (by decide))).trans ((hF73.2.1 _ (xn1 (xne_k hk9999s hk9999o (by decide)) xn0)).trans ((hF18.2.1 _ (xn1 (xne_k hk9999s hk9999n (by decide)) xn0)).trans (hF14.2.1 _ (xn1 (xne_k hk9999s hk9999e (by decide)) (xn1 (xne_k hk9999s hk9999f (by decide)) (xn1 (xne_k hk9999s hk9999g (by decide)) (xn1 (xne_j hj9999z29 hj9999i (by first | decide | omega)) (xn1 (xne_j hj9999z29 hj9999k (by first | decide | omega)) (xn1 (xne_j hj9999z29 hj9999m (by first | decide | omega)) (xn1 (xne_j hj9999z29 hj9999o (by first | decide | omega)) (xn1 (xne_k hk9999s hk9999l (by decide)) (xn1 (xne_k hk9999s hk9999m (by decide)) xn0)))))))))))))) ((hF94.2.1 _ (xn1 (xne_k hk9999t hk9999w (by decide)) (xn1 (xne_k hk9999t hk9999y (by decide)) xn0))).trans ((lc_c hG85 (xne_k hk9999t hk9999o (by decide))).trans ((hF73.2.1 _ (xn1 (xne_k hk9999t hk9999o (by decide)) xn0)).trans ((hF18.2.1 _ (xn1 (xne_k hk9999t hk9999n (by decide)) xn0)).trans (hF14.2.1 _ (xn1 (xne_k hk9999t hk9999e (by decide)) (xn1 (xne_k hk9999t hk9999f (by decide)) (xn1 (xne_k hk9999t hk9999g (by decide)) (xn1 (xne_k hk9999t hk9999h (by decide)) (xn1 (xne_k hk9999t hk9999i (by decide)) (xn1 (xne_k hk9999t hk9999j (by decide)) (xn1 (xne_k hk9999t hk9999k (by decide)) (xn1 (xne_j hj9999z31 hj9999q (by first | decide | omega)) (xn1 (xne_j hj9999z31 hj9999s (by first | decide | omega)) xn0)))))))))))))) ((hF94.2.1 _ (xn1 (xne_k hk9999u hk9999w (by decide)) (xn1 (xne_k hk9999u hk9999y (by decide)) xn0))).trans ((lc_c hG85 (xne_k hk9999u hk9999o (by decide))).trans ((hF73.2.1 _ (xn1 (xne_k hk9999u hk9999o (by decide)) xn0)).trans ((hF18.2.1 _ (xn1 (xne_k hk9999u hk9999n (by decide)) xn0)).trans (hF14.2.1 _ (xn1 (xne_k hk9999u hk9999e (by decide)) (xn1 (xne_k hk9999u hk9999f (by decide)) (xn1 (xne_k hk9999u hk9999g (by decide)) (xn1 (xne_k hk9999u hk9999h (by decide)) (xn1 (xne_k hk9999u hk9999i (by decide)) (xn1 (xne_k hk9999u hk9999j (by decide)) (xn1 (xne_k hk9999u hk9999k (by decide)) (xn1 (xne_j hj9999z33 hj9999q (by first | decide | omega)) (xn1 (xne_j hj9999z33 hj9999s (by first | decide | omega)) xn0)))))))))))))) ((hF94.2.1 _ (xn1 (xne_k hk9999e hk9999w (by decide)) (xn1 (xne_j hj9999e hj9999z38 (by first | decide | omega)) xn0))).trans ((lc_c hG85 (xne_k hk9999e hk9999o (by decide))).trans ((hF73.2.1 _ (xn1 (xne_k hk9999e hk9999o (by decide)) xn0)).trans (hF18.2.1 _ (xn1 (xne_k hk9999e hk9999n (by decide)) xn0))))) ((hF94.2.1 _ (xn1 (xne_k hk9999f hk9999w (by decide)) (xn1 (xne_j hj9999f hj9999z38 (by first | decide | omega)) xn0))).trans ((lc_c hG85 (xne_k hk9999f hk9999o (by decide))).trans ((hF73.2.1 _ (xn1 (xne_k hk9999f hk9999o (by decide)) xn0)).trans (hF18.2.1 _ (xn1 (xne_k hk9999f hk9999n (by decide)) xn0))))) ((hF94.2.1 _ (xn1 (xne_k hk9999g hk9999w (by decide)) (xn1 (xne_k hk9999g hk9999y (by decide)) xn0))).trans ((lc_c hG85 (xne_k hk9999g hk9999o (by decide))).trans ((hF73.2.1 _ (xn1 (xne_k hk9999g hk9999o (by decide)) xn0)).trans (hF18.2.1 _ (xn1 (xne_k hk9999g hk9999n (by decide)) xn0))))) ((hF94.2.1 _ (xn1 (xne_k hk9999z25 hk9999w (by decide)) (xn1 (xne_k hk9999z25 hk9999y (by decide)) xn0))).trans ((lc_c hG85 (xne_k hk9999z25 hk9999o (by decide))).trans ((hF73.2.1 _ (xn1 (xne_k hk9999z25 hk9999o (by decide)) xn0)).trans ((hF18.2.1 _ (xn1 (xne_k hk9999z25 hk9999n (by decide)) xn0)).trans (hF14.2.1 _ (xn1 (xne_k hk9999z25 hk9999e (by decide)) (xn1 (xne_k hk9999z25 hk9999f (by decide)) (xn1 (xne_k hk9999z25 hk9999g (by decide)) (xn1 (xne_j hj9999z40 hj9999i (by first | decide | omega)) (xn1 (xne_j hj9999z40 hj9999k (by first | decide | omega)) (xn1 (xne_j hj9999z40 hj9999m (by first | decide | omega)) (xn1 (xne_j hj9999z40 hj9999o (by first | decide | omega)) (xn1 (xne_k hk9999z25 hk9999l (by decide)) (xn1 (xne_k hk9999z25 hk9999m (by decide)) xn0)))))))))))))) ((hF94.2.1 _ (xn1 (xne_k hk9999z26 hk9999w (by decide)) (xn1 (xne_k hk9999z26 hk9999y (by decide)) xn0))).trans ((lc_c hG85 (xne_k hk9999z26 hk9999o (by decide))).trans ((hF73.2.1 _ (xn1 (xne_k hk9999z26 hk9999o (by decide)) xn0)).trans ((hF18.2.1 _ (xn1 (xne_k hk9999z26 hk9999n (by decide)) xn0)).trans (hF14.2.1 _ (xn1 (xne_k hk9999z26 hk9999e (by decide)) (xn1 (xne_k hk9999z26 hk9999f (by decide)) (xn1 (xne_k hk9999z26 hk9999g (by decide)) (xn1 (xne_j hj9999z42 hj9999i (by first | decide | omega)) (xn1 (xne_j hj9999z42 hj9999k (by first | decide | omega)) (xn1 (xne_j hj9999z42 hj9999m (by first | decide | omega)) (xn1 (xne_j hj9999z42 hj9999o (by first | decide | omega)) (xn1 (xne_k hk9999z26 hk9999l (by decide)) (xn1 (xne_k hk9999z26 hk9999m (by decide)) xn0)))))))))))))) ((hF94.2.1 _ (xn1 (xne_k hk9999z27 hk9999w (by decide)) (xn1 (xne_k hk9999z27 hk9999y (by decide)) xn0))).trans ((lc_c hG85 (xne_k hk9999z27 hk9999o (by decide))).trans ((hF73.2.1 _ (xn1 (xne_k hk9999z27 hk9999o (by decide)) xn0)).trans ((hF18.2.1 _ (xn1 (xne_k hk9999z27 hk9999n (by decide)) xn0)).trans (hF14.2.1 _ (xn1 (xne_k hk9999z27 hk9999e (by decide)) (xn1 (xne_k hk9999z27 hk9999f (by decide)) (xn1 (xne_k hk9999z27 hk9999g (by decide)) (xn1 (xne_j hj9999z44 hj9999i (by first | decide | omega)) (xn1 (xne_j hj9999z44 hj9999k (by first | decide | omega)) (xn1 (xne_j hj9999z44 hj9999m (by first | decide | omega)) (xn1 (xne_j hj9999z44 hj9999o (by first | decide | omega)) (xn1 (xne_k hk9999z27 hk9999l (by decide)) (xn1 (xne_k hk9999z27 hk9999m (by decide)) xn0)))))))))))))) ((hF94.2.1 _ (xn1 (xne_k hk9999z28 hk9999w (by decide)) (xn1 (xne_k hk9999z28 hk9999y (by decide)) xn0))).trans ((lc_c hG85 (xne_k hk9999z28 hk9999o (by decide))).trans ((hF73.2.1 _ (xn1 (xne_k hk9999z28 hk9999o (by decide)) xn0)).trans ((hF18.2.1 _ (xn1 (xne_k hk9999z28 hk9999n (by decide)) xn0)).trans (hF14.2.1 _ (xn1 (xne_k hk9999z28 hk9999e (by decide)) (xn1 (xne_k hk9999z28 hk9999f (by decide)) (xn1 (xne_k hk9999z28 hk9999g (by decide)) (xn1 (xne_j hj9999z46 hj9999i (by first | decide | omega)) (xn1 (xne_j hj9999z46 hj9999k (by first | decide | omega)) (xn1 (xne_j hj9999z46 hj9999m (by first | decide | omega)) (xn1 (xne_j hj9999z46 hj9999o (by first | decide | omega)) (xn1 (xne_k hk9999z28 hk9999l (by decide)) (xn1 (xne_k hk9999z28 hk9999m (by decide)) xn0)))))))))))))) ((hF94.2.1 _ (xn1 (xne_k hk9999z29 hk9999w (by decide)) (xn1 (xne_k hk9999z29 hk9999y (by decide)) xn0))).trans ((lc_c hG85 (xne_k hk9999z29 hk9999o (by decide))).trans ((hF73.2.1 _ (xn1 (xne_k hk9999z29 hk9999o (by decide)) xn0)).trans ((hF18.2.1 _ (xn1 (xne_k hk9999z29 hk9999n (by decide)) xn0)).trans (hF14.2.1 _ (xn1 (xne_k hk9999z29 hk9999e (by decide)) (xn1 (xne_k hk9999z29 hk9999f (by decide)) (xn1 (xne_k hk9999z29 hk9999g (by decide)) (xn1 (xne_k hk9999z29 hk9999h (by decide)) (xn1 (xne_k hk9999z29 hk9999i (by decide)) (xn1 (xne_k hk9999z29 hk9999j (by decide)) (xn1 (xne_k hk9999z29 hk9999k (by decide)) (xn1 (xne_j hj9999z48 hj9999q (by first | decide | omega)) (xn1 (xne_j hj9999z48 hj9999s (by first | decide | omega)) xn0)))))))))))))) ((hF94.2.1 _ (xn1 (xne_k hk9999z30 hk9999w (by decide)) (xn1 (xne_k hk9999z30 hk9999y (by decide)) xn0))).trans ((lc_c hG85 (xne_k hk9999z30 hk9999o (by decide))).trans ((hF73.2.1 _ (xn1 (xne_k hk9999z30 hk9999o (by decide)) xn0)).trans ((hF18.2.1 _ (xn1 (xne_k hk9999z30 hk9999n (by decide)) xn0)).trans (hF14.2.1 _ (xn1 (xne_k hk9999z30 hk9999e (by decide)) (xn1 (xne_k hk9999z30 hk9999f (by decide)) (xn1 (xne_k hk9999z30 hk9999g (by decide)) (xn1 (xne_k hk9999z30 hk9999h (by decide)) (xn1 (xne_k hk9999z30 hk9999i (by decide)) (xn1 (xne_k hk9999z30 hk9999j (by decide)) (xn1 (xne_k hk9999z30 hk9999k (by decide)) (xn1 (xne_j hj9999z50 hj9999q (by first | decide | omega)) (xn1 (xne_j hj9999z50 hj9999s (by first | decide | omega)) xn0)))))))))))))) ((hF94.2.1 _ (xn1 (xne_k hk9999h hk9999w (by decide)) (xn1 (xne_k hk9999h hk9999y (by decide)) xn0))).trans ((lc_c hG85 (xne_k hk9999h hk9999o (by decide))).trans ((hF73.2.1 _ (xn1 (xne_k hk9999h hk9999o (by decide)) xn0)).trans (hF18.2.1 _ (xn1 (xne_k hk9999h hk9999n (by decide)) xn0))))) ((hF94.2.1 _ (xn1 (xne_k hk9999i hk9999w (by decide)) (xn1 (xne_k hk9999i hk9999y (by decide)) xn0))).trans ((lc_c hG85 (xne_k hk9999i hk9999o (by decide))).trans ((hF73.2.1 _ (xn1 (xne_k hk9999i hk9999o (by decide)) xn0)).trans (hF18.2.1 _ (xn1 (xne_k hk9999i hk9999n (by decide)) xn0))))) ((hF94.2.1 _ (xn1 (xne_k hk9999j hk9999w (by decide)) (xn1 (xne_k hk9999j hk9999y (by decide)) xn0))).trans ((lc_c hG85 (xne_k hk9999j hk9999o (by decide))).trans ((hF73.2.1 _ (xn1 (xne_k hk9999j hk9999o (by decide)) xn0)).trans (hF18.2.1 _ (xn1 (xne_k hk9999j hk9999n (by decide)) xn0))))) ((hF94.2.1 _ (xn1 (xne_k hk9999k hk9999w (by decide)) (xn1 (xne_k hk9999k hk9999y (by decide)) xn0))).trans ((lc_c hG85 (xne_k hk9999k hk9999o (by decide))).trans ((hF73.2.1 _ (xn1 (xne_k hk9999k hk9999o (by decide)) xn0)).trans (hF18.2.1 _ (xn1 (xne_k hk9999k hk9999n (by decide)) xn0))))) ((hF94.2.1 _ (xn1 (xne_k hk9999l hk9999w (by decide)) (xn1 (xne_k hk9999l hk9999y (by decide)) xn0))).trans ((lc_c hG85 (xne_k hk9999l hk9999o (by decide))).trans ((hF73.2.1 _ (xn1 (xne_k hk9999l hk9999o (by decide)) xn0)).trans (hF18.2.1 _ (xn1 (xne_k hk9999l hk9999n (by decide)) xn0))))) ((hF94.2.1 _ (xn1 (xne_k hk9999m hk9999w (by decide)) (xn1 (xne_k hk9999m hk9999y (by decide)) xn0))).trans ((lc_c hG85 (xne_k hk9999m hk9999o (by decide))).trans ((hF73.2.1 _ (xn1 (xne_k hk9999m hk9999o (by decide)) xn0)).trans (hF18.2.1 _ (xn1 (xne_k hk9999m hk9999n (by decide)) xn0))))) (hF94.2.1 _ (xn1 (xne_k hk9999o hk9999w (by decide)) (xn1 (xne_k hk9999o hk9999y (by decide)) xn0))) ((hF94.2.1 _ (xn1 (xne_k hk9999n hk9999w (by decide)) (xn1 (xne_k hk9999n hk9999y (by decide)) xn0))).trans ((lc_c hG85 (xne_k hk9999n hk9999o (by decide))).trans (hF73.2.1 _ (xn1 (xne_k hk9999n hk9999o (by decide)) xn0)))) (hF18.1 _ _ (xnj (by decide) (xnj (by decide) (xnj (by decide) xn0)))) ((hF94.1 _ _ xn0).trans ((lc_d hG85).trans ((hF73.1 _ _ xn0).trans ((hF18.1 _ _ (xnj (by decide) (xnj (by decide) (xnj (by decide) xn0)))).trans (hF14.1 _ _ (xnj (by decide) (xna (xne_j hj9999c hj9999a (by first | decide | omega)) xn0))))))) ((hF94.1 _ _ xn0).trans ((lc_d hG85).trans ((hF73.1 _ _ xn0).trans (hF18.1 _ _ (xnj (by decide) (xnj (by decide) (xna (xne_k hk9999 hk9999b (by decide)) xn0))))))) ((hF94.1 _ _ xn0).trans ((lc_d hG85).trans (hF73.1 _ _ xn0))) ((hF94.1 _ _ xn0).trans ((lc_d hG85).trans (hF73.1 _ _ xn0))) ((hF94.1 _ _ xn0).trans ((lc_d hG85).trans (hF73.1 _ _ xn0))) ((hF94.1 _ _ xn0).trans ((lc_d hG85).trans ((hF73.1 _ _ xn0).trans ((hF18.1 _ _ (xnj (by decide) (xnj (by decide) (xnj (by decide) xn0)))).trans (hF14.1 _ _ (xnj (by decide) (xna (xne_j hj9999d hj9999a (by first | decide | omega)) xn0))))))) ((hF94.1 _ _ xn0).trans ((lc_d hG85).trans ((hF73.1 _ _ xn0).trans (hF18.1 _ _ (xnj (by decide) (xnj (by decide) (xnj (by decide) xn0)))))))) (v_X10_actAsOnPaper_111_13 (K := K) (F := F) a G G94 G14 G18 G73 G85 x84 x18 x82 ha hk9999 hj9999 hk9999a hj9999a hk9999b hj9999b hk9999c hj9999c hk9999d hj9999d hk9999e hj9999e hk9999f hj9999f hk9999g hj9999g hk9999h hj9999i hk9999i hj9999k hk9999j hj9999m hk9999k hj9999o hk9999l hj9999q hk9999m hj9999s hk9999n hj9999t hk9999o hj9999u hk9999p hj9999w hk9999q hj9999z25 hk9999r hj9999z27 hk9999s hj9999z29 hk9999t hj9999z31 hk9999u hj9999z33 hk9999v hj9999z34 hk9999w hj9999z36 hk9999y hj9999z38 hk9999z25 hj9999z40 hk9999z26 hj9999z42 hk9999z27 hj9999z44 hk9999z28 hj9999z46 hk9999z29 hj9999z48 hk9999z30 hj9999z50 hk9999z31 hj9999z51 hk9999z32 hj9999z52 hk9999z33 hj9999z53 hk9999z34 hj9999z54 hk9999z35 hj9999z56 hk9999z36 hj9999z58 hk9999z37 hj9999z59 hk9999z38 hj9999z61 hk9999z39 hj9999z63 (XFr.call (by rw [hG85]; exact XFr.cput (XFr.call (XFr.call (XFr.call XFr.rf hF14 (xm1 0 rfl (xm1 1 rfl xm0)) (xm1 0 rfl (xm1 1 rfl (xm1 2 rfl (xm1 3 rfl (xm1 4 rfl (xm1 5 rfl (xm1 6 rfl (xm1 7 rfl (xm1 8 rfl xm0))))))))) xm0) hF18 (xm1 2 rfl (xm1 3 rfl (xm1 4 rfl xm0))) (xm1 9 rfl xm0) xm0) hF73 xm0 (xm1 10 rfl xm0) xm0) (List.mem_of_getElem? (i := 10) rfl)) hF94 xm0 (xm1 17 rfl (xm1 18 rfl xm0)) xm0) hF14 hF18 hF73 hG85 hF94 ron rop rob bko bkn oq14 oq18 hv82 oq94 oq94a sb sw t14 c21 (xzi hz32) c35 t84 (hF18.2.1 _ (xn1 (xne_k hk9999h hk9999n (by decide)) xn0)) (hF18.2.1 _ (xn1 (xne_k hk9999i hk9999n (by decide)) xn0)) (hF18.2.1 _ (xn1 (xne_k hk9999j hk9999n (by decide)) xn0)) (hF18.2.1 _ (xn1 (xne_k hk9999k hk9999n (by decide)) xn0)) (hF18.2.1 _ (xn1 (xne_k hk9999l hk9999n (by decide)) xn0)) (hF18.2.1 _ (xn1 (xne_k hk9999m hk9999n (by decide)) xn0)) ((hF94.2.1 _ (xn1 (xne_k hk9999p hk9999w (by decide)) (xn1 (xne_k hk9999p hk9999y (by decide)) xn0))).trans ((lc_c hG85 (xne_k hk9999p hk9999o (by decide))).trans ((hF73.2.1 _ (xn1 (xne_k hk9999p hk9999o (by decide)) xn0)).trans ((hF18.2.1 _ (xn1 (xne_k hk9999p hk9999n (by decide)) xn0)).trans (hF14.2.1 _ (xn1 (xne_k hk9999p hk9999e (by decide)) (xn1 (xne_k hk9999p hk9999f (by decide)) (xn1 (xne_k hk9999p hk9999g (by decide)) (xn1 (xne_j hj9999w hj9999i (by first | decide | omega)) (xn1 (xne_j hj9999w hj9999k (by first | decide | omega)) (xn1 (xne_j hj9999w hj9999m (by first | decide | omega)) (xn1 (xne_j hj9999w hj9999o (by first | decide | omega)) (xn1 (xne_k hk9999p hk9999l (by decide)) (xn1 (xne_k hk9999p hk9999m (by decide)) xn0)))))))))))))) ((hF94.2.1 _ (xn1 (xne_k hk9999q hk9999w (by decide)) (xn1 (xne_k hk9999q hk9999y (by decide)) xn0))).trans ((lc_c hG85 (xne_k hk9999q hk9999o (by decide))).trans ((hF73.2.1 _ (xn1 (xne_k hk9999q hk9999o (by decide)) xn0)).trans ((hF18.2.1 _ (xn1 (xne_k hk9999q hk9999n (by decide)) xn0)).trans (hF14.2.1 _ (xn1 (xne_k hk9999q hk9999e (by decide)) (xn1 (xne_k hk9999q hk9999f (by decide)) (xn1 (xne_k hk9999q hk9999g (by decide)) (xn1 (xne_j hj9999z25 hj9999i (by first | decide | omega)) (xn1 (xne_j hj9999z25 hj9999k (by first | decide | omega)) (xn1 (xne_j hj9999z25 hj9999m (by first | decide | omega)) (xn1 (xne_j hj9999z25 hj9999o (by first | decide | omega)) (xn1 (xne_k hk9999q hk9999l (by decide)) (xn1 (xne_k hk9999q hk9999m (by decide)) xn0)))))))))))))) ((hF94.2.1 _ (xn1 (xne_k hk9999r hk9999w (by decide)) (xn1 (xne_k hk9999r hk9999y (by decide)) xn0))).trans ((lc_c hG85 (xne_k hk9999r hk9999o (by decide))).trans ((hF73.2.1 _ (xn1 (xne_k hk9999r hk9999o (by decide)) xn0)).trans ((hF18.2.1 _ (xn1 (xne_k hk9999r hk9999n (by decide)) xn0)).trans (hF14.2.1 _ (xn1 (xne_k hk9999r hk9999e (by decide)) (xn1 (xne_k hk9999r hk9999f (by decide)) (xn1 (xne_k hk9999r hk9999g (by decide)) (xn1 (xne_j hj9999z27 hj9999i (by first | decide | omega)) (xn1 (xne_j hj9999z27 hj9999k (by first | decide | omega)) (xn1 (xne_j hj9999z27 hj9999m (by first | decide | omega)) (xn1 (xne_j hj9999z27 hj9999o (by first | decide | omega)) (xn1 (xne_k hk9999r hk9999l (by decide)) (xn1 (xne_k hk9999r hk9999m (by decide)) xn0)))))))))))))) ((hF94.2.1 _ (xn1 (xne_k hk9999s hk9999w (by decide)) (xn1 (xne_k hk9999s hk9999y (by decide)) xn0))).trans ((lc_c hG85 (xne_k hk9999s hk9999o (by decide))).trans ((hF73.2.1 _ (xn1 (xne_k hk9999s hk9999o (by decide)) xn0)).trans ((hF18.2.1 _ (xn1 (xne_k hk9999s hk9999n (by decide)) xn0)).trans (hF14.2.1 _ (xn1 (xne_k hk9999s hk9999e (by decide)) (xn1 (xne_k hk9999s hk9999f (by decide)) (xn1 (xne_k hk9999s hk9999g (by decide)) (xn1 (xne_j hj9999z29 hj9999i (by first | decide | omega)) (xn1 (xne_j hj9999z29 hj9999k (by first | decide | omega)) (xn1 (xne_j hj9999z29 hj9999m (by first | decide | omega)) (xn1 (xne_j hj9999z29 hj9999o (by first | decide | omega)) (xn1 (xne_k hk9999s hk9999l (by decide)) (xn1 (xne_k hk9999s hk9999m (by decide)) xn0)))))))))))))) ((hF94.2.1 _ (xn1 (xne_k hk9999t hk9999w (by decide)) (xn1 (xne_k hk9999t hk9999y (by decide)) xn0))).trans ((lc_c hG85 (xne_k hk9999t hk9999o (by decide))).trans ((hF73.2.1 _ (xn1 (xne_k hk9999t hk9999o (by decide)) xn0)).trans ((hF18.2.1 _ (xn1 (xne_k hk9999t hk9999n (by decide)) xn0)).trans (hF14.2.1 _ (xn1 (xne_k hk9999t hk9999e (by decide)) (xn1 (xne_k hk9999t hk9999f (by decide)) (xn1 (xne_k hk9999t hk9999g (by decide)) (xn1 (xne_k hk9999t hk9999h (by decide)) (xn1 (xne_k hk9999t hk9999i (by decide)) (xn1 (xne_k hk9999t hk9999j (by decide)) (xn1 (xne_k hk9999t hk9999k (by decide)) (xn1 (xne_j hj9999z31 hj9999q (by first | decide | omega)) (xn1 (xne_j hj9999z31 hj9999s (by first | decide | omega)) xn0)))))))))))))) ((hF94.2.1 _ (xn1 (xne_k hk9999u hk9999w (by decide)) (xn1 (xne_k hk9999u hk9999y (by decide)) xn0))).trans ((lc_c hG85 (xne_k hk9999u hk9999o (by decide))).trans ((hF73.2.1 _ (xn1 (xne_k hk9999u hk9999o (by decide)) xn0)).trans ((hF18.2.1 _ (xn1 (xne_k hk9999u hk9999n (by decide)) xn0)).trans (hF14.2.1 _ (xn1 (xne_k hk9999u hk9999e (by decide)) (xn1 (xne_k hk9999u hk9999f (by decide)) (xn1 (xne_k hk9999u hk9999g (by decide)) (xn1 (xne_k hk9999u hk9999h (by decide)) (xn1 (xne_k hk9999u hk9999i (by decide)) (xn1 (xne_k hk9999u hk9999j (by decide)) (xn1 (xne_k hk9999u hk9999k (by decide)) (xn1 (xne_j hj9999z33 hj9999q (by first | decide | omega)) (xn1 (xne_j hj9999z33 hj9999s (by first | decide | omega)) xn0)))))))))))))) ((hF94.2.1 _ (xn1 (xne_k hk9999e hk9999w (by decide)) (xn1 (xne_j hj9999e hj9999z38 (by first | decide | omega)) xn0))).trans ((lc_c hG85 (xne_k hk9999e hk9999o (by decide))).trans ((hF73.2.1 _ (xn1 (xne_k hk9999e hk9999o (by decide)) xn0)).trans (hF18.2.1 _ (xn1 (xne_k hk9999e hk9999n (by decide)) xn0))))) ((hF94.2.1 _ (xn1 (xne_k hk9999f hk9999w (by decide)) (xn1 (xne_j hj9999f hj9999z38 (by first | decide | omega)) xn0))).trans ((lc_c hG85 (xne_k hk9999f hk9999o (by decide))).trans ((hF73.2.1 _ (xn1 (xne_k hk9999f hk9999o (by decide)) xn0)).trans (hF18.2.1 _ (xn1 (xne_k hk9999f hk9999n (by decide)) xn0))))) ((hF94.2.1 _ (xn1 (xne_k hk9999g hk9999w (by decide)) (xn1 (xne_k hk9999g hk9999y (by decide)) xn0))).trans ((lc_c hG85 (xne_k hk9999g hk9999o (by decide))).trans ((hF73.2.1 _ (xn1 (xne_k hk9999g hk9999o (by decide)) xn0)).trans (hF18.2.1 _ (xn1 (xne_k hk9999g hk9999n (by decide)) xn0))))) ((hF94.2.1 _ (xn1 (xne_k hk9999z25 hk9999w (by decide)) (xn1 (xne_k hk9999z25 hk9999y (by decide)) xn0))).trans ((lc_c hG85 (xne_k hk9999z25 hk9999o (by decide))).trans ((hF73.2.1 _ (xn1 (xne_k hk9999z25 hk9999o (by decide)) xn0)).trans ((hF18.2.1 _ (xn1 (xne_k hk9999z25 hk9999n (by decide)) xn0)).trans (hF14.2.1 _ (xn1 (xne_k hk9999z25 hk9999e (by decide)) (xn1 (xne_k hk9999z25 hk9999f (by decide)) (xn1 (xne_k hk9999z25 hk9999g (by decide)) (xn1 (xne_j hj9999z40 hj9999i (by first | decide | omega)) (xn1 (xne_j hj9999z40 hj9999k (by first | decide | omega)) (xn1 (xne_j hj9999z40 hj9999m (by first | decide | omega)) (xn1 (xne_j hj9999z40 hj9999o (by first | decide | omega)) (xn1 (xne_k hk9999z25 hk9999l (by decide)) (xn1 (xne_k hk9999z25 hk9999m (by decide)) xn0)))))))))))))) ((hF94.2.1 _ (xn1 (xne_k hk9999z26 hk9999w (by decide)) (xn1 (xne_k hk9999z26 hk9999y (by decide)) xn0))).trans ((lc_c hG85 (xne_k hk9999z26 hk9999o (by decide))).trans ((hF73.2.1 _ (xn1 (xne_k hk9999z26 hk9999o (by decide)) xn0)).trans ((hF18.2.1 _ (xn1 (xne_k hk9999z26 hk9999n (by decide)) xn0)).trans (hF14.2.1 _ (xn1 (xne_k hk9999z26 hk9999e (by decide)) (xn1 (xne_k hk9999z26 hk9999f (by decide)) (xn1 (xne_k hk9999z26 hk9999g (by decide)) (xn1 (xne_j hj9999z42 hj9999i (by first | decide | omega)) (xn1 (xne_j hj9999z42 hj9999k (by first | decide | omega)) (xn1 (xne_j hj9999z42 hj9999m (by first | decide | omega)) (xn1 (xne_j hj9999z42 hj9999o (by first | decide | omega)) (xn1 (xne_k hk9999z26 hk9999l (by decide)) (xn1 (xne_k hk9999z26 hk9999m (by decide)) xn0)))))))))))))) ((hF94.2.1 _ (xn1 (xne_k hk9999z27 hk9999w (by decide)) (xn1 (xne_k hk9999z27 hk9999y (by decide)) xn0))).trans ((lc_c hG85 (xne_k hk9999z27 hk9999o (by decide))).trans ((hF73.2.1 _ (xn1 (xne_k hk9999z27 hk9999o (by decide)) xn0)).trans ((hF18.2.1 _ (xn1 (xne_k hk9999z27 hk9999n (by decide)) xn0)).trans (hF14.2.1 _ (xn1 (xne_k hk9999z27 hk9999e (by decide)) (xn1 (xne_k hk9999z27 hk9999f (by decide)) (xn1 (xne_k hk9999z27 hk9999g (by decide)) (xn1 (xne_j hj9999z44 hj9999i (by first | decide | omega)) (xn1 (xne_j hj9999z44 hj9999k (by first | decide | omega)) (xn1 (xne_j hj9999z44 hj9999m (by first | decide | omega)) (xn1 (xne_j hj9999z44 hj9999o (by first | decide | omega)) (xn1 (xne_k hk9999z27 hk9999l (by decide)) (xn1 (xne_k hk9999z27 hk9999m (by decide)) xn0)))))))))))))) ((hF94.2.1 _ (xn1 (xne_k hk9999z28 hk9999w (by decide)) (xn1 (xne_k hk9999z28 hk9999y (by decide)) xn0))).trans ((lc_c hG85 (xne_k hk9999z28 hk9999o (by decide))).trans ((hF73.2.1 _ (xn1 (xne_k hk9999z28 hk9999o (by decide)) xn0)).trans ((hF18.2.1 _ (xn1 (xne_k hk9999z28 hk9999n (by decide)) xn0)).trans (hF14.2.1 _ (xn1 (xne_k hk9999z28 hk9999e (by decide)) (xn1 (xne_k hk9999z28 hk9999f (by decide)) (xn1 (xne_k hk9999z28 hk9999g (by decide)) (xn1 (xne_j hj9999z46 hj9999i (by first | decide | omega)) (xn1 (xne_j hj9999z46 hj9999k (by first | decide | omega)) (xn1 (xne_j hj9999z46 hj9999m (by first | decide | omega)) (xn1 (xne_j hj9999z46 hj9999o (by first | decide | omega)) (xn1 (xne_k hk9999z28 hk9999l (by decide)) (xn1 (xne_k hk9999z28 hk9999m (by decide)) xn0)))))))))))))) ((hF94.2.1 _ (xn1 (xne_k hk9999z29 hk9999w (by decide)) (xn1 (xne_k hk9999z29 hk9999y (by decide)) xn0))).trans ((lc_c hG85 (xne_k hk9999z29 hk9999o (by decide))).trans ((hF73.2.1 _ (xn1 (xne_k hk9999z29 hk9999o (by decide)) xn0)).trans ((hF18.2.1 _ (xn1 (xne_k hk9999z29 hk9999n (by decide)) xn0)).trans (hF14.2.1 _ (xn1 (xne_k hk9999z29 hk9999e (by decide)) (xn1 (xne_k hk9999z29 hk9999f (by decide)) (xn1 (xne_k hk9999z29 hk9999g (by decide)) (xn1 (xne_k hk9999z29 hk9999h (by decide)) (xn1 (xne_k hk9999z29 hk9999i (by decide)) (xn1 (xne_k hk9999z29 hk9999j (by decide)) (xn1 (xne_k hk9999z29 hk9999k (by decide)) (xn1 (xne_j hj9999z48 hj9999q (by first | decide | omega)) (xn1 (xne_j hj9999z48 hj9999s (by first | decide | omega)) xn0)))))))))))))) ((hF94.2.1 _ (xn1 (xne_k hk9999z30 hk9999w (by decide)) (xn1 (xne_k hk9999z30 hk9999y (by decide)) xn0))).trans ((lc_c hG85 (xne_k hk9999z30 hk9999o (by decide))).trans ((hF73.2.1 _ (xn1 (xne_k hk9999z30 hk9999o (by decide)) xn0)).trans ((hF18.2.1 _ (xn1 (xne_k hk9999z30 hk9999n (by decide)) xn0)).trans (hF14.2.1 _ (xn1 (xne_k hk9999z30 hk9999e (by decide)) (xn1 (xne_k hk9999z30 hk9999f (by decide)) (xn1 (xne_k hk9999z30 hk9999g (by decide)) (xn1 (xne_k hk9999z30 hk9999h (by decide)) (xn1 (xne_k hk9999z30 hk9999i (by decide)) (xn1 (xne_k hk9999z30 hk9999j (by decide)) (xn1 (xne_k hk9999z30 hk9999k (by decide)) (xn1 (xne_j hj9999z50 hj9999q (by first | decide | omega)) (xn1 (xne_j hj9999z50 hj9999s (by first | decide | omega)) xn0)))))))))))))) ((hF94.2.1 _ (xn1 (xne_k hk9999h hk9999w (by decide)) (xn1 (xne_k hk9999h hk9999y (by decide)) xn0))).trans ((lc_c hG85 (xne_k hk9999h hk9999o (by decide))).trans ((hF73.2.1 _ (xn1 (xne_k hk9999h hk9999o (by decide)) xn0)).trans (hF18.2.1 _ (xn1 (xne_k hk9999h hk9999n (by decide)) xn0))))) ((hF94.2.1 _ (xn1 (xne_k hk9999i hk9999w (by decide)) (xn1 (xne_k hk9999i hk9999y (by decide)) xn0))).trans ((lc_c hG85 (xne_k hk9999i hk9999o (by decide))).trans ((hF73.2.1 _ (xn1 (xne_k hk9999i hk9999o (by decide)) xn0)).trans (hF18.2.1 _ (xn1 (xne_k hk9999i hk9999n (by decide)) xn0))))) ((hF94.2.1 _ (xn1 (xne_k hk9999j hk9999w (by decide)) (xn1 (xne_k hk9999j hk9999y (by decide)) xn0))).trans ((lc_c hG85 (xne_k hk9999j hk9999o (by decide))).trans ((hF73.2.1 _ (xn1 (xne_k hk9999j hk9999o (by decide)) xn0)).trans (hF18.2.1 _ (xn1 (xne_k hk9999j hk9999n (by decide)) xn0))))) ((hF94.2.1 _ (xn1 (xne_k hk9999k hk9999w (by decide)) (xn1 (xne_k hk9999k hk9999y (by decide)) xn0))).trans ((lc_c hG85 (xne_k hk9999k hk9999o (by decide))).trans ((hF73.2.1 _ (xn1 (xne_k hk9999k hk9999o (by decide)) xn0)).trans (hF18.2.1 _ (xn1 (xne_k hk9999k hk9999n (by decide)) xn0))))) ((hF94.2.1 _ (xn1 (xne_k hk9999l hk9999w (by decide)) (xn1 (xne_k hk9999l hk9999y (by decide)) xn0))).trans ((lc_c hG85 (xne_k hk9999l hk9999o (by decide))).trans ((hF73.2.1 _ (xn1 (xne_k hk9999l hk9999o (by decide)) xn0)).trans (hF18.2.1 _ (xn1 (xne_k hk9999l hk9999n (by decide)) xn0))))) ((hF94.2.1 _ (xn1 (xne_k hk9999m hk9999w (by decide)) (xn1 (xne_k hk9999m hk9999y (by decide)) xn0))).trans ((lc_c hG85 (xne_k hk9999m hk9999o (by decide))).trans ((hF73.2.1 _ (xn1 (xne_k hk9999m hk9999o (by decide)) xn0)).trans (hF18.2.1 _ (xn1 (xne_k hk9999m hk9999n (by decide)) xn0))))) (hF94.2.1 _ (xn1 (xne_k hk9999o hk9999w (by decide)) (xn1 (xne_k hk9999o hk9999y (by decide)) xn0))) ((hF94.2.1 _ (xn1 (xne_k hk9999n hk9999w (by decide)) (xn1 (xne_k hk9999n hk9999y (by decide)) xn0))).trans ((lc_c hG85 (xne_k hk9999n hk9999o (by decide))).trans (hF73.2.1 _ (xn1 (xne_k hk9999n hk9999o (by decide)) xn0)))) (hF18.1 _ _ (xnj (by decide) (xnj (by decide) (xnj (by decide) xn0)))) ((hF94.1 _ _ xn0).trans ((lc_d hG85).trans ((hF73.1 _ _ xn0).trans ((hF18.1 _ _ (xnj (by decide) (xnj (by decide) (xnj (by decide) xn0)))).trans (hF14.1 _ _ (xnj (by decide) (xna (xne_j hj9999c hj9999a (by first | decide | omega)) xn0))))))) ((hF94.1 _ _ xn0).trans ((lc_d hG85).trans ((hF73.1 _ _ xn0).trans (hF18.1 _ _ (xnj (by decide) (xnj (by decide) (xna (xne_k hk9999 hk9999b (by decide)) xn0))))))) ((hF94.1 _ _ xn0).trans ((lc_d hG85).trans (hF73.1 _ _ xn0))) ((hF94.1 _ _ xn0).trans ((lc_d hG85).trans (hF73.1 _ _ xn0))) ((hF94.1 _ _ xn0).trans ((lc_d hG85).trans (hF73.1 _ _ xn0))) ((hF94.1 _ _ xn0).trans ((lc_d hG85).trans ((hF73.1 _ _ xn0).trans ((hF18.1 _ _ (xnj (by decide) (xnj (by decide) (xnj (by decide) xn0)))).trans (hF14.1 _ _ (xnj (by decide) (xna (xne_j hj9999d hj9999a (by first | decide | omega)) xn0))))))) ((hF94.1 _ _ xn0).trans ((lc_d hG85).trans ((hF73.1 _ _ xn0).trans (hF18.1 _ _ (xnj (by decide) (xnj (by decide) (xnj (by decide) xn0))))))))) mv_X10_gather km_X10_240 rfl rfl ⟨Nat.le_of_ble_eq_true rfl, Nat.le_of_ble_eq_true rfl⟩ (rc_12 hK hT ha) hK (fun _ => XP.blind) (fun U hU hW => XP.at hK hz hS hT hU hW) rfl hl.1 (Nat.le_of_ble_eq_true rfl) dX10_actAsOnPaper_111 ⟨Nat.le_of_ble_eq_true rfl, Nat.le_of_ble_eq_true rfl⟩) hS ?_
      rintro G111 H locs ⟨hF111, t111, oq111⟩ hT hS
      have t111 : 0 ≤ ((G111.1 (F a 8) 6).toInt) ∧ ((G111.1 (F a 8) 6).toInt) ≤ 1080 := t111
      have oq111 : qL G111 F (F a 8) = gaL G94 (G94.2.2.1 (F (F a 2) 1)) (vw (G.2.1 (F (F a 4) 0))) (vw (G94.2.1 (F (F a 3) 0))) (1 : Int) (((G.1 (F a 2) 2).toInt)).toNat := by simp only [(show G94.2.1 (F (F a 4) 0) = G.2.1 (F (F a 4) 0) from ((hF94.2.1 _ (xn1 (xne_j hj9999z56 hj9999z36 (by first | decide | omega)) (xn1 (xne_k hk9999z35 hk9999y (by decide)) xn0))).trans ((lc_c hG85 (xne_k hk9999z35 hk9999o (by decide))).trans ((hF73.2.1 _ (xn1 (xne_k hk9999z35 hk9999o (by decide)) xn0)).trans ((hF18.2.1 _ (xn1 (xne_k hk9999z35 hk9999n (by decide)) xn0)).trans (hF14.2.1 _ (xn1 (xne_k hk9999z35 hk9999e (by decide)) (xn1 (xne_k hk9999z35 hk9999f (by decide)) (xn1 (xne_k hk9999z35 hk9999g (by decide)) (xn1 (xne_k hk9999z35 hk9999h (by decide)) (xn1 (xne_k hk9999z35 hk9999i (by decide)) (xn1 (xne_k hk9999z35 hk9999j (by decide)) (xn1 (xne_k hk9999z35 hk9999k (by decide)) (xn1 (xne_k hk9999z35 hk9999l (by decide)) (xn1 (xne_k hk9999z35 hk9999m (by decide)) xn0))))))))))))))), (show G94.1 (F a 2) 2 = G.1 (F a 2) 2 from ((hF94.1 _ _ xn0).trans ((lc_d hG85).trans ((hF73.1 _ _ xn0).trans ((hF18.1 _ _ (xnj (by decide) (xna (xne_k hk9999z31 hk9999b (by decide)) (xnj (by decide) xn0)))).trans (hF14.1 _ _ (xnj (by decide) (xnj (by decide) xn0))))))))] at oq111; exact oq111
      refine lv_aload_n hx hb dX10_actAsOnPaper_114 rfl (lv_at hl 0 rfl) ?_
      refine gX10_9 S hK hT ha kf_X10_61 dX10_actAsOnPaper_115 (fun _ _ => ?_)
      refine x_clp (x_runV (b := (F a 9)) (As := []) (rest := []) S (c_X4_size l E K F G111 H (F a 9) hk9999a) mv_X4_size km_X10_232 rfl rfl ⟨Nat.le_of_ble_eq_true rfl, Nat.le_of_ble_eq_true rfl⟩ (rc_6 hK hT hk9999a) hK (fun _ => XPh.blind) (fun U hU hW => XPh.at hK hz hS hT hU hW) rfl hl.1 (Nat.le_of_ble_eq_true rfl) dX10_actAsOnPaper_118 ⟨Nat.le_of_ble_eq_true rfl, Nat.le_of_ble_eq_true rfl⟩) hS ?_
      rintro _ _ locs ⟨x118, rfl, t118⟩ hS
      have t118 : x118.toInt = ((G14.1 (F a 9) 6).toInt) := by rw [(show (G111.1 (F a 9) 6).toInt = ((G14.1 (F a 9) 6).toInt) from (congrArg Int32.toInt ((hF111.1 _ _ (xnj (by decide) (xna (xne_j hj9999a hj9999d (by first | decide | omega)) xn0))).trans ((hF94.1 _ _ xn0).trans ((lc_d hG85).trans ((hF73.1 _ _ xn0).trans (hF18.1 _ _ (xnj (by decide) (xnj (by decide) (xnj (by decide) xn0))))))))).trans (rfl : Int32.toInt (G14.1 (F a 9) 6) = ((G14.1 (F a 9) 6).toInt)))] at t118; exact t118
      exact x_ri hx hb hr hlk hQ (Nat.le_of_ble_eq_true rfl) (Nat.le_of_ble_eq_true rfl) hS dX10_actAsOnPaper_121 G111 ⟨_, rfl, (XFr.call (XFr.call (by rw [hG85]; exact XFr.cput (XFr.call (XFr.call (XFr.call XFr.rf hF14 (xm1 0 rfl (xm1 1 rfl xm0)) (xm1 0 rfl (xm1 1 rfl (xm1 2 rfl (xm1 3 rfl (xm1 4 rfl (xm1 5 rfl (xm1 6 rfl (xm1 7 rfl (xm1 8 rfl xm0))))))))) xm0) hF18 (xm1 2 rfl (xm1 3 rfl (xm1 4 rfl xm0))) (xm1 9 rfl xm0) xm0) hF73 xm0 (xm1 10 rfl xm0) xm0) (List.mem_of_getElem? (i := 10) rfl)) hF94 xm0 (xm1 17 rfl (xm1 18 rfl xm0)) xm0) hF111 (xm1 0 rfl (xm1 6 rfl xm0)) (xm1 0 rfl (xm1 1 rfl (xm1 2 rfl (xm1 19 rfl (xm1 20 rfl (xm1 21 rfl (xm1 22 rfl (xm1 23 rfl (xm1 24 rfl xm0))))))))) xm0), (t111), (by rw [(t118 : Int32.toInt x118 = ((G14.1 (F a 9) 6).toInt))] <;> exact (v_X10_actAsOnPaper_121_14 (K := K) (F := F) a G G111 G14 G94 x18 ha hk9999 hj9999 hk9999a hj9999a hk9999b hj9999b hk9999c hj9999c hk9999d hj9999d hk9999e hj9999e hk9999f hj9999f hk9999g hj9999g hk9999h hj9999i hk9999i hj9999k hk9999j hj9999m hk9999k hj9999o hk9999l hj9999q hk9999m hj9999s hk9999n hj9999t hk9999o hj9999u hk9999p hj9999w hk9999q hj9999z25 hk9999r hj9999z27 hk9999s hj9999z29 hk9999t hj9999z31 hk9999u hj9999z33 hk9999v hj9999z34 hk9999w hj9999z36 hk9999y hj9999z38 hk9999z25 hj9999z40 hk9999z26 hj9999z42 hk9999z27 hj9999z44 hk9999z28 hj9999z46 hk9999z29 hj9999z48 hk9999z30 hj9999z50 hk9999z31 hj9999z51 hk9999z32 hj9999z52 hk9999z33 hj9999z53 hk9999z34 hj9999z54 hk9999z35 hj9999z56 hk9999z36 hj9999z58 hk9999z37 hj9999z59 hk9999z38 hj9999z61 hk9999z39 hj9999z63 (XFr.call (XFr.call (by rw [hG85]; exact XFr.cput (XFr.call (XFr.call (XFr.call XFr.rf hF14 (xm1 0 rfl (xm1 1 rfl xm0)) (xm1 0 rfl (xm1 1 rfl (xm1 2 rfl (xm1 3 rfl (xm1 4 rfl (xm1 5 rfl (xm1 6 rfl (xm1 7 rfl (xm1 8 rfl xm0))))))))) xm0) hF18 (xm1 2 rfl (xm1 3 rfl (xm1 4 rfl xm0))) (xm1 9 rfl xm0) xm0) hF73 xm0 (xm1 10 rfl xm0) xm0) (List.mem_of_getElem? (i := 10) rfl)) hF94 xm0 (xm1 17 rfl (xm1 18 rfl xm0)) xm0) hF111 (xm1 0 rfl (xm1 6 rfl xm0)) (xm1 0 rfl (xm1 1 rfl (xm1 2 rfl (xm1 19 rfl (xm1 20 rfl (xm1 21 rfl (xm1 22 rfl (xm1 23 rfl (xm1 24 rfl xm0))))))))) xm0) hF111 bko oq14 oq18 oq94 oq111 sb sw t14 c21 (xzi hz32) c35 t111 (hF111.2.1 _ (xn1 (xne_k hk9999w hk9999e (by decide)) (xn1 (xne_k hk9999w hk9999f (by decide)) (xn1 (xne_k hk9999w hk9999g (by decide)) (xn1 (xne_k hk9999w hk9999z25 (by decide)) (xn1 (xne_k hk9999w hk9999z26 (by decide)) (xn1 (xne_k hk9999w hk9999z27 (by decide)) (xn1 (xne_k hk9999w hk9999z28 (by decide)) (xn1 (xne_k hk9999w hk9999z29 (by decide)) (xn1 (xne_k hk9999w hk9999z30 (by decide)) xn0)))))))))) ((hF94.2.2 _ xn0).trans ((lc_r hG85).trans ((hF73.2.2 _ xn0).trans ((hF18.2.2 _ xn0).trans (hF14.2.2 _ xn0))))))), (v_X10_actAsOnPaper_121_15 (F := F) a G111 G94 oq94a (hF111.2.1 _ (xn1 (xne_k hk9999w hk9999e (by decide)) (xn1 (xne_k hk9999w hk9999f (by decide)) (xn1 (xne_k hk9999w hk9999g (by decide)) (xn1 (xne_k hk9999w hk9999z25 (by decide)) (xn1 (xne_k hk9999w hk9999z26 (by decide)) (xn1 (xne_k hk9999w hk9999z27 (by decide)) (xn1 (xne_k hk9999w hk9999z28 (by decide)) (xn1 (xne_k hk9999w hk9999z29 (by decide)) (xn1 (xne_k hk9999w hk9999z30 (by decide)) xn0)))))))))) (hF111.2.1 _ (xn1 (xne_j hj9999z38 hj9999e (by first | decide | omega)) (xn1 (xne_j hj9999z38 hj9999f (by first | decide | omega)) (xn1 (xne_k hk9999y hk9999g (by decide)) (xn1 (xne_k hk9999y hk9999z25 (by decide)) (xn1 (xne_k hk9999y hk9999z26 (by decide)) (xn1 (xne_k hk9999y hk9999z27 (by decide)) (xn1 (xne_k hk9999y hk9999z28 (by decide)) (xn1 (xne_k hk9999y hk9999z29 (by decide)) (xn1 (xne_k hk9999y hk9999z30 (by decide)) xn0)))))))))))⟩ hT
    · refine lv_aload_n hx hb dX10_actAsOnPaper_38 rfl (lv_at hl 0 rfl) ?_
      refine lv_aload_n hx hb dX10_actAsOnPaper_39 rfl (lv_at hl 0 rfl) ?_
      refine gX10_9 S hK hT ha kf_X10_61 dX10_actAsOnPaper_40 (fun _ _ => ?_)
      refine x_cl (x_runV (b := a) (As := [.ref (F a 9)]) (rest := []) S (c_X10_askToCommit l E K F G18 a (F a 9) ha hk9999a (by rw [(show (G18.1 (F a 9) 6).toInt = ((G14.1 (F a 9) 6).toInt) from (congrArg Int32.toInt (hF18.1 _ _ (xnj (by decide) (xnj (by decide) (xnj (by decide) xn0))))).trans (rfl : Int32.toInt (G14.1 (F a 9) 6) = ((G14.1 (F a 9) 6).toInt)))] <;> exact (t14)) (v_X10_actAsOnPaper_43_16 (K := K) (F := F) a G G14 x18 ha hk9999 hj9999 hk9999a hj9999a hk9999b hj9999b hk9999c hj9999c hk9999d hj9999d hk9999e hj9999e hk9999f hj9999f hk9999g hj9999g hk9999h hj9999i hk9999i hj9999k hk9999j hj9999m hk9999k hj9999o hk9999l hj9999q hk9999m hj9999s hk9999n hj9999t hk9999o hj9999u hk9999p hj9999w hk9999q hj9999z25 hk9999r hj9999z27 hk9999s hj9999z29 hk9999t hj9999z31 hk9999u hj9999z33 hk9999v hj9999z34 hk9999w hj9999z36 hk9999y hj9999z38 hk9999z25 hj9999z40 hk9999z26 hj9999z42 hk9999z27 hj9999z44 hk9999z28 hj9999z46 hk9999z29 hj9999z48 hk9999z30 hj9999z50 hk9999z31 hj9999z51 hk9999z32 hj9999z52 hk9999z33 hj9999z53 hk9999z34 hj9999z54 hk9999z35 hj9999z56 hk9999z36 hj9999z58 hk9999z37 hj9999z59 hk9999z38 hj9999z61 hk9999z39 hj9999z63 oq18 sb sw t14 c21 (xzi hz32) c35)) mv_X10_askToCommit km_X10_225 rfl rfl ⟨Nat.le_of_ble_eq_true rfl, Nat.le_of_ble_eq_true rfl⟩ (rc_12 hK hT ha) hK (fun _ => XP.blind) (fun U hU hW => XP.at hK hz hS hT hU hW) rfl hl.1 (Nat.le_of_ble_eq_true rfl) dX10_actAsOnPaper_43 ⟨Nat.le_of_ble_eq_true rfl, Nat.le_of_ble_eq_true rfl⟩) hS ?_
      rintro _ G43 H locs ⟨x43, rfl, b43, hF43, t43, oq43, oq43a⟩ hT hS
      have t43 : 0 ≤ ((G43.1 (F a 10) 6).toInt) ∧ ((G43.1 (F a 10) 6).toInt) ≤ 1080 := t43
      refine xi_zne (tgt := 52) hx hb (rfl : Int32.toInt x43 = x43.toInt) dX10_actAsOnPaper_46 (by decide) (fun c46 => ?_) (fun c46 => ?_)
      · refine lv_aload_n hx hb dX10_actAsOnPaper_52 rfl (lv_at hl 0 rfl) ?_
        refine gX10_3 S hK hT ha kf_X10_37 dX10_actAsOnPaper_53 (fun _ _ => ?_)
        refine lv_aload_n hx hb dX10_actAsOnPaper_56 rfl (lv_at hl 0 rfl) ?_
        refine gX10_5 S hK hT ha kf_X10_44 dX10_actAsOnPaper_57 (fun _ _ => ?_)
        refine x_cv0 (x_runV (b := (F a 3)) (As := [.ref (F a 5)]) (rest := []) S (c_X6_copy l E K F G43 (F a 3) (F a 5) hk9999v hk9999z37 (v_X10_actAsOnPaper_60_17 (F := F) a G G43 ron rop rob ((hF43.2.1 _ (xn1 (xne_k hk9999z38 hk9999n (by decide)) (xn1 (xne_k hk9999z38 hk9999p (by decide)) (xn1 (xne_k hk9999z38 hk9999q (by decide)) (xn1 (xne_k hk9999z38 hk9999r (by decide)) (xn1 (xne_k hk9999z38 hk9999s (by decide)) (xn1 (xne_k hk9999z38 hk9999t (by decide)) (xn1 (xne_k hk9999z38 hk9999u (by decide)) xn0)))))))).trans ((hF18.2.1 _ (xn1 (xne_k hk9999z38 hk9999n (by decide)) xn0)).trans (hF14.2.1 _ (xn1 (xne_k hk9999z38 hk9999e (by decide)) (xn1 (xne_k hk9999z38 hk9999f (by decide)) (xn1 (xne_k hk9999z38 hk9999g (by decide)) (xn1 (xne_k hk9999z38 hk9999h (by decide)) (xn1 (xne_k hk9999z38 hk9999i (by decide)) (xn1 (xne_k hk9999z38 hk9999j (by decide)) (xn1 (xne_k hk9999z38 hk9999k (by decide)) (xn1 (xne_k hk9999z38 hk9999l (by decide)) (xn1 (xne_k hk9999z38 hk9999m (by decide)) xn0)))))))))))) ((hF43.2.1 _ (xn1 (xne_k hk9999z39 hk9999n (by decide)) (xn1 (xne_k hk9999z39 hk9999p (by decide)) (xn1 (xne_k hk9999z39 hk9999q (by decide)) (xn1 (xne_k hk9999z39 hk9999r (by decide)) (xn1 (xne_k hk9999z39 hk9999s (by decide)) (xn1 (xne_k hk9999z39 hk9999t (by decide)) (xn1 (xne_k hk9999z39 hk9999u (by decide)) xn0)))))))).trans ((hF18.2.1 _ (xn1 (xne_k hk9999z39 hk9999n (by decide)) xn0)).trans (hF14.2.1 _ (xn1 (xne_j hj9999z63 hj9999e (by first | decide | omega)) (xn1 (xne_j hj9999z63 hj9999f (by first | decide | omega)) (xn1 (xne_k hk9999z39 hk9999g (by decide)) (xn1 (xne_k hk9999z39 hk9999h (by decide)) (xn1 (xne_k hk9999z39 hk9999i (by decide)) (xn1 (xne_k hk9999z39 hk9999j (by decide)) (xn1 (xne_k hk9999z39 hk9999k (by decide)) (xn1 (xne_k hk9999z39 hk9999l (by decide)) (xn1 (xne_k hk9999z39 hk9999m (by decide)) xn0)))))))))))))) mv_X6_copy km_X10_195 rfl rfl ⟨Nat.le_of_ble_eq_true rfl, Nat.le_of_ble_eq_true rfl⟩ (rc_8 hK hT hk9999v) hK (fun _ => XP.blind) (fun U hU hW => XP.at hK hz hS hT hU hW) rfl hl.1 (Nat.le_of_ble_eq_true rfl) dX10_actAsOnPaper_60 ⟨Nat.le_of_ble_eq_true rfl, Nat.le_of_ble_eq_true rfl⟩) hS ?_
        rintro G60 H locs ⟨hF60, oq60, oq60a⟩ hT hS
        have oq60 : (vw (G60.2.1 (F (F a 3) 0))) = (vw (G.2.1 (F (F a 5) 0))) := by simp only [(show G43.2.1 (F (F a 5) 0) = G.2.1 (F (F a 5) 0) from ((hF43.2.1 _ (xn1 (xne_k hk9999z38 hk9999n (by decide)) (xn1 (xne_k hk9999z38 hk9999p (by decide)) (xn1 (xne_k hk9999z38 hk9999q (by decide)) (xn1 (xne_k hk9999z38 hk9999r (by decide)) (xn1 (xne_k hk9999z38 hk9999s (by decide)) (xn1 (xne_k hk9999z38 hk9999t (by decide)) (xn1 (xne_k hk9999z38 hk9999u (by decide)) xn0)))))))).trans ((hF18.2.1 _ (xn1 (xne_k hk9999z38 hk9999n (by decide)) xn0)).trans (hF14.2.1 _ (xn1 (xne_k hk9999z38 hk9999e (by decide)) (xn1 (xne_k hk9999z38 hk9999f (by decide)) (xn1 (xne_k hk9999z38 hk9999g (by decide)) (xn1 (xne_k hk9999z38 hk9999h (by decide)) (xn1 (xne_k hk9999z38 hk9999i (by decide)) (xn1 (xne_k hk9999z38 hk9999j (by decide)) (xn1 (xne_k hk9999z38 hk9999k (by decide)) (xn1 (xne_k hk9999z38 hk9999l (by decide)) (xn1 (xne_k hk9999z38 hk9999m (by decide)) xn0)))))))))))))] at oq60; exact oq60
        refine lv_aload_n hx hb dX10_actAsOnPaper_63 rfl (lv_at hl 0 rfl) ?_
        refine gX10_9 S hK hT ha kf_X10_61 dX10_actAsOnPaper_64 (fun _ _ => ?_)
        refine x_clp (x_runV (b := (F a 9)) (As := []) (rest := []) S (c_X4_size l E K F G60 H (F a 9) hk9999a) mv_X4_size km_X10_232 rfl rfl ⟨Nat.le_of_ble_eq_true rfl, Nat.le_of_ble_eq_true rfl⟩ (rc_6 hK hT hk9999a) hK (fun _ => XPh.blind) (fun U hU hW => XPh.at hK hz hS hT hU hW) rfl hl.1 (Nat.le_of_ble_eq_true rfl) dX10_actAsOnPaper_67 ⟨Nat.le_of_ble_eq_true rfl, Nat.le_of_ble_eq_true rfl⟩) hS ?_
        rintro _ _ locs ⟨x67, rfl, t67⟩ hS
        have t67 : x67.toInt = ((G14.1 (F a 9) 6).toInt) := by rw [(show (G60.1 (F a 9) 6).toInt = ((G14.1 (F a 9) 6).toInt) from (congrArg Int32.toInt ((hF60.1 _ _ xn0).trans ((hF43.1 _ _ (xnj (by decide) (xnj (by decide) (xnj (by decide) (xna (xne_j hj9999a hj9999c (by first | decide | omega)) xn0))))).trans (hF18.1 _ _ (xnj (by decide) (xnj (by decide) (xnj (by decide) xn0))))))).trans (rfl : Int32.toInt (G14.1 (F a 9) 6) = ((G14.1 (F a 9) 6).toInt)))] at t67; exact t67
        exact x_ri hx hb hr hlk hQ (Nat.le_of_ble_eq_true rfl) (Nat.le_of_ble_eq_true rfl) hS dX10_actAsOnPaper_70 G60 ⟨_, rfl, (XFr.call (XFr.call (XFr.call (XFr.call XFr.rf hF14 (xm1 0 rfl (xm1 1 rfl xm0)) (xm1 0 rfl (xm1 1 rfl (xm1 2 rfl (xm1 3 rfl (xm1 4 rfl (xm1 5 rfl (xm1 6 rfl (xm1 7 rfl (xm1 8 rfl xm0))))))))) xm0) hF18 (xm1 2 rfl (xm1 3 rfl (xm1 4 rfl xm0))) (xm1 9 rfl xm0) xm0) hF43 (xm1 2 rfl (xm1 3 rfl (xm1 4 rfl (xm1 5 rfl xm0)))) (xm1 9 rfl (xm1 11 rfl (xm1 12 rfl (xm1 13 rfl (xm1 14 rfl (xm1 15 rfl (xm1 16 rfl xm0))))))) xm0) hF60 xm0 (xm1 17 rfl (xm1 18 rfl xm0)) xm0), (by rw [(show (G60.1 (F a 8) 6).toInt = ((G.1 (F a 8) 6).toInt) from (congrArg Int32.toInt ((hF60.1 _ _ xn0).trans ((hF43.1 _ _ (xnj (by decide) (xnj (by decide) (xnj (by decide) (xna (xne_j hj9999d hj9999c (by first | decide | omega)) xn0))))).trans ((hF18.1 _ _ (xnj (by decide) (xnj (by decide) (xnj (by decide) xn0)))).trans (hF14.1 _ _ (xnj (by decide) (xna (xne_j hj9999d hj9999a (by first | decide | omega)) xn0))))))).trans (rfl : Int32.toInt (G.1 (F a 8) 6) = ((G.1 (F a 8) 6).toInt)))] <;> exact (sw)), (by rw [(t67 : Int32.toInt x67 = ((G14.1 (F a 9) 6).toInt))] <;> exact (v_X10_actAsOnPaper_70_18 (K := K) (F := F) a G G60 G14 G18 G43 x18 x43 ha oq14 oq18 oq43 oq43a oq60 sb sw t14 c21 (xzi hz32) c35 t43 (xzi b43) c46 (hF18.2.1 _ (xn1 (xne_k hk9999h hk9999n (by decide)) xn0)) (hF18.2.1 _ (xn1 (xne_k hk9999i hk9999n (by decide)) xn0)) (hF18.2.1 _ (xn1 (xne_k hk9999j hk9999n (by decide)) xn0)) (hF18.2.1 _ (xn1 (xne_k hk9999k hk9999n (by decide)) xn0)) (hF18.2.1 _ (xn1 (xne_k hk9999l hk9999n (by decide)) xn0)) (hF18.2.1 _ (xn1 (xne_k hk9999m hk9999n (by decide)) xn0)) ((hF60.2.1 _ (xn1 (xne_k hk9999z25 hk9999w (by decide)) (xn1 (xne_k hk9999z25 hk9999y (by decide)) xn0))).trans ((hF43.2.1 _ (xn1 (xne_k hk9999z25 hk9999n (by decide)) (xn1 (xne_j hj9999z40 hj9999w (by first | decide | omega)) (xn1 (xne_j hj9999z40 hj9999z25 (by first | decide | omega)) (xn1 (xne_j hj9999z40 hj9999z27 (by first | decide | omega)) (xn1 (xne_j hj9999z40 hj9999z29 (by first | decide | omega)) (xn1 (xne_k hk9999z25 hk9999t (by decide)) (xn1 (xne_k hk9999z25 hk9999u (by decide)) xn0)))))))).trans ((hF18.2.1 _ (xn1 (xne_k hk9999z25 hk9999n (by decide)) xn0)).trans (hF14.2.1 _ (xn1 (xne_k hk9999z25 hk9999e (by decide)) (xn1 (xne_k hk9999z25 hk9999f (by decide)) (xn1 (xne_k hk9999z25 hk9999g (by decide)) (xn1 (xne_j hj9999z40 hj9999i (by first | decide | omega)) (xn1 (xne_j hj9999z40 hj9999k (by first | decide | omega)) (xn1 (xne_j hj9999z40 hj9999m (by first | decide | omega)) (xn1 (xne_j hj9999z40 hj9999o (by first | decide | omega)) (xn1 (xne_k hk9999z25 hk9999l (by decide)) (xn1 (xne_k hk9999z25 hk9999m (by decide)) xn0))))))))))))) ((hF60.2.1 _ (xn1 (xne_k hk9999z26 hk9999w (by decide)) (xn1 (xne_k hk9999z26 hk9999y (by decide)) xn0))).trans ((hF43.2.1 _ (xn1 (xne_k hk9999z26 hk9999n (by decide)) (xn1 (xne_j hj9999z42 hj9999w (by first | decide | omega)) (xn1 (xne_j hj9999z42 hj9999z25 (by first | decide | omega)) (xn1 (xne_j hj9999z42 hj9999z27 (by first | decide | omega)) (xn1 (xne_j hj9999z42 hj9999z29 (by first | decide | omega)) (xn1 (xne_k hk9999z26 hk9999t (by decide)) (xn1 (xne_k hk9999z26 hk9999u (by decide)) xn0)))))))).trans ((hF18.2.1 _ (xn1 (xne_k hk9999z26 hk9999n (by decide)) xn0)).trans (hF14.2.1 _ (xn1 (xne_k hk9999z26 hk9999e (by decide)) (xn1 (xne_k hk9999z26 hk9999f (by decide)) (xn1 (xne_k hk9999z26 hk9999g (by decide)) (xn1 (xne_j hj9999z42 hj9999i (by first | decide | omega)) (xn1 (xne_j hj9999z42 hj9999k (by first | decide | omega)) (xn1 (xne_j hj9999z42 hj9999m (by first | decide | omega)) (xn1 (xne_j hj9999z42 hj9999o (by first | decide | omega)) (xn1 (xne_k hk9999z26 hk9999l (by decide)) (xn1 (xne_k hk9999z26 hk9999m (by decide)) xn0))))))))))))) ((hF60.2.1 _ (xn1 (xne_k hk9999z27 hk9999w (by decide)) (xn1 (xne_k hk9999z27 hk9999y (by decide)) xn0))).trans ((hF43.2.1 _ (xn1 (xne_k hk9999z27 hk9999n (by decide)) (xn1 (xne_j hj9999z44 hj9999w (by first | decide | omega)) (xn1 (xne_j hj9999z44 hj9999z25 (by first | decide | omega)) (xn1 (xne_j hj9999z44 hj9999z27 (by first | decide | omega)) (xn1 (xne_j hj9999z44 hj9999z29 (by first | decide | omega)) (xn1 (xne_k hk9999z27 hk9999t (by decide)) (xn1 (xne_k hk9999z27 hk9999u (by decide)) xn0)))))))).trans ((hF18.2.1 _ (xn1 (xne_k hk9999z27 hk9999n (by decide)) xn0)).trans (hF14.2.1 _ (xn1 (xne_k hk9999z27 hk9999e (by decide)) (xn1 (xne_k hk9999z27 hk9999f (by decide)) (xn1 (xne_k hk9999z27 hk9999g (by decide)) (xn1 (xne_j hj9999z44 hj9999i (by first | decide | omega)) (xn1 (xne_j hj9999z44 hj9999k (by first | decide | omega)) (xn1 (xne_j hj9999z44 hj9999m (by first | decide | omega)) (xn1 (xne_j hj9999z44 hj9999o (by first | decide | omega)) (xn1 (xne_k hk9999z27 hk9999l (by decide)) (xn1 (xne_k hk9999z27 hk9999m (by decide)) xn0))))))))))))) ((hF60.2.1 _ (xn1 (xne_k hk9999z28 hk9999w (by decide)) (xn1 (xne_k hk9999z28 hk9999y (by decide)) xn0))).trans ((hF43.2.1 _ (xn1 (xne_k hk9999z28 hk9999n (by decide)) (xn1 (xne_j hj9999z46 hj9999w (by first | decide | omega)) (xn1 (xne_j hj9999z46 hj9999z25 (by first | decide | omega)) (xn1 (xne_j hj9999z46 hj9999z27 (by first | decide | omega)) (xn1 (xne_j hj9999z46 hj9999z29 (by first | decide | omega)) (xn1 (xne_k hk9999z28 hk9999t (by decide)) (xn1 (xne_k hk9999z28 hk9999u (by decide)) xn0)))))))).trans ((hF18.2.1 _ (xn1 (xne_k hk9999z28 hk9999n (by decide)) xn0)).trans (hF14.2.1 _ (xn1 (xne_k hk9999z28 hk9999e (by decide)) (xn1 (xne_k hk9999z28 hk9999f (by decide)) (xn1 (xne_k hk9999z28 hk9999g (by decide)) (xn1 (xne_j hj9999z46 hj9999i (by first | decide | omega)) (xn1 (xne_j hj9999z46 hj9999k (by first | decide | omega)) (xn1 (xne_j hj9999z46 hj9999m (by first | decide | omega)) (xn1 (xne_j hj9999z46 hj9999o (by first | decide | omega)) (xn1 (xne_k hk9999z28 hk9999l (by decide)) (xn1 (xne_k hk9999z28 hk9999m (by decide)) xn0))))))))))))) ((hF60.2.1 _ (xn1 (xne_k hk9999z29 hk9999w (by decide)) (xn1 (xne_k hk9999z29 hk9999y (by decide)) xn0))).trans ((hF43.2.1 _ (xn1 (xne_k hk9999z29 hk9999n (by decide)) (xn1 (xne_k hk9999z29 hk9999p (by decide)) (xn1 (xne_k hk9999z29 hk9999q (by decide)) (xn1 (xne_k hk9999z29 hk9999r (by decide)) (xn1 (xne_k hk9999z29 hk9999s (by decide)) (xn1 (xne_j hj9999z48 hj9999z31 (by first | decide | omega)) (xn1 (xne_j hj9999z48 hj9999z33 (by first | decide | omega)) xn0)))))))).trans ((hF18.2.1 _ (xn1 (xne_k hk9999z29 hk9999n (by decide)) xn0)).trans (hF14.2.1 _ (xn1 (xne_k hk9999z29 hk9999e (by decide)) (xn1 (xne_k hk9999z29 hk9999f (by decide)) (xn1 (xne_k hk9999z29 hk9999g (by decide)) (xn1 (xne_k hk9999z29 hk9999h (by decide)) (xn1 (xne_k hk9999z29 hk9999i (by decide)) (xn1 (xne_k hk9999z29 hk9999j (by decide)) (xn1 (xne_k hk9999z29 hk9999k (by decide)) (xn1 (xne_j hj9999z48 hj9999q (by first | decide | omega)) (xn1 (xne_j hj9999z48 hj9999s (by first | decide | omega)) xn0))))))))))))) ((hF60.2.1 _ (xn1 (xne_k hk9999z30 hk9999w (by decide)) (xn1 (xne_k hk9999z30 hk9999y (by decide)) xn0))).trans ((hF43.2.1 _ (xn1 (xne_k hk9999z30 hk9999n (by decide)) (xn1 (xne_k hk9999z30 hk9999p (by decide)) (xn1 (xne_k hk9999z30 hk9999q (by decide)) (xn1 (xne_k hk9999z30 hk9999r (by decide)) (xn1 (xne_k hk9999z30 hk9999s (by decide)) (xn1 (xne_j hj9999z50 hj9999z31 (by first | decide | omega)) (xn1 (xne_j hj9999z50 hj9999z33 (by first | decide | omega)) xn0)))))))).trans ((hF18.2.1 _ (xn1 (xne_k hk9999z30 hk9999n (by decide)) xn0)).trans (hF14.2.1 _ (xn1 (xne_k hk9999z30 hk9999e (by decide)) (xn1 (xne_k hk9999z30 hk9999f (by decide)) (xn1 (xne_k hk9999z30 hk9999g (by decide)) (xn1 (xne_k hk9999z30 hk9999h (by decide)) (xn1 (xne_k hk9999z30 hk9999i (by decide)) (xn1 (xne_k hk9999z30 hk9999j (by decide)) (xn1 (xne_k hk9999z30 hk9999k (by decide)) (xn1 (xne_j hj9999z50 hj9999q (by first | decide | omega)) (xn1 (xne_j hj9999z50 hj9999s (by first | decide | omega)) xn0))))))))))))) (hF18.1 _ _ (xnj (by decide) (xnj (by decide) (xnj (by decide) xn0)))) ((hF60.1 _ _ xn0).trans ((hF43.1 _ _ (xnj (by decide) (xnj (by decide) (xnj (by decide) (xna (xne_j hj9999d hj9999c (by first | decide | omega)) xn0))))).trans ((hF18.1 _ _ (xnj (by decide) (xnj (by decide) (xnj (by decide) xn0)))).trans (hF14.1 _ _ (xnj (by decide) (xna (xne_j hj9999d hj9999a (by first | decide | omega)) xn0)))))))), (v_X10_actAsOnPaper_70_19 (F := F) a G60 oq60a)⟩ hT
      · refine lv_bipush (v := (-5)) hx hb dX10_actAsOnPaper_49 (by decide) ?_
        exact x_ri hx hb hr hlk hQ (Nat.le_of_ble_eq_true rfl) (Nat.le_of_ble_eq_true rfl) hS dX10_actAsOnPaper_51 G43 ⟨_, rfl, (XFr.call (XFr.call (XFr.call XFr.rf hF14 (xm1 0 rfl (xm1 1 rfl xm0)) (xm1 0 rfl (xm1 1 rfl (xm1 2 rfl (xm1 3 rfl (xm1 4 rfl (xm1 5 rfl (xm1 6 rfl (xm1 7 rfl (xm1 8 rfl xm0))))))))) xm0) hF18 (xm1 2 rfl (xm1 3 rfl (xm1 4 rfl xm0))) (xm1 9 rfl xm0) xm0) hF43 (xm1 2 rfl (xm1 3 rfl (xm1 4 rfl (xm1 5 rfl xm0)))) (xm1 9 rfl (xm1 11 rfl (xm1 12 rfl (xm1 13 rfl (xm1 14 rfl (xm1 15 rfl (xm1 16 rfl xm0))))))) xm0), (by rw [(show (G43.1 (F a 8) 6).toInt = ((G.1 (F a 8) 6).toInt) from (congrArg Int32.toInt ((hF43.1 _ _ (xnj (by decide) (xnj (by decide) (xnj (by decide) (xna (xne_j hj9999d hj9999c (by first | decide | omega)) xn0))))).trans ((hF18.1 _ _ (xnj (by decide) (xnj (by decide) (xnj (by decide) xn0)))).trans (hF14.1 _ _ (xnj (by decide) (xna (xne_j hj9999d hj9999a (by first | decide | omega)) xn0)))))).trans (rfl : Int32.toInt (G.1 (F a 8) 6) = ((G.1 (F a 8) 6).toInt)))] <;> exact (sw)), (by rw [((by decide) : Int32.toInt (-5) = (-5 : Int))] <;> exact (v_X10_actAsOnPaper_51_20 (K := K) (F := F) a G G43 G14 G18 x18 x43 ha oq14 oq18 oq43 oq43a sb sw t14 c21 (xzi hz32) c35 t43 (xzi b43) c46 (hF18.2.1 _ (xn1 (xne_k hk9999h hk9999n (by decide)) xn0)) (hF18.2.1 _ (xn1 (xne_k hk9999i hk9999n (by decide)) xn0)) (hF18.2.1 _ (xn1 (xne_k hk9999j hk9999n (by decide)) xn0)) (hF18.2.1 _ (xn1 (xne_k hk9999k hk9999n (by decide)) xn0)) (hF18.2.1 _ (xn1 (xne_k hk9999l hk9999n (by decide)) xn0)) (hF18.2.1 _ (xn1 (xne_k hk9999m hk9999n (by decide)) xn0)) ((hF43.2.1 _ (xn1 (xne_k hk9999w hk9999n (by decide)) (xn1 (xne_k hk9999w hk9999p (by decide)) (xn1 (xne_k hk9999w hk9999q (by decide)) (xn1 (xne_k hk9999w hk9999r (by decide)) (xn1 (xne_k hk9999w hk9999s (by decide)) (xn1 (xne_k hk9999w hk9999t (by decide)) (xn1 (xne_k hk9999w hk9999u (by decide)) xn0)))))))).trans ((hF18.2.1 _ (xn1 (xne_k hk9999w hk9999n (by decide)) xn0)).trans (hF14.2.1 _ (xn1 (xne_k hk9999w hk9999e (by decide)) (xn1 (xne_k hk9999w hk9999f (by decide)) (xn1 (xne_k hk9999w hk9999g (by decide)) (xn1 (xne_k hk9999w hk9999h (by decide)) (xn1 (xne_k hk9999w hk9999i (by decide)) (xn1 (xne_k hk9999w hk9999j (by decide)) (xn1 (xne_k hk9999w hk9999k (by decide)) (xn1 (xne_k hk9999w hk9999l (by decide)) (xn1 (xne_k hk9999w hk9999m (by decide)) xn0)))))))))))) ((hF43.2.1 _ (xn1 (xne_k hk9999z25 hk9999n (by decide)) (xn1 (xne_j hj9999z40 hj9999w (by first | decide | omega)) (xn1 (xne_j hj9999z40 hj9999z25 (by first | decide | omega)) (xn1 (xne_j hj9999z40 hj9999z27 (by first | decide | omega)) (xn1 (xne_j hj9999z40 hj9999z29 (by first | decide | omega)) (xn1 (xne_k hk9999z25 hk9999t (by decide)) (xn1 (xne_k hk9999z25 hk9999u (by decide)) xn0)))))))).trans ((hF18.2.1 _ (xn1 (xne_k hk9999z25 hk9999n (by decide)) xn0)).trans (hF14.2.1 _ (xn1 (xne_k hk9999z25 hk9999e (by decide)) (xn1 (xne_k hk9999z25 hk9999f (by decide)) (xn1 (xne_k hk9999z25 hk9999g (by decide)) (xn1 (xne_j hj9999z40 hj9999i (by first | decide | omega)) (xn1 (xne_j hj9999z40 hj9999k (by first | decide | omega)) (xn1 (xne_j hj9999z40 hj9999m (by first | decide | omega)) (xn1 (xne_j hj9999z40 hj9999o (by first | decide | omega)) (xn1 (xne_k hk9999z25 hk9999l (by decide)) (xn1 (xne_k hk9999z25 hk9999m (by decide)) xn0)))))))))))) ((hF43.2.1 _ (xn1 (xne_k hk9999z26 hk9999n (by decide)) (xn1 (xne_j hj9999z42 hj9999w (by first | decide | omega)) (xn1 (xne_j hj9999z42 hj9999z25 (by first | decide | omega)) (xn1 (xne_j hj9999z42 hj9999z27 (by first | decide | omega)) (xn1 (xne_j hj9999z42 hj9999z29 (by first | decide | omega)) (xn1 (xne_k hk9999z26 hk9999t (by decide)) (xn1 (xne_k hk9999z26 hk9999u (by decide)) xn0)))))))).trans ((hF18.2.1 _ (xn1 (xne_k hk9999z26 hk9999n (by decide)) xn0)).trans (hF14.2.1 _ (xn1 (xne_k hk9999z26 hk9999e (by decide)) (xn1 (xne_k hk9999z26 hk9999f (by decide)) (xn1 (xne_k hk9999z26 hk9999g (by decide)) (xn1 (xne_j hj9999z42 hj9999i (by first | decide | omega)) (xn1 (xne_j hj9999z42 hj9999k (by first | decide | omega)) (xn1 (xne_j hj9999z42 hj9999m (by first | decide | omega)) (xn1 (xne_j hj9999z42 hj9999o (by first | decide | omega)) (xn1 (xne_k hk9999z26 hk9999l (by decide)) (xn1 (xne_k hk9999z26 hk9999m (by decide)) xn0)))))))))))) ((hF43.2.1 _ (xn1 (xne_k hk9999z27 hk9999n (by decide)) (xn1 (xne_j hj9999z44 hj9999w (by first | decide | omega)) (xn1 (xne_j hj9999z44 hj9999z25 (by first | decide | omega)) (xn1 (xne_j hj9999z44 hj9999z27 (by first | decide | omega)) (xn1 (xne_j hj9999z44 hj9999z29 (by first | decide | omega)) (xn1 (xne_k hk9999z27 hk9999t (by decide)) (xn1 (xne_k hk9999z27 hk9999u (by decide)) xn0)))))))).trans ((hF18.2.1 _ (xn1 (xne_k hk9999z27 hk9999n (by decide)) xn0)).trans (hF14.2.1 _ (xn1 (xne_k hk9999z27 hk9999e (by decide)) (xn1 (xne_k hk9999z27 hk9999f (by decide)) (xn1 (xne_k hk9999z27 hk9999g (by decide)) (xn1 (xne_j hj9999z44 hj9999i (by first | decide | omega)) (xn1 (xne_j hj9999z44 hj9999k (by first | decide | omega)) (xn1 (xne_j hj9999z44 hj9999m (by first | decide | omega)) (xn1 (xne_j hj9999z44 hj9999o (by first | decide | omega)) (xn1 (xne_k hk9999z27 hk9999l (by decide)) (xn1 (xne_k hk9999z27 hk9999m (by decide)) xn0)))))))))))) ((hF43.2.1 _ (xn1 (xne_k hk9999z28 hk9999n (by decide)) (xn1 (xne_j hj9999z46 hj9999w (by first | decide | omega)) (xn1 (xne_j hj9999z46 hj9999z25 (by first | decide | omega)) (xn1 (xne_j hj9999z46 hj9999z27 (by first | decide | omega)) (xn1 (xne_j hj9999z46 hj9999z29 (by first | decide | omega)) (xn1 (xne_k hk9999z28 hk9999t (by decide)) (xn1 (xne_k hk9999z28 hk9999u (by decide)) xn0)))))))).trans ((hF18.2.1 _ (xn1 (xne_k hk9999z28 hk9999n (by decide)) xn0)).trans (hF14.2.1 _ (xn1 (xne_k hk9999z28 hk9999e (by decide)) (xn1 (xne_k hk9999z28 hk9999f (by decide)) (xn1 (xne_k hk9999z28 hk9999g (by decide)) (xn1 (xne_j hj9999z46 hj9999i (by first | decide | omega)) (xn1 (xne_j hj9999z46 hj9999k (by first | decide | omega)) (xn1 (xne_j hj9999z46 hj9999m (by first | decide | omega)) (xn1 (xne_j hj9999z46 hj9999o (by first | decide | omega)) (xn1 (xne_k hk9999z28 hk9999l (by decide)) (xn1 (xne_k hk9999z28 hk9999m (by decide)) xn0)))))))))))) ((hF43.2.1 _ (xn1 (xne_k hk9999z29 hk9999n (by decide)) (xn1 (xne_k hk9999z29 hk9999p (by decide)) (xn1 (xne_k hk9999z29 hk9999q (by decide)) (xn1 (xne_k hk9999z29 hk9999r (by decide)) (xn1 (xne_k hk9999z29 hk9999s (by decide)) (xn1 (xne_j hj9999z48 hj9999z31 (by first | decide | omega)) (xn1 (xne_j hj9999z48 hj9999z33 (by first | decide | omega)) xn0)))))))).trans ((hF18.2.1 _ (xn1 (xne_k hk9999z29 hk9999n (by decide)) xn0)).trans (hF14.2.1 _ (xn1 (xne_k hk9999z29 hk9999e (by decide)) (xn1 (xne_k hk9999z29 hk9999f (by decide)) (xn1 (xne_k hk9999z29 hk9999g (by decide)) (xn1 (xne_k hk9999z29 hk9999h (by decide)) (xn1 (xne_k hk9999z29 hk9999i (by decide)) (xn1 (xne_k hk9999z29 hk9999j (by decide)) (xn1 (xne_k hk9999z29 hk9999k (by decide)) (xn1 (xne_j hj9999z48 hj9999q (by first | decide | omega)) (xn1 (xne_j hj9999z48 hj9999s (by first | decide | omega)) xn0)))))))))))) ((hF43.2.1 _ (xn1 (xne_k hk9999z30 hk9999n (by decide)) (xn1 (xne_k hk9999z30 hk9999p (by decide)) (xn1 (xne_k hk9999z30 hk9999q (by decide)) (xn1 (xne_k hk9999z30 hk9999r (by decide)) (xn1 (xne_k hk9999z30 hk9999s (by decide)) (xn1 (xne_j hj9999z50 hj9999z31 (by first | decide | omega)) (xn1 (xne_j hj9999z50 hj9999z33 (by first | decide | omega)) xn0)))))))).trans ((hF18.2.1 _ (xn1 (xne_k hk9999z30 hk9999n (by decide)) xn0)).trans (hF14.2.1 _ (xn1 (xne_k hk9999z30 hk9999e (by decide)) (xn1 (xne_k hk9999z30 hk9999f (by decide)) (xn1 (xne_k hk9999z30 hk9999g (by decide)) (xn1 (xne_k hk9999z30 hk9999h (by decide)) (xn1 (xne_k hk9999z30 hk9999i (by decide)) (xn1 (xne_k hk9999z30 hk9999j (by decide)) (xn1 (xne_k hk9999z30 hk9999k (by decide)) (xn1 (xne_j hj9999z50 hj9999q (by first | decide | omega)) (xn1 (xne_j hj9999z50 hj9999s (by first | decide | omega)) xn0)))))))))))) (hF18.1 _ _ (xnj (by decide) (xnj (by decide) (xnj (by decide) xn0)))) ((hF43.1 _ _ (xnj (by decide) (xnj (by decide) (xnj (by decide) (xna (xne_j hj9999d hj9999c (by first | decide | omega)) xn0))))).trans ((hF18.1 _ _ (xnj (by decide) (xnj (by decide) (xnj (by decide) xn0)))).trans (hF14.1 _ _ (xnj (by decide) (xna (xne_j hj9999d hj9999a (by first | decide | omega)) xn0))))))), (v_X10_actAsOnPaper_51_21 (F := F) a G G43 ron ((hF43.2.1 _ (xn1 (xne_k hk9999w hk9999n (by decide)) (xn1 (xne_k hk9999w hk9999p (by decide)) (xn1 (xne_k hk9999w hk9999q (by decide)) (xn1 (xne_k hk9999w hk9999r (by decide)) (xn1 (xne_k hk9999w hk9999s (by decide)) (xn1 (xne_k hk9999w hk9999t (by decide)) (xn1 (xne_k hk9999w hk9999u (by decide)) xn0)))))))).trans ((hF18.2.1 _ (xn1 (xne_k hk9999w hk9999n (by decide)) xn0)).trans (hF14.2.1 _ (xn1 (xne_k hk9999w hk9999e (by decide)) (xn1 (xne_k hk9999w hk9999f (by decide)) (xn1 (xne_k hk9999w hk9999g (by decide)) (xn1 (xne_k hk9999w hk9999h (by decide)) (xn1 (xne_k hk9999w hk9999i (by decide)) (xn1 (xne_k hk9999w hk9999j (by decide)) (xn1 (xne_k hk9999w hk9999k (by decide)) (xn1 (xne_k hk9999w hk9999l (by decide)) (xn1 (xne_k hk9999w hk9999m (by decide)) xn0)))))))))))) ((hF43.2.1 _ (xn1 (xne_k hk9999y hk9999n (by decide)) (xn1 (xne_k hk9999y hk9999p (by decide)) (xn1 (xne_k hk9999y hk9999q (by decide)) (xn1 (xne_k hk9999y hk9999r (by decide)) (xn1 (xne_k hk9999y hk9999s (by decide)) (xn1 (xne_k hk9999y hk9999t (by decide)) (xn1 (xne_k hk9999y hk9999u (by decide)) xn0)))))))).trans ((hF18.2.1 _ (xn1 (xne_k hk9999y hk9999n (by decide)) xn0)).trans (hF14.2.1 _ (xn1 (xne_j hj9999z38 hj9999e (by first | decide | omega)) (xn1 (xne_j hj9999z38 hj9999f (by first | decide | omega)) (xn1 (xne_k hk9999y hk9999g (by decide)) (xn1 (xne_k hk9999y hk9999h (by decide)) (xn1 (xne_k hk9999y hk9999i (by decide)) (xn1 (xne_k hk9999y hk9999j (by decide)) (xn1 (xne_k hk9999y hk9999k (by decide)) (xn1 (xne_k hk9999y hk9999l (by decide)) (xn1 (xne_k hk9999y hk9999m (by decide)) xn0)))))))))))))⟩ hT
  · refine lv_aload_n hx hb dX10_actAsOnPaper_24 rfl (lv_at hl 0 rfl) ?_
    refine lv_bipush (v := (-5)) hx hb dX10_actAsOnPaper_25 (by decide) ?_
    refine x_cl0 (x_runV (b := a) (As := [.int (-5)]) (rest := []) S (c_X10_refuseAct l E K F G18 a (-5) ha) mv_X10_refuseAct km_X10_188 rfl rfl ⟨Nat.le_of_ble_eq_true rfl, Nat.le_of_ble_eq_true rfl⟩ (rc_12 hK hT ha) hK (fun _ => XP.blind) (fun U hU hW => XP.at hK hz hS hT hU hW) rfl hl.1 (Nat.le_of_ble_eq_true rfl) dX10_actAsOnPaper_27 ⟨Nat.le_of_ble_eq_true rfl, Nat.le_of_ble_eq_true rfl⟩) hS ?_
    rintro _ G27 H locs ⟨x27, rfl, hF27, t27⟩ hT hS
    have t27 : x27.toInt = (-5 : Int) := by rw [((by decide) : Int32.toInt (-5) = (-5 : Int))] at t27; exact t27
    exact x_ri hx hb hr hlk hQ (Nat.le_of_ble_eq_true rfl) (Nat.le_of_ble_eq_true rfl) hS dX10_actAsOnPaper_30 G27 ⟨_, rfl, (XFr.call (XFr.call (XFr.call XFr.rf hF14 (xm1 0 rfl (xm1 1 rfl xm0)) (xm1 0 rfl (xm1 1 rfl (xm1 2 rfl (xm1 3 rfl (xm1 4 rfl (xm1 5 rfl (xm1 6 rfl (xm1 7 rfl (xm1 8 rfl xm0))))))))) xm0) hF18 (xm1 2 rfl (xm1 3 rfl (xm1 4 rfl xm0))) (xm1 9 rfl xm0) xm0) hF27 xm0 (xm1 10 rfl xm0) xm0), (by rw [(show (G27.1 (F a 8) 6).toInt = ((G.1 (F a 8) 6).toInt) from (congrArg Int32.toInt ((hF27.1 _ _ xn0).trans ((hF18.1 _ _ (xnj (by decide) (xnj (by decide) (xnj (by decide) xn0)))).trans (hF14.1 _ _ (xnj (by decide) (xna (xne_j hj9999d hj9999a (by first | decide | omega)) xn0)))))).trans (rfl : Int32.toInt (G.1 (F a 8) 6) = ((G.1 (F a 8) 6).toInt)))] <;> exact (sw)), (by rw [(t27 : Int32.toInt x27 = (-5 : Int))] <;> exact (v_X10_actAsOnPaper_30_22 (K := K) (F := F) a G G27 G14 x18 ha oq14 oq18 sb sw t14 c21 ((hF27.2.1 _ (xn1 (xne_k hk9999w hk9999o (by decide)) xn0)).trans ((hF18.2.1 _ (xn1 (xne_k hk9999w hk9999n (by decide)) xn0)).trans (hF14.2.1 _ (xn1 (xne_k hk9999w hk9999e (by decide)) (xn1 (xne_k hk9999w hk9999f (by decide)) (xn1 (xne_k hk9999w hk9999g (by decide)) (xn1 (xne_k hk9999w hk9999h (by decide)) (xn1 (xne_k hk9999w hk9999i (by decide)) (xn1 (xne_k hk9999w hk9999j (by decide)) (xn1 (xne_k hk9999w hk9999k (by decide)) (xn1 (xne_k hk9999w hk9999l (by decide)) (xn1 (xne_k hk9999w hk9999m (by decide)) xn0)))))))))))) ((hF27.2.1 _ (xn1 (xne_k hk9999z25 hk9999o (by decide)) xn0)).trans ((hF18.2.1 _ (xn1 (xne_k hk9999z25 hk9999n (by decide)) xn0)).trans (hF14.2.1 _ (xn1 (xne_k hk9999z25 hk9999e (by decide)) (xn1 (xne_k hk9999z25 hk9999f (by decide)) (xn1 (xne_k hk9999z25 hk9999g (by decide)) (xn1 (xne_j hj9999z40 hj9999i (by first | decide | omega)) (xn1 (xne_j hj9999z40 hj9999k (by first | decide | omega)) (xn1 (xne_j hj9999z40 hj9999m (by first | decide | omega)) (xn1 (xne_j hj9999z40 hj9999o (by first | decide | omega)) (xn1 (xne_k hk9999z25 hk9999l (by decide)) (xn1 (xne_k hk9999z25 hk9999m (by decide)) xn0)))))))))))) ((hF27.2.1 _ (xn1 (xne_k hk9999z26 hk9999o (by decide)) xn0)).trans ((hF18.2.1 _ (xn1 (xne_k hk9999z26 hk9999n (by decide)) xn0)).trans (hF14.2.1 _ (xn1 (xne_k hk9999z26 hk9999e (by decide)) (xn1 (xne_k hk9999z26 hk9999f (by decide)) (xn1 (xne_k hk9999z26 hk9999g (by decide)) (xn1 (xne_j hj9999z42 hj9999i (by first | decide | omega)) (xn1 (xne_j hj9999z42 hj9999k (by first | decide | omega)) (xn1 (xne_j hj9999z42 hj9999m (by first | decide | omega)) (xn1 (xne_j hj9999z42 hj9999o (by first | decide | omega)) (xn1 (xne_k hk9999z26 hk9999l (by decide)) (xn1 (xne_k hk9999z26 hk9999m (by decide)) xn0)))))))))))) ((hF27.2.1 _ (xn1 (xne_k hk9999z27 hk9999o (by decide)) xn0)).trans ((hF18.2.1 _ (xn1 (xne_k hk9999z27 hk9999n (by decide)) xn0)).trans (hF14.2.1 _ (xn1 (xne_k hk9999z27 hk9999e (by decide)) (xn1 (xne_k hk9999z27 hk9999f (by decide)) (xn1 (xne_k hk9999z27 hk9999g (by decide)) (xn1 (xne_j hj9999z44 hj9999i (by first | decide | omega)) (xn1 (xne_j hj9999z44 hj9999k (by first | decide | omega)) (xn1 (xne_j hj9999z44 hj9999m (by first | decide | omega)) (xn1 (xne_j hj9999z44 hj9999o (by first | decide | omega)) (xn1 (xne_k hk9999z27 hk9999l (by decide)) (xn1 (xne_k hk9999z27 hk9999m (by decide)) xn0)))))))))))) ((hF27.2.1 _ (xn1 (xne_k hk9999z28 hk9999o (by decide)) xn0)).trans ((hF18.2.1 _ (xn1 (xne_k hk9999z28 hk9999n (by decide)) xn0)).trans (hF14.2.1 _ (xn1 (xne_k hk9999z28 hk9999e (by decide)) (xn1 (xne_k hk9999z28 hk9999f (by decide)) (xn1 (xne_k hk9999z28 hk9999g (by decide)) (xn1 (xne_j hj9999z46 hj9999i (by first | decide | omega)) (xn1 (xne_j hj9999z46 hj9999k (by first | decide | omega)) (xn1 (xne_j hj9999z46 hj9999m (by first | decide | omega)) (xn1 (xne_j hj9999z46 hj9999o (by first | decide | omega)) (xn1 (xne_k hk9999z28 hk9999l (by decide)) (xn1 (xne_k hk9999z28 hk9999m (by decide)) xn0)))))))))))) ((hF27.2.1 _ (xn1 (xne_k hk9999z29 hk9999o (by decide)) xn0)).trans ((hF18.2.1 _ (xn1 (xne_k hk9999z29 hk9999n (by decide)) xn0)).trans (hF14.2.1 _ (xn1 (xne_k hk9999z29 hk9999e (by decide)) (xn1 (xne_k hk9999z29 hk9999f (by decide)) (xn1 (xne_k hk9999z29 hk9999g (by decide)) (xn1 (xne_k hk9999z29 hk9999h (by decide)) (xn1 (xne_k hk9999z29 hk9999i (by decide)) (xn1 (xne_k hk9999z29 hk9999j (by decide)) (xn1 (xne_k hk9999z29 hk9999k (by decide)) (xn1 (xne_j hj9999z48 hj9999q (by first | decide | omega)) (xn1 (xne_j hj9999z48 hj9999s (by first | decide | omega)) xn0)))))))))))) ((hF27.2.1 _ (xn1 (xne_k hk9999z30 hk9999o (by decide)) xn0)).trans ((hF18.2.1 _ (xn1 (xne_k hk9999z30 hk9999n (by decide)) xn0)).trans (hF14.2.1 _ (xn1 (xne_k hk9999z30 hk9999e (by decide)) (xn1 (xne_k hk9999z30 hk9999f (by decide)) (xn1 (xne_k hk9999z30 hk9999g (by decide)) (xn1 (xne_k hk9999z30 hk9999h (by decide)) (xn1 (xne_k hk9999z30 hk9999i (by decide)) (xn1 (xne_k hk9999z30 hk9999j (by decide)) (xn1 (xne_k hk9999z30 hk9999k (by decide)) (xn1 (xne_j hj9999z50 hj9999q (by first | decide | omega)) (xn1 (xne_j hj9999z50 hj9999s (by first | decide | omega)) xn0)))))))))))) ((hF27.1 _ _ xn0).trans ((hF18.1 _ _ (xnj (by decide) (xnj (by decide) (xnj (by decide) xn0)))).trans (hF14.1 _ _ (xnj (by decide) (xna (xne_j hj9999d hj9999a (by first | decide | omega)) xn0))))))), (v_X10_actAsOnPaper_30_23 (F := F) a G G27 ron ((hF27.2.1 _ (xn1 (xne_k hk9999w hk9999o (by decide)) xn0)).trans ((hF18.2.1 _ (xn1 (xne_k hk9999w hk9999n (by decide)) xn0)).trans (hF14.2.1 _ (xn1 (xne_k hk9999w hk9999e (by decide)) (xn1 (xne_k hk9999w hk9999f (by decide)) (xn1 (xne_k hk9999w hk9999g (by decide)) (xn1 (xne_k hk9999w hk9999h (by decide)) (xn1 (xne_k hk9999w hk9999i (by decide)) (xn1 (xne_k hk9999w hk9999j (by decide)) (xn1 (xne_k hk9999w hk9999k (by decide)) (xn1 (xne_k hk9999w hk9999l (by decide)) (xn1 (xne_k hk9999w hk9999m (by decide)) xn0)))))))))))) ((hF27.2.1 _ (xn1 (xne_k hk9999y hk9999o (by decide)) xn0)).trans ((hF18.2.1 _ (xn1 (xne_k hk9999y hk9999n (by decide)) xn0)).trans (hF14.2.1 _ (xn1 (xne_j hj9999z38 hj9999e (by first | decide | omega)) (xn1 (xne_j hj9999z38 hj9999f (by first | decide | omega)) (xn1 (xne_k hk9999y hk9999g (by decide)) (xn1 (xne_k hk9999y hk9999h (by decide)) (xn1 (xne_k hk9999y hk9999i (by decide)) (xn1 (xne_k hk9999y hk9999j (by decide)) (xn1 (xne_k hk9999y hk9999k (by decide)) (xn1 (xne_k hk9999y hk9999l (by decide)) (xn1 (xne_k hk9999y hk9999m (by decide)) xn0)))))))))))))⟩ hT
theorem v_X10_set_13_1 {F : Nat → Nat → Nat} (a : Nat) (G : XG) (G4 : XG)
    (ron : RO (vw (G.2.1 (F (F a 3) 0))) (aI (G.2.1 (F (F a 3) 1))))
    (rob : RO (vw (G.2.1 (F (F a 4) 0))) (aI (G.2.1 (F (F a 4) 1))))
    (c_G4_F_F_a_3_0 : G4.2.1 (F (F a 3) 0) = G.2.1 (F (F a 3) 0))
    (c_G4_F_F_a_3_1 : G4.2.1 (F (F a 3) 1) = G.2.1 (F (F a 3) 1)) :
    RO (vw (G4.2.1 (F (F a 3) 0))) (aI (G4.2.1 (F (F a 3) 1))) := by simp only [c_G4_F_F_a_3_0, c_G4_F_F_a_3_1]; assumption
theorem v_X10_set_33_2 {F : Nat → Nat → Nat} (a : Nat) (G : XG) (G13 : XG)
    (ron : RO (vw (G.2.1 (F (F a 3) 0))) (aI (G.2.1 (F (F a 3) 1))))
    (rob : RO (vw (G.2.1 (F (F a 4) 0))) (aI (G.2.1 (F (F a 4) 1))))
    (c_G13_F_F_a_3_0 : G13.2.1 (F (F a 3) 0) = G.2.1 (F (F a 3) 0))
    (c_G13_F_F_a_3_1 : G13.2.1 (F (F a 3) 1) = G.2.1 (F (F a 3) 1)) :
    RO (vw (G13.2.1 (F (F a 3) 0))) (aI (G13.2.1 (F (F a 3) 1))) := by simp only [c_G13_F_F_a_3_0, c_G13_F_F_a_3_1]; assumption
theorem v_X10_set_33_3 {K : Nat → Nat} {F : Nat → Nat → Nat} (a : Nat) (G : XG) (G4 : XG) (G13 : XG) (x13 : Int32) (p0 : Int32) (p1 : Int32) (p2 : Int32) (p3 : Int32)
    (ha : K a = 12)
    (oq13 : (x13.toInt = -1 ∧ ¬ ((0 ≤ p0.toInt ∧ p0.toInt < 3) ∧ (0 ≤ p1.toInt ∧ p1.toInt < 30) ∧ (0 ≤ p2.toInt ∧ p2.toInt < 3) ∧ (p3.toInt = -1000 ∨ (-99 ≤ p3.toInt ∧ p3.toInt ≤ 99)))) ∨ ((0 ≤ p0.toInt ∧ p0.toInt < 3) ∧ (0 ≤ p1.toInt ∧ p1.toInt < 30) ∧ (0 ≤ p2.toInt ∧ p2.toInt < 3) ∧ (p3.toInt = -1000 ∨ (-99 ≤ p3.toInt ∧ p3.toInt ≤ 99)) ∧ ((x13.toInt = -2 ∧ cel (vw (G.2.1 (F (F a 3) 0))) p0.toInt p1.toInt 0 = -2000) ∨ (cel (vw (G.2.1 (F (F a 3) 0))) p0.toInt p1.toInt 0 ≠ -2000 ∧ ((x13.toInt = -4 ∧ cel (vw (G.2.1 (F (F a 3) 0))) p0.toInt p1.toInt p2.toInt = p3.toInt) ∨ (x13.toInt = 0 ∧ cel (vw (G.2.1 (F (F a 3) 0))) p0.toInt p1.toInt p2.toInt ≠ p3.toInt ∧ (vw (G13.2.1 (F (F a 5) 0))) = rset (vw (G.2.1 (F (F a 3) 0))) (90 * p0.toInt + 30 * p2.toInt + p1.toInt) p3.toInt ∧ RO (vw (G13.2.1 (F (F a 5) 0))) (aI (G13.2.1 (F (F a 5) 1)))))))))
    (sb : 0 ≤ ((G.1 (F a 2) 2).toInt) ∧ ((G.1 (F a 2) 2).toInt) ≤ 12)
    (sw : 0 ≤ ((G.1 (F a 8) 6).toInt) ∧ ((G.1 (F a 8) 6).toInt) ≤ 1080)
    (t4 : ((G4.1 (F a 14) 1).toInt) = 0)
    (t13 : -4 ≤ x13.toInt ∧ x13.toInt ≤ 0)
    (c20 : 0 ≤ x13.toInt) :
    RO (vw (G13.2.1 (F (F a 5) 0))) (aI (G13.2.1 (F (F a 5) 1))) := by
  rcases oq13 with ⟨h1, h2⟩ | ⟨v1, v2, v3, v4, ⟨h1, h2⟩ | ⟨h0, ⟨h1, h2⟩ | ⟨h1, h2, h3, h4⟩⟩⟩
  · exfalso; omega
  · exfalso; omega
  · exfalso; omega
  · exact h4
theorem v_X10_set_33_4 {F : Nat → Nat → Nat} (a : Nat) (G : XG) (G13 : XG)
    (ron : RO (vw (G.2.1 (F (F a 3) 0))) (aI (G.2.1 (F (F a 3) 1))))
    (rob : RO (vw (G.2.1 (F (F a 4) 0))) (aI (G.2.1 (F (F a 4) 1))))
    (c_G13_F_F_a_4_0 : G13.2.1 (F (F a 4) 0) = G.2.1 (F (F a 4) 0))
    (c_G13_F_F_a_4_1 : G13.2.1 (F (F a 4) 1) = G.2.1 (F (F a 4) 1)) :
    RO (vw (G13.2.1 (F (F a 4) 0))) (aI (G13.2.1 (F (F a 4) 1))) := by simp only [c_G13_F_F_a_4_0, c_G13_F_F_a_4_1]; assumption
theorem v_X10_set_33_5 {K : Nat → Nat} {F : Nat → Nat → Nat} (a : Nat) (G : XG) (G4 : XG) (G13 : XG) (x13 : Int32) (p0 : Int32) (p1 : Int32) (p2 : Int32) (p3 : Int32)
    (ha : K a = 12)
    (hk9999 : K (F a 11) = 3)
    (hj9999 : F (F a 11) 99 = 0)
    (hk9999a : K (F a 9) = 6)
    (hj9999a : F (F a 9) 99 = 1)
    (hk9999b : K (F a 14) = 11)
    (hj9999b : F (F a 14) 99 = 0)
    (hk9999c : K (F a 10) = 6)
    (hj9999c : F (F a 10) 99 = 2)
    (hk9999d : K (F a 8) = 6)
    (hj9999d : F (F a 8) 99 = 0)
    (hk9999e : K (F (F a 11) 0) = 21)
    (hj9999e : F (F (F a 11) 0) 99 = 100)
    (hk9999f : K (F (F a 11) 1) = 21)
    (hj9999f : F (F (F a 11) 1) 99 = 101)
    (hk9999g : K (F (F a 11) 2) = 24)
    (hj9999g : F (F (F a 11) 2) 99 = 4)
    (hk9999h : K (F (F a 9) 0) = 22)
    (hj9999i : F (F (F a 9) 0) 99 = 10 * 1 + 0)
    (hk9999i : K (F (F a 9) 1) = 22)
    (hj9999k : F (F (F a 9) 1) 99 = 10 * 1 + 1)
    (hk9999j : K (F (F a 9) 2) = 22)
    (hj9999m : F (F (F a 9) 2) 99 = 10 * 1 + 2)
    (hk9999k : K (F (F a 9) 3) = 22)
    (hj9999o : F (F (F a 9) 3) 99 = 10 * 1 + 3)
    (hk9999l : K (F (F a 9) 4) = 23)
    (hj9999q : F (F (F a 9) 4) 99 = 10 * 1 + 4)
    (hk9999m : K (F (F a 9) 5) = 23)
    (hj9999s : F (F (F a 9) 5) 99 = 10 * 1 + 5)
    (hk9999n : K (F a 16) = 27)
    (hj9999t : F (F a 16) 99 = 0)
    (hk9999o : K (F a 15) = 26)
    (hj9999u : F (F a 15) 99 = 0)
    (hk9999p : K (F (F a 10) 0) = 22)
    (hj9999w : F (F (F a 10) 0) 99 = 10 * 2 + 0)
    (hk9999q : K (F (F a 10) 1) = 22)
    (hj9999z25 : F (F (F a 10) 1) 99 = 10 * 2 + 1)
    (hk9999r : K (F (F a 10) 2) = 22)
    (hj9999z27 : F (F (F a 10) 2) 99 = 10 * 2 + 2)
    (hk9999s : K (F (F a 10) 3) = 22)
    (hj9999z29 : F (F (F a 10) 3) 99 = 10 * 2 + 3)
    (hk9999t : K (F (F a 10) 4) = 23)
    (hj9999z31 : F (F (F a 10) 4) 99 = 10 * 2 + 4)
    (hk9999u : K (F (F a 10) 5) = 23)
    (hj9999z33 : F (F (F a 10) 5) 99 = 10 * 2 + 5)
    (hk9999v : K (F a 3) = 8)
    (hj9999z34 : F (F a 3) 99 = 0)
    (hk9999w : K (F (F a 3) 0) = 20)
    (hj9999z36 : F (F (F a 3) 0) 99 = 0)
    (hk9999y : K (F (F a 3) 1) = 21)
    (hj9999z38 : F (F (F a 3) 1) 99 = 0)
    (hk9999z25 : K (F (F a 8) 0) = 22)
    (hj9999z40 : F (F (F a 8) 0) 99 = 10 * 0 + 0)
    (hk9999z26 : K (F (F a 8) 1) = 22)
    (hj9999z42 : F (F (F a 8) 1) 99 = 10 * 0 + 1)
    (hk9999z27 : K (F (F a 8) 2) = 22)
    (hj9999z44 : F (F (F a 8) 2) 99 = 10 * 0 + 2)
    (hk9999z28 : K (F (F a 8) 3) = 22)
    (hj9999z46 : F (F (F a 8) 3) 99 = 10 * 0 + 3)
    (hk9999z29 : K (F (F a 8) 4) = 23)
    (hj9999z48 : F (F (F a 8) 4) 99 = 10 * 0 + 4)
    (hk9999z30 : K (F (F a 8) 5) = 23)
    (hj9999z50 : F (F (F a 8) 5) 99 = 10 * 0 + 5)
    (hk9999z31 : K (F a 5) = 8)
    (hj9999z51 : F (F a 5) 99 = 2)
    (hk9999z32 : K (F (F a 5) 0) = 20)
    (hj9999z53 : F (F (F a 5) 0) 99 = 2)
    (hk9999z33 : K (F (F a 5) 1) = 21)
    (hj9999z55 : F (F (F a 5) 1) 99 = 2)
    (hk9999z34 : K (F a 2) = 2)
    (hj9999z56 : F (F a 2) 99 = 0)
    (hk9999z35 : K (F (F a 2) 1) = 15)
    (hj9999z57 : F (F (F a 2) 1) 99 = 1)
    (hk9999z36 : K (F (F a 2) 0) = 15)
    (hj9999z58 : F (F (F a 2) 0) 99 = 0)
    (hk9999z37 : K (F a 4) = 8)
    (hj9999z59 : F (F a 4) 99 = 1)
    (hk9999z38 : K (F (F a 4) 0) = 20)
    (hj9999z61 : F (F (F a 4) 0) 99 = 1)
    (hk9999z39 : K (F (F a 4) 1) = 21)
    (hj9999z63 : F (F (F a 4) 1) 99 = 1)
    (hF4 : XFr [(F a 14, 1)] [] [] G G4)
    (hF13 : XFr [] [F (F a 5) 0, F (F a 5) 1] [] G4 G13)
    (ron : RO (vw (G.2.1 (F (F a 3) 0))) (aI (G.2.1 (F (F a 3) 1))))
    (rob : RO (vw (G.2.1 (F (F a 4) 0))) (aI (G.2.1 (F (F a 4) 1))))
    (bko : BKr K G (G.2.2.1 (F (F a 2) 1)))
    (bkn : BKr K G (G.2.2.1 (F (F a 2) 0)))
    (oq13 : (x13.toInt = -1 ∧ ¬ ((0 ≤ p0.toInt ∧ p0.toInt < 3) ∧ (0 ≤ p1.toInt ∧ p1.toInt < 30) ∧ (0 ≤ p2.toInt ∧ p2.toInt < 3) ∧ (p3.toInt = -1000 ∨ (-99 ≤ p3.toInt ∧ p3.toInt ≤ 99)))) ∨ ((0 ≤ p0.toInt ∧ p0.toInt < 3) ∧ (0 ≤ p1.toInt ∧ p1.toInt < 30) ∧ (0 ≤ p2.toInt ∧ p2.toInt < 3) ∧ (p3.toInt = -1000 ∨ (-99 ≤ p3.toInt ∧ p3.toInt ≤ 99)) ∧ ((x13.toInt = -2 ∧ cel (vw (G.2.1 (F (F a 3) 0))) p0.toInt p1.toInt 0 = -2000) ∨ (cel (vw (G.2.1 (F (F a 3) 0))) p0.toInt p1.toInt 0 ≠ -2000 ∧ ((x13.toInt = -4 ∧ cel (vw (G.2.1 (F (F a 3) 0))) p0.toInt p1.toInt p2.toInt = p3.toInt) ∨ (x13.toInt = 0 ∧ cel (vw (G.2.1 (F (F a 3) 0))) p0.toInt p1.toInt p2.toInt ≠ p3.toInt ∧ (vw (G13.2.1 (F (F a 5) 0))) = rset (vw (G.2.1 (F (F a 3) 0))) (90 * p0.toInt + 30 * p2.toInt + p1.toInt) p3.toInt ∧ RO (vw (G13.2.1 (F (F a 5) 0))) (aI (G13.2.1 (F (F a 5) 1)))))))))
    (sb : 0 ≤ ((G.1 (F a 2) 2).toInt) ∧ ((G.1 (F a 2) 2).toInt) ≤ 12)
    (sw : 0 ≤ ((G.1 (F a 8) 6).toInt) ∧ ((G.1 (F a 8) 6).toInt) ≤ 1080)
    (t4 : ((G4.1 (F a 14) 1).toInt) = 0)
    (t13 : -4 ≤ x13.toInt ∧ x13.toInt ≤ 0)
    (c20 : 0 ≤ x13.toInt)
    (c_G13_F_F_a_10_0 : G13.2.1 (F (F a 10) 0) = G.2.1 (F (F a 10) 0))
    (c_G13_F_F_a_10_1 : G13.2.1 (F (F a 10) 1) = G.2.1 (F (F a 10) 1))
    (c_G13_F_F_a_10_2 : G13.2.1 (F (F a 10) 2) = G.2.1 (F (F a 10) 2))
    (c_G13_F_F_a_10_3 : G13.2.1 (F (F a 10) 3) = G.2.1 (F (F a 10) 3))
    (c_G13_F_F_a_10_4 : G13.2.1 (F (F a 10) 4) = G.2.1 (F (F a 10) 4))
    (c_G13_F_F_a_10_5 : G13.2.1 (F (F a 10) 5) = G.2.1 (F (F a 10) 5))
    (c_G13_F_F_a_11_0 : G13.2.1 (F (F a 11) 0) = G.2.1 (F (F a 11) 0))
    (c_G13_F_F_a_11_1 : G13.2.1 (F (F a 11) 1) = G.2.1 (F (F a 11) 1))
    (c_G13_F_F_a_11_2 : G13.2.1 (F (F a 11) 2) = G.2.1 (F (F a 11) 2))
    (c_G13_F_F_a_3_0 : G13.2.1 (F (F a 3) 0) = G.2.1 (F (F a 3) 0))
    (c_G13_F_F_a_3_1 : G13.2.1 (F (F a 3) 1) = G.2.1 (F (F a 3) 1))
    (c_G13_F_F_a_8_0 : G13.2.1 (F (F a 8) 0) = G.2.1 (F (F a 8) 0))
    (c_G13_F_F_a_8_1 : G13.2.1 (F (F a 8) 1) = G.2.1 (F (F a 8) 1))
    (c_G13_F_F_a_8_2 : G13.2.1 (F (F a 8) 2) = G.2.1 (F (F a 8) 2))
    (c_G13_F_F_a_8_3 : G13.2.1 (F (F a 8) 3) = G.2.1 (F (F a 8) 3))
    (c_G13_F_F_a_8_4 : G13.2.1 (F (F a 8) 4) = G.2.1 (F (F a 8) 4))
    (c_G13_F_F_a_8_5 : G13.2.1 (F (F a 8) 5) = G.2.1 (F (F a 8) 5))
    (c_G13_F_F_a_9_0 : G13.2.1 (F (F a 9) 0) = G.2.1 (F (F a 9) 0))
    (c_G13_F_F_a_9_1 : G13.2.1 (F (F a 9) 1) = G.2.1 (F (F a 9) 1))
    (c_G13_F_F_a_9_2 : G13.2.1 (F (F a 9) 2) = G.2.1 (F (F a 9) 2))
    (c_G13_F_F_a_9_3 : G13.2.1 (F (F a 9) 3) = G.2.1 (F (F a 9) 3))
    (c_G13_F_F_a_9_4 : G13.2.1 (F (F a 9) 4) = G.2.1 (F (F a 9) 4))
    (c_G13_F_F_a_9_5 : G13.2.1 (F (F a 9) 5) = G.2.1 (F (F a 9) 5))
    (c_G13_F_a_15 : G13.2.1 (F a 15) = G.2.1 (F a 15))
    (c_G13_F_a_16 : G13.2.1 (F a 16) = G.2.1 (F a 16))
    (r_G13_F_F_a_2_1 : G13.2.2.1 (F (F a 2) 1) = G.2.2.1 (F (F a 2) 1))
    (d_G13_F_a_10_6 : G13.1 (F a 10) 6 = G.1 (F a 10) 6)
    (d_G13_F_a_11_3 : G13.1 (F a 11) 3 = G.1 (F a 11) 3)
    (d_G13_F_a_14_1 : G13.1 (F a 14) 1 = G4.1 (F a 14) 1)
    (d_G13_F_a_14_2 : G13.1 (F a 14) 2 = G.1 (F a 14) 2)
    (d_G13_F_a_14_3 : G13.1 (F a 14) 3 = G.1 (F a 14) 3)
    (d_G13_F_a_8_6 : G13.1 (F a 8) 6 = G.1 (F a 8) 6)
    (d_G13_F_a_9_6 : G13.1 (F a 9) 6 = G.1 (F a 9) 6) :
    BKr K G13 (G13.2.2.1 (F (F a 2) 1)) := by
  have hd1 : ∀ p, p ∈ [(F a 14, 1)] → K p.1 ≠ 9 := (List.forall_mem_cons.mpr ⟨(show K (F a 14) ≠ 9 by omega), fun _ h => by cases h⟩)
  have hd0 : ∀ p, p ∈ ([] : List (Nat × Nat)) → K p.1 ≠ 9 := fun _ h => by cases h
  rw [show G13.2.2.1 (F (F a 2) 1) = G.2.2.1 (F (F a 2) 1) by assumption]
  exact (bko.fr hF4 hd1).fr hF13 hd0
theorem v_X10_set_33_6 {K : Nat → Nat} {F : Nat → Nat → Nat} (a : Nat) (G : XG) (G4 : XG) (G13 : XG) (x13 : Int32) (p0 : Int32) (p1 : Int32) (p2 : Int32) (p3 : Int32)
    (ha : K a = 12)
    (hk9999 : K (F a 11) = 3)
    (hj9999 : F (F a 11) 99 = 0)
    (hk9999a : K (F a 9) = 6)
    (hj9999a : F (F a 9) 99 = 1)
    (hk9999b : K (F a 14) = 11)
    (hj9999b : F (F a 14) 99 = 0)
    (hk9999c : K (F a 10) = 6)
    (hj9999c : F (F a 10) 99 = 2)
    (hk9999d : K (F a 8) = 6)
    (hj9999d : F (F a 8) 99 = 0)
    (hk9999e : K (F (F a 11) 0) = 21)
    (hj9999e : F (F (F a 11) 0) 99 = 100)
    (hk9999f : K (F (F a 11) 1) = 21)
    (hj9999f : F (F (F a 11) 1) 99 = 101)
    (hk9999g : K (F (F a 11) 2) = 24)
    (hj9999g : F (F (F a 11) 2) 99 = 4)
    (hk9999h : K (F (F a 9) 0) = 22)
    (hj9999i : F (F (F a 9) 0) 99 = 10 * 1 + 0)
    (hk9999i : K (F (F a 9) 1) = 22)
    (hj9999k : F (F (F a 9) 1) 99 = 10 * 1 + 1)
    (hk9999j : K (F (F a 9) 2) = 22)
    (hj9999m : F (F (F a 9) 2) 99 = 10 * 1 + 2)
    (hk9999k : K (F (F a 9) 3) = 22)
    (hj9999o : F (F (F a 9) 3) 99 = 10 * 1 + 3)
    (hk9999l : K (F (F a 9) 4) = 23)
    (hj9999q : F (F (F a 9) 4) 99 = 10 * 1 + 4)
    (hk9999m : K (F (F a 9) 5) = 23)
    (hj9999s : F (F (F a 9) 5) 99 = 10 * 1 + 5)
    (hk9999n : K (F a 16) = 27)
    (hj9999t : F (F a 16) 99 = 0)
    (hk9999o : K (F a 15) = 26)
    (hj9999u : F (F a 15) 99 = 0)
    (hk9999p : K (F (F a 10) 0) = 22)
    (hj9999w : F (F (F a 10) 0) 99 = 10 * 2 + 0)
    (hk9999q : K (F (F a 10) 1) = 22)
    (hj9999z25 : F (F (F a 10) 1) 99 = 10 * 2 + 1)
    (hk9999r : K (F (F a 10) 2) = 22)
    (hj9999z27 : F (F (F a 10) 2) 99 = 10 * 2 + 2)
    (hk9999s : K (F (F a 10) 3) = 22)
    (hj9999z29 : F (F (F a 10) 3) 99 = 10 * 2 + 3)
    (hk9999t : K (F (F a 10) 4) = 23)
    (hj9999z31 : F (F (F a 10) 4) 99 = 10 * 2 + 4)
    (hk9999u : K (F (F a 10) 5) = 23)
    (hj9999z33 : F (F (F a 10) 5) 99 = 10 * 2 + 5)
    (hk9999v : K (F a 3) = 8)
    (hj9999z34 : F (F a 3) 99 = 0)
    (hk9999w : K (F (F a 3) 0) = 20)
    (hj9999z36 : F (F (F a 3) 0) 99 = 0)
    (hk9999y : K (F (F a 3) 1) = 21)
    (hj9999z38 : F (F (F a 3) 1) 99 = 0)
    (hk9999z25 : K (F (F a 8) 0) = 22)
    (hj9999z40 : F (F (F a 8) 0) 99 = 10 * 0 + 0)
    (hk9999z26 : K (F (F a 8) 1) = 22)
    (hj9999z42 : F (F (F a 8) 1) 99 = 10 * 0 + 1)
    (hk9999z27 : K (F (F a 8) 2) = 22)
    (hj9999z44 : F (F (F a 8) 2) 99 = 10 * 0 + 2)
    (hk9999z28 : K (F (F a 8) 3) = 22)
    (hj9999z46 : F (F (F a 8) 3) 99 = 10 * 0 + 3)
    (hk9999z29 : K (F (F a 8) 4) = 23)
    (hj9999z48 : F (F (F a 8) 4) 99 = 10 * 0 + 4)
    (hk9999z30 : K (F (F a 8) 5) = 23)
    (hj9999z50 : F (F (F a 8) 5) 99 = 10 * 0 + 5)
    (hk9999z31 : K (F a 5) = 8)
    (hj9999z51 : F (F a 5) 99 = 2)
    (hk9999z32 : K (F (F a 5) 0) = 20)
    (hj9999z53 : F (F (F a 5) 0) 99 = 2)
    (hk9999z33 : K (F (F a 5) 1) = 21)
    (hj9999z55 : F (F (F a 5) 1) 99 = 2)
    (hk9999z34 : K (F a 2) = 2)
    (hj9999z56 : F (F a 2) 99 = 0)
    (hk9999z35 : K (F (F a 2) 1) = 15)
    (hj9999z57 : F (F (F a 2) 1) 99 = 1)
    (hk9999z36 : K (F (F a 2) 0) = 15)
    (hj9999z58 : F (F (F a 2) 0) 99 = 0)
    (hk9999z37 : K (F a 4) = 8)
    (hj9999z59 : F (F a 4) 99 = 1)
    (hk9999z38 : K (F (F a 4) 0) = 20)
    (hj9999z61 : F (F (F a 4) 0) 99 = 1)
    (hk9999z39 : K (F (F a 4) 1) = 21)
    (hj9999z63 : F (F (F a 4) 1) 99 = 1)
    (hF4 : XFr [(F a 14, 1)] [] [] G G4)
    (hF13 : XFr [] [F (F a 5) 0, F (F a 5) 1] [] G4 G13)
    (ron : RO (vw (G.2.1 (F (F a 3) 0))) (aI (G.2.1 (F (F a 3) 1))))
    (rob : RO (vw (G.2.1 (F (F a 4) 0))) (aI (G.2.1 (F (F a 4) 1))))
    (bko : BKr K G (G.2.2.1 (F (F a 2) 1)))
    (bkn : BKr K G (G.2.2.1 (F (F a 2) 0)))
    (oq13 : (x13.toInt = -1 ∧ ¬ ((0 ≤ p0.toInt ∧ p0.toInt < 3) ∧ (0 ≤ p1.toInt ∧ p1.toInt < 30) ∧ (0 ≤ p2.toInt ∧ p2.toInt < 3) ∧ (p3.toInt = -1000 ∨ (-99 ≤ p3.toInt ∧ p3.toInt ≤ 99)))) ∨ ((0 ≤ p0.toInt ∧ p0.toInt < 3) ∧ (0 ≤ p1.toInt ∧ p1.toInt < 30) ∧ (0 ≤ p2.toInt ∧ p2.toInt < 3) ∧ (p3.toInt = -1000 ∨ (-99 ≤ p3.toInt ∧ p3.toInt ≤ 99)) ∧ ((x13.toInt = -2 ∧ cel (vw (G.2.1 (F (F a 3) 0))) p0.toInt p1.toInt 0 = -2000) ∨ (cel (vw (G.2.1 (F (F a 3) 0))) p0.toInt p1.toInt 0 ≠ -2000 ∧ ((x13.toInt = -4 ∧ cel (vw (G.2.1 (F (F a 3) 0))) p0.toInt p1.toInt p2.toInt = p3.toInt) ∨ (x13.toInt = 0 ∧ cel (vw (G.2.1 (F (F a 3) 0))) p0.toInt p1.toInt p2.toInt ≠ p3.toInt ∧ (vw (G13.2.1 (F (F a 5) 0))) = rset (vw (G.2.1 (F (F a 3) 0))) (90 * p0.toInt + 30 * p2.toInt + p1.toInt) p3.toInt ∧ RO (vw (G13.2.1 (F (F a 5) 0))) (aI (G13.2.1 (F (F a 5) 1)))))))))
    (sb : 0 ≤ ((G.1 (F a 2) 2).toInt) ∧ ((G.1 (F a 2) 2).toInt) ≤ 12)
    (sw : 0 ≤ ((G.1 (F a 8) 6).toInt) ∧ ((G.1 (F a 8) 6).toInt) ≤ 1080)
    (t4 : ((G4.1 (F a 14) 1).toInt) = 0)
    (t13 : -4 ≤ x13.toInt ∧ x13.toInt ≤ 0)
    (c20 : 0 ≤ x13.toInt)
    (c_G13_F_F_a_10_0 : G13.2.1 (F (F a 10) 0) = G.2.1 (F (F a 10) 0))
    (c_G13_F_F_a_10_1 : G13.2.1 (F (F a 10) 1) = G.2.1 (F (F a 10) 1))
    (c_G13_F_F_a_10_2 : G13.2.1 (F (F a 10) 2) = G.2.1 (F (F a 10) 2))
    (c_G13_F_F_a_10_3 : G13.2.1 (F (F a 10) 3) = G.2.1 (F (F a 10) 3))
    (c_G13_F_F_a_10_4 : G13.2.1 (F (F a 10) 4) = G.2.1 (F (F a 10) 4))
    (c_G13_F_F_a_10_5 : G13.2.1 (F (F a 10) 5) = G.2.1 (F (F a 10) 5))
    (c_G13_F_F_a_11_0 : G13.2.1 (F (F a 11) 0) = G.2.1 (F (F a 11) 0))
    (c_G13_F_F_a_11_1 : G13.2.1 (F (F a 11) 1) = G.2.1 (F (F a 11) 1))
    (c_G13_F_F_a_11_2 : G13.2.1 (F (F a 11) 2) = G.2.1 (F (F a 11) 2))
    (c_G13_F_F_a_3_0 : G13.2.1 (F (F a 3) 0) = G.2.1 (F (F a 3) 0))
    (c_G13_F_F_a_3_1 : G13.2.1 (F (F a 3) 1) = G.2.1 (F (F a 3) 1))
    (c_G13_F_F_a_8_0 : G13.2.1 (F (F a 8) 0) = G.2.1 (F (F a 8) 0))
    (c_G13_F_F_a_8_1 : G13.2.1 (F (F a 8) 1) = G.2.1 (F (F a 8) 1))
    (c_G13_F_F_a_8_2 : G13.2.1 (F (F a 8) 2) = G.2.1 (F (F a 8) 2))
    (c_G13_F_F_a_8_3 : G13.2.1 (F (F a 8) 3) = G.2.1 (F (F a 8) 3))
    (c_G13_F_F_a_8_4 : G13.2.1 (F (F a 8) 4) = G.2.1 (F (F a 8) 4))
    (c_G13_F_F_a_8_5 : G13.2.1 (F (F a 8) 5) = G.2.1 (F (F a 8) 5))
    (c_G13_F_F_a_9_0 : G13.2.1 (F (F a 9) 0) = G.2.1 (F (F a 9) 0))
    (c_G13_F_F_a_9_1 : G13.2.1 (F (F a 9) 1) = G.2.1 (F (F a 9) 1))
    (c_G13_F_F_a_9_2 : G13.2.1 (F (F a 9) 2) = G.2.1 (F (F a 9) 2))
    (c_G13_F_F_a_9_3 : G13.2.1 (F (F a 9) 3) = G.2.1 (F (F a 9) 3))
    (c_G13_F_F_a_9_4 : G13.2.1 (F (F a 9) 4) = G.2.1 (F (F a 9) 4))
    (c_G13_F_F_a_9_5 : G13.2.1 (F (F a 9) 5) = G.2.1 (F (F a 9) 5))
    (c_G13_F_a_15 : G13.2.1 (F a 15) = G.2.1 (F a 15))
    (c_G13_F_a_16 : G13.2.1 (F a 16) = G.2.1 (F a 16))
    (r_G13_F_F_a_2_0 : G13.2.2.1 (F (F a 2) 0) = G.2.2.1 (F (F a 2) 0))
    (r_G13_F_F_a_2_1 : G13.2.2.1 (F (F a 2) 1) = G.2.2.1 (F (F a 2) 1))
    (d_G13_F_a_10_6 : G13.1 (F a 10) 6 = G.1 (F a 10) 6)
    (d_G13_F_a_11_3 : G13.1 (F a 11) 3 = G.1 (F a 11) 3)
    (d_G13_F_a_14_1 : G13.1 (F a 14) 1 = G4.1 (F a 14) 1)
    (d_G13_F_a_14_2 : G13.1 (F a 14) 2 = G.1 (F a 14) 2)
    (d_G13_F_a_14_3 : G13.1 (F a 14) 3 = G.1 (F a 14) 3)
    (d_G13_F_a_8_6 : G13.1 (F a 8) 6 = G.1 (F a 8) 6)
    (d_G13_F_a_9_6 : G13.1 (F a 9) 6 = G.1 (F a 9) 6) :
    BKr K G13 (G13.2.2.1 (F (F a 2) 0)) := by
  have hd1 : ∀ p, p ∈ [(F a 14, 1)] → K p.1 ≠ 9 := (List.forall_mem_cons.mpr ⟨(show K (F a 14) ≠ 9 by omega), fun _ h => by cases h⟩)
  have hd0 : ∀ p, p ∈ ([] : List (Nat × Nat)) → K p.1 ≠ 9 := fun _ h => by cases h
  rw [show G13.2.2.1 (F (F a 2) 0) = G.2.2.1 (F (F a 2) 0) by assumption]
  exact (bkn.fr hF4 hd1).fr hF13 hd0
theorem v_X10_set_36_7 {K : Nat → Nat} {F : Nat → Nat → Nat} (a : Nat) (G : XG) (G4 : XG) (G13 : XG) (G33 : XG) (x13 : Int32) (p0 : Int32) (p1 : Int32) (p2 : Int32) (p3 : Int32) (x33 : Int32)
    (ha : K a = 12)
    (hk9999 : K (F a 11) = 3)
    (hj9999 : F (F a 11) 99 = 0)
    (hk9999a : K (F a 9) = 6)
    (hj9999a : F (F a 9) 99 = 1)
    (hk9999b : K (F a 14) = 11)
    (hj9999b : F (F a 14) 99 = 0)
    (hk9999c : K (F a 10) = 6)
    (hj9999c : F (F a 10) 99 = 2)
    (hk9999d : K (F a 8) = 6)
    (hj9999d : F (F a 8) 99 = 0)
    (hk9999e : K (F (F a 11) 0) = 21)
    (hj9999e : F (F (F a 11) 0) 99 = 100)
    (hk9999f : K (F (F a 11) 1) = 21)
    (hj9999f : F (F (F a 11) 1) 99 = 101)
    (hk9999g : K (F (F a 11) 2) = 24)
    (hj9999g : F (F (F a 11) 2) 99 = 4)
    (hk9999h : K (F (F a 9) 0) = 22)
    (hj9999i : F (F (F a 9) 0) 99 = 10 * 1 + 0)
    (hk9999i : K (F (F a 9) 1) = 22)
    (hj9999k : F (F (F a 9) 1) 99 = 10 * 1 + 1)
    (hk9999j : K (F (F a 9) 2) = 22)
    (hj9999m : F (F (F a 9) 2) 99 = 10 * 1 + 2)
    (hk9999k : K (F (F a 9) 3) = 22)
    (hj9999o : F (F (F a 9) 3) 99 = 10 * 1 + 3)
    (hk9999l : K (F (F a 9) 4) = 23)
    (hj9999q : F (F (F a 9) 4) 99 = 10 * 1 + 4)
    (hk9999m : K (F (F a 9) 5) = 23)
    (hj9999s : F (F (F a 9) 5) 99 = 10 * 1 + 5)
    (hk9999n : K (F a 16) = 27)
    (hj9999t : F (F a 16) 99 = 0)
    (hk9999o : K (F a 15) = 26)
    (hj9999u : F (F a 15) 99 = 0)
    (hk9999p : K (F (F a 10) 0) = 22)
    (hj9999w : F (F (F a 10) 0) 99 = 10 * 2 + 0)
    (hk9999q : K (F (F a 10) 1) = 22)
    (hj9999z25 : F (F (F a 10) 1) 99 = 10 * 2 + 1)
    (hk9999r : K (F (F a 10) 2) = 22)
    (hj9999z27 : F (F (F a 10) 2) 99 = 10 * 2 + 2)
    (hk9999s : K (F (F a 10) 3) = 22)
    (hj9999z29 : F (F (F a 10) 3) 99 = 10 * 2 + 3)
    (hk9999t : K (F (F a 10) 4) = 23)
    (hj9999z31 : F (F (F a 10) 4) 99 = 10 * 2 + 4)
    (hk9999u : K (F (F a 10) 5) = 23)
    (hj9999z33 : F (F (F a 10) 5) 99 = 10 * 2 + 5)
    (hk9999v : K (F a 3) = 8)
    (hj9999z34 : F (F a 3) 99 = 0)
    (hk9999w : K (F (F a 3) 0) = 20)
    (hj9999z36 : F (F (F a 3) 0) 99 = 0)
    (hk9999y : K (F (F a 3) 1) = 21)
    (hj9999z38 : F (F (F a 3) 1) 99 = 0)
    (hk9999z25 : K (F (F a 8) 0) = 22)
    (hj9999z40 : F (F (F a 8) 0) 99 = 10 * 0 + 0)
    (hk9999z26 : K (F (F a 8) 1) = 22)
    (hj9999z42 : F (F (F a 8) 1) 99 = 10 * 0 + 1)
    (hk9999z27 : K (F (F a 8) 2) = 22)
    (hj9999z44 : F (F (F a 8) 2) 99 = 10 * 0 + 2)
    (hk9999z28 : K (F (F a 8) 3) = 22)
    (hj9999z46 : F (F (F a 8) 3) 99 = 10 * 0 + 3)
    (hk9999z29 : K (F (F a 8) 4) = 23)
    (hj9999z48 : F (F (F a 8) 4) 99 = 10 * 0 + 4)
    (hk9999z30 : K (F (F a 8) 5) = 23)
    (hj9999z50 : F (F (F a 8) 5) 99 = 10 * 0 + 5)
    (hk9999z31 : K (F a 5) = 8)
    (hj9999z51 : F (F a 5) 99 = 2)
    (hk9999z32 : K (F (F a 5) 0) = 20)
    (hj9999z53 : F (F (F a 5) 0) 99 = 2)
    (hk9999z33 : K (F (F a 5) 1) = 21)
    (hj9999z55 : F (F (F a 5) 1) 99 = 2)
    (hk9999z34 : K (F a 2) = 2)
    (hj9999z56 : F (F a 2) 99 = 0)
    (hk9999z35 : K (F (F a 2) 1) = 15)
    (hj9999z57 : F (F (F a 2) 1) 99 = 1)
    (hk9999z36 : K (F (F a 2) 0) = 15)
    (hj9999z58 : F (F (F a 2) 0) 99 = 0)
    (hk9999z37 : K (F a 4) = 8)
    (hj9999z59 : F (F a 4) 99 = 1)
    (hk9999z38 : K (F (F a 4) 0) = 20)
    (hj9999z61 : F (F (F a 4) 0) 99 = 1)
    (hk9999z39 : K (F (F a 4) 1) = 21)
    (hj9999z63 : F (F (F a 4) 1) 99 = 1)
    (hF4 : XFr [(F a 14, 1)] [] [] G G4)
    (hF13 : XFr [] [F (F a 5) 0, F (F a 5) 1] [] G4 G13)
    (bko : BKr K G (G.2.2.1 (F (F a 2) 1)))
    (oq13 : (x13.toInt = -1 ∧ ¬ ((0 ≤ p0.toInt ∧ p0.toInt < 3) ∧ (0 ≤ p1.toInt ∧ p1.toInt < 30) ∧ (0 ≤ p2.toInt ∧ p2.toInt < 3) ∧ (p3.toInt = -1000 ∨ (-99 ≤ p3.toInt ∧ p3.toInt ≤ 99)))) ∨ ((0 ≤ p0.toInt ∧ p0.toInt < 3) ∧ (0 ≤ p1.toInt ∧ p1.toInt < 30) ∧ (0 ≤ p2.toInt ∧ p2.toInt < 3) ∧ (p3.toInt = -1000 ∨ (-99 ≤ p3.toInt ∧ p3.toInt ≤ 99)) ∧ ((x13.toInt = -2 ∧ cel (vw (G.2.1 (F (F a 3) 0))) p0.toInt p1.toInt 0 = -2000) ∨ (cel (vw (G.2.1 (F (F a 3) 0))) p0.toInt p1.toInt 0 ≠ -2000 ∧ ((x13.toInt = -4 ∧ cel (vw (G.2.1 (F (F a 3) 0))) p0.toInt p1.toInt p2.toInt = p3.toInt) ∨ (x13.toInt = 0 ∧ cel (vw (G.2.1 (F (F a 3) 0))) p0.toInt p1.toInt p2.toInt ≠ p3.toInt ∧ (vw (G13.2.1 (F (F a 5) 0))) = rset (vw (G.2.1 (F (F a 3) 0))) (90 * p0.toInt + 30 * p2.toInt + p1.toInt) p3.toInt ∧ RO (vw (G13.2.1 (F (F a 5) 0))) (aI (G13.2.1 (F (F a 5) 1)))))))))
    (oq33 : ActR ((G.1 a 18).toInt) x33.toInt (gaL G13 (G13.2.2.1 (F (F a 2) 1)) (vw (G.2.1 (F (F a 3) 0))) (vw (G13.2.1 (F (F a 5) 0))) 0 (((G.1 (F a 2) 2).toInt)).toNat) (vw (G.2.1 (F (F a 3) 0))) (vw (G33.2.1 (F (F a 3) 0))) (vw (G13.2.1 (F (F a 5) 0))) (qL G13 F (F a 8)) (qL G33 F (F a 8)) (gaL G13 (G13.2.2.1 (F (F a 2) 1)) (vw (G.2.1 (F (F a 4) 0))) (vw (G13.2.1 (F (F a 5) 0))) 1 (((G.1 (F a 2) 2).toInt)).toNat))
    (sb : 0 ≤ ((G.1 (F a 2) 2).toInt) ∧ ((G.1 (F a 2) 2).toInt) ≤ 12)
    (sw : 0 ≤ ((G.1 (F a 8) 6).toInt) ∧ ((G.1 (F a 8) 6).toInt) ≤ 1080)
    (t4 : ((G4.1 (F a 14) 1).toInt) = 0)
    (t13 : -4 ≤ x13.toInt ∧ x13.toInt ≤ 0)
    (c20 : 0 ≤ x13.toInt)
    (t33 : 0 ≤ ((G33.1 (F a 8) 6).toInt) ∧ ((G33.1 (F a 8) 6).toInt) ≤ 1080)
    (c_G13_F_F_a_8_0 : G13.2.1 (F (F a 8) 0) = G.2.1 (F (F a 8) 0))
    (c_G13_F_F_a_8_1 : G13.2.1 (F (F a 8) 1) = G.2.1 (F (F a 8) 1))
    (c_G13_F_F_a_8_2 : G13.2.1 (F (F a 8) 2) = G.2.1 (F (F a 8) 2))
    (c_G13_F_F_a_8_3 : G13.2.1 (F (F a 8) 3) = G.2.1 (F (F a 8) 3))
    (c_G13_F_F_a_8_4 : G13.2.1 (F (F a 8) 4) = G.2.1 (F (F a 8) 4))
    (c_G13_F_F_a_8_5 : G13.2.1 (F (F a 8) 5) = G.2.1 (F (F a 8) 5))
    (r_G13_F_F_a_2_1 : G13.2.2.1 (F (F a 2) 1) = G.2.2.1 (F (F a 2) 1))
    (d_G13_F_a_8_6 : G13.1 (F a 8) 6 = G.1 (F a 8) 6) :
    (x33.toInt = -1 ∧ ¬ ((0 ≤ p0.toInt ∧ p0.toInt < 3) ∧ (0 ≤ p1.toInt ∧ p1.toInt < 30) ∧ (0 ≤ p2.toInt ∧ p2.toInt < 3) ∧ (p3.toInt = -1000 ∨ (-99 ≤ p3.toInt ∧ p3.toInt ≤ 99))) ∧ ((vw (G33.2.1 (F (F a 3) 0))) = (vw (G.2.1 (F (F a 3) 0))) ∧ qL G33 F (F a 8) = qL G F (F a 8))) ∨ (((0 ≤ p0.toInt ∧ p0.toInt < 3) ∧ (0 ≤ p1.toInt ∧ p1.toInt < 30) ∧ (0 ≤ p2.toInt ∧ p2.toInt < 3) ∧ (p3.toInt = -1000 ∨ (-99 ≤ p3.toInt ∧ p3.toInt ≤ 99))) ∧ x33.toInt = -2 ∧ cel (vw (G.2.1 (F (F a 3) 0))) p0.toInt p1.toInt 0 = -2000 ∧ ((vw (G33.2.1 (F (F a 3) 0))) = (vw (G.2.1 (F (F a 3) 0))) ∧ qL G33 F (F a 8) = qL G F (F a 8))) ∨ (((0 ≤ p0.toInt ∧ p0.toInt < 3) ∧ (0 ≤ p1.toInt ∧ p1.toInt < 30) ∧ (0 ≤ p2.toInt ∧ p2.toInt < 3) ∧ (p3.toInt = -1000 ∨ (-99 ≤ p3.toInt ∧ p3.toInt ≤ 99))) ∧ cel (vw (G.2.1 (F (F a 3) 0))) p0.toInt p1.toInt 0 ≠ -2000 ∧ x33.toInt = -4 ∧ cel (vw (G.2.1 (F (F a 3) 0))) p0.toInt p1.toInt p2.toInt = p3.toInt ∧ ((vw (G33.2.1 (F (F a 3) 0))) = (vw (G.2.1 (F (F a 3) 0))) ∧ qL G33 F (F a 8) = qL G F (F a 8))) ∨ (((0 ≤ p0.toInt ∧ p0.toInt < 3) ∧ (0 ≤ p1.toInt ∧ p1.toInt < 30) ∧ (0 ≤ p2.toInt ∧ p2.toInt < 3) ∧ (p3.toInt = -1000 ∨ (-99 ≤ p3.toInt ∧ p3.toInt ≤ 99))) ∧ cel (vw (G.2.1 (F (F a 3) 0))) p0.toInt p1.toInt 0 ≠ -2000 ∧ cel (vw (G.2.1 (F (F a 3) 0))) p0.toInt p1.toInt p2.toInt ≠ p3.toInt ∧ ActR ((G.1 a 18).toInt) x33.toInt (gaL G (G.2.2.1 (F (F a 2) 1)) (vw (G.2.1 (F (F a 3) 0))) (rset (vw (G.2.1 (F (F a 3) 0))) (90 * p0.toInt + 30 * p2.toInt + p1.toInt) p3.toInt) 0 (((G.1 (F a 2) 2).toInt)).toNat) (vw (G.2.1 (F (F a 3) 0))) (vw (G33.2.1 (F (F a 3) 0))) (rset (vw (G.2.1 (F (F a 3) 0))) (90 * p0.toInt + 30 * p2.toInt + p1.toInt) p3.toInt) (qL G F (F a 8)) (qL G33 F (F a 8)) (gaL G (G.2.2.1 (F (F a 2) 1)) (vw (G.2.1 (F (F a 4) 0))) (rset (vw (G.2.1 (F (F a 3) 0))) (90 * p0.toInt + 30 * p2.toInt + p1.toInt) p3.toInt) 1 (((G.1 (F a 2) 2).toInt)).toNat)) := by
  rcases oq13 with ⟨h1, h2⟩ | ⟨v1, v2, v3, v4, ⟨h1, h2⟩ | ⟨h0, ⟨h1, h2⟩ | ⟨h1, h2, h3, h4⟩⟩⟩
  · first
      | (exfalso; omega)
      | exact Or.inl ⟨h1, fun h => h2 h, by rw [c_G26_F_F_a_3_0], qL_cg d_G26_F_a_8_6 c_G26_F_F_a_8_0 c_G26_F_F_a_8_1 c_G26_F_F_a_8_2 c_G26_F_F_a_8_3 c_G26_F_F_a_8_4 c_G26_F_F_a_8_5⟩
  · first
      | (exfalso; omega)
      | exact Or.inr (Or.inl ⟨⟨v1, v2, v3, v4⟩, h1, h2, by rw [c_G26_F_F_a_3_0], qL_cg d_G26_F_a_8_6 c_G26_F_F_a_8_0 c_G26_F_F_a_8_1 c_G26_F_F_a_8_2 c_G26_F_F_a_8_3 c_G26_F_F_a_8_4 c_G26_F_F_a_8_5⟩)
  · first
      | (exfalso; omega)
      | exact Or.inr (Or.inr (Or.inl ⟨⟨v1, v2, v3, v4⟩, h0, h1, h2, by rw [c_G26_F_F_a_3_0], qL_cg d_G26_F_a_8_6 c_G26_F_F_a_8_0 c_G26_F_F_a_8_1 c_G26_F_F_a_8_2 c_G26_F_F_a_8_3 c_G26_F_F_a_8_4 c_G26_F_F_a_8_5⟩))
  · first
      | (exfalso; omega)
      | (have hd1 : ∀ p, p ∈ [(F a 14, 1)] → K p.1 ≠ 9 := (List.forall_mem_cons.mpr ⟨(show K (F a 14) ≠ 9 by omega), fun _ h => by cases h⟩)
         have hd0 : ∀ p, p ∈ ([] : List (Nat × Nat)) → K p.1 ≠ 9 := fun _ h => by cases h
         have hc : ∀ (i q : Nat), i < ((G.1 (F a 2) 2).toInt).toNat → G.2.2.1 (F (F a 2) 1) i = some q → G13.1 q = G.1 q := fun i q hi hq => by
           have hk := (bko i q (by omega) hq).1
           exact (hF13.rule hd0 hk).trans (hF4.rule hd1 hk)
         have eq8 : qL G13 F (F a 8) = qL G F (F a 8) := qL_cg d_G13_F_a_8_6 c_G13_F_F_a_8_0 c_G13_F_F_a_8_1 c_G13_F_F_a_8_2 c_G13_F_F_a_8_3 c_G13_F_F_a_8_4 c_G13_F_F_a_8_5
         rw [h3, r_G13_F_F_a_2_1, gaL_cg hc, gaL_cg hc, eq8] at oq33
         exact Or.inr (Or.inr (Or.inr ⟨⟨v1, v2, v3, v4⟩, h0, h2, oq33⟩)))
theorem v_X10_set_36_8 {F : Nat → Nat → Nat} (a : Nat) (G : XG) (G33 : XG)
    (ron : RO (vw (G.2.1 (F (F a 3) 0))) (aI (G.2.1 (F (F a 3) 1))))
    (oq33a : RO (vw (G33.2.1 (F (F a 3) 0))) (aI (G33.2.1 (F (F a 3) 1)))) :
    RO (vw (G33.2.1 (F (F a 3) 0))) (aI (G33.2.1 (F (F a 3) 1))) := by
  first
    | exact oq33a
    | (rw [c_G26_F_F_a_3_0, c_G26_F_F_a_3_1]; exact ron)
theorem v_X10_set_36_9 {K : Nat → Nat} {F : Nat → Nat → Nat} (a : Nat) (G : XG) (G4 : XG) (G13 : XG) (G26 : XG) (x13 : Int32) (p0 : Int32) (p1 : Int32) (p2 : Int32) (p3 : Int32)
    (ha : K a = 12)
    (hk9999 : K (F a 11) = 3)
    (hj9999 : F (F a 11) 99 = 0)
    (hk9999a : K (F a 9) = 6)
    (hj9999a : F (F a 9) 99 = 1)
    (hk9999b : K (F a 14) = 11)
    (hj9999b : F (F a 14) 99 = 0)
    (hk9999c : K (F a 10) = 6)
    (hj9999c : F (F a 10) 99 = 2)
    (hk9999d : K (F a 8) = 6)
    (hj9999d : F (F a 8) 99 = 0)
    (hk9999e : K (F (F a 11) 0) = 21)
    (hj9999e : F (F (F a 11) 0) 99 = 100)
    (hk9999f : K (F (F a 11) 1) = 21)
    (hj9999f : F (F (F a 11) 1) 99 = 101)
    (hk9999g : K (F (F a 11) 2) = 24)
    (hj9999g : F (F (F a 11) 2) 99 = 4)
    (hk9999h : K (F (F a 9) 0) = 22)
    (hj9999i : F (F (F a 9) 0) 99 = 10 * 1 + 0)
    (hk9999i : K (F (F a 9) 1) = 22)
    (hj9999k : F (F (F a 9) 1) 99 = 10 * 1 + 1)
    (hk9999j : K (F (F a 9) 2) = 22)
    (hj9999m : F (F (F a 9) 2) 99 = 10 * 1 + 2)
    (hk9999k : K (F (F a 9) 3) = 22)
    (hj9999o : F (F (F a 9) 3) 99 = 10 * 1 + 3)
    (hk9999l : K (F (F a 9) 4) = 23)
    (hj9999q : F (F (F a 9) 4) 99 = 10 * 1 + 4)
    (hk9999m : K (F (F a 9) 5) = 23)
    (hj9999s : F (F (F a 9) 5) 99 = 10 * 1 + 5)
    (hk9999n : K (F a 16) = 27)
    (hj9999t : F (F a 16) 99 = 0)
    (hk9999o : K (F a 15) = 26)
    (hj9999u : F (F a 15) 99 = 0)
    (hk9999p : K (F (F a 10) 0) = 22)
    (hj9999w : F (F (F a 10) 0) 99 = 10 * 2 + 0)
    (hk9999q : K (F (F a 10) 1) = 22)
    (hj9999z25 : F (F (F a 10) 1) 99 = 10 * 2 + 1)
    (hk9999r : K (F (F a 10) 2) = 22)
    (hj9999z27 : F (F (F a 10) 2) 99 = 10 * 2 + 2)
    (hk9999s : K (F (F a 10) 3) = 22)
    (hj9999z29 : F (F (F a 10) 3) 99 = 10 * 2 + 3)
    (hk9999t : K (F (F a 10) 4) = 23)
    (hj9999z31 : F (F (F a 10) 4) 99 = 10 * 2 + 4)
    (hk9999u : K (F (F a 10) 5) = 23)
    (hj9999z33 : F (F (F a 10) 5) 99 = 10 * 2 + 5)
    (hk9999v : K (F a 3) = 8)
    (hj9999z34 : F (F a 3) 99 = 0)
    (hk9999w : K (F (F a 3) 0) = 20)
    (hj9999z36 : F (F (F a 3) 0) 99 = 0)
    (hk9999y : K (F (F a 3) 1) = 21)
    (hj9999z38 : F (F (F a 3) 1) 99 = 0)
    (hk9999z25 : K (F (F a 8) 0) = 22)
    (hj9999z40 : F (F (F a 8) 0) 99 = 10 * 0 + 0)
    (hk9999z26 : K (F (F a 8) 1) = 22)
    (hj9999z42 : F (F (F a 8) 1) 99 = 10 * 0 + 1)
    (hk9999z27 : K (F (F a 8) 2) = 22)
    (hj9999z44 : F (F (F a 8) 2) 99 = 10 * 0 + 2)
    (hk9999z28 : K (F (F a 8) 3) = 22)
    (hj9999z46 : F (F (F a 8) 3) 99 = 10 * 0 + 3)
    (hk9999z29 : K (F (F a 8) 4) = 23)
    (hj9999z48 : F (F (F a 8) 4) 99 = 10 * 0 + 4)
    (hk9999z30 : K (F (F a 8) 5) = 23)
    (hj9999z50 : F (F (F a 8) 5) 99 = 10 * 0 + 5)
    (hk9999z31 : K (F a 5) = 8)
    (hj9999z51 : F (F a 5) 99 = 2)
    (hk9999z32 : K (F (F a 5) 0) = 20)
    (hj9999z53 : F (F (F a 5) 0) 99 = 2)
    (hk9999z33 : K (F (F a 5) 1) = 21)
    (hj9999z55 : F (F (F a 5) 1) 99 = 2)
    (hk9999z34 : K (F a 2) = 2)
    (hj9999z56 : F (F a 2) 99 = 0)
    (hk9999z35 : K (F (F a 2) 1) = 15)
    (hj9999z57 : F (F (F a 2) 1) 99 = 1)
    (hk9999z36 : K (F (F a 2) 0) = 15)
    (hj9999z58 : F (F (F a 2) 0) 99 = 0)
    (hk9999z37 : K (F a 4) = 8)
    (hj9999z59 : F (F a 4) 99 = 1)
    (hk9999z38 : K (F (F a 4) 0) = 20)
    (hj9999z61 : F (F (F a 4) 0) 99 = 1)
    (hk9999z39 : K (F (F a 4) 1) = 21)
    (hj9999z63 : F (F (F a 4) 1) 99 = 1)
    (hF4 : XFr [(F a 14, 1)] [] [] G G4)
    (hF13 : XFr [] [F (F a 5) 0, F (F a 5) 1] [] G4 G13)
    (bko : BKr K G (G.2.2.1 (F (F a 2) 1)))
    (oq13 : (x13.toInt = -1 ∧ ¬ ((0 ≤ p0.toInt ∧ p0.toInt < 3) ∧ (0 ≤ p1.toInt ∧ p1.toInt < 30) ∧ (0 ≤ p2.toInt ∧ p2.toInt < 3) ∧ (p3.toInt = -1000 ∨ (-99 ≤ p3.toInt ∧ p3.toInt ≤ 99)))) ∨ ((0 ≤ p0.toInt ∧ p0.toInt < 3) ∧ (0 ≤ p1.toInt ∧ p1.toInt < 30) ∧ (0 ≤ p2.toInt ∧ p2.toInt < 3) ∧ (p3.toInt = -1000 ∨ (-99 ≤ p3.toInt ∧ p3.toInt ≤ 99)) ∧ ((x13.toInt = -2 ∧ cel (vw (G.2.1 (F (F a 3) 0))) p0.toInt p1.toInt 0 = -2000) ∨ (cel (vw (G.2.1 (F (F a 3) 0))) p0.toInt p1.toInt 0 ≠ -2000 ∧ ((x13.toInt = -4 ∧ cel (vw (G.2.1 (F (F a 3) 0))) p0.toInt p1.toInt p2.toInt = p3.toInt) ∨ (x13.toInt = 0 ∧ cel (vw (G.2.1 (F (F a 3) 0))) p0.toInt p1.toInt p2.toInt ≠ p3.toInt ∧ (vw (G13.2.1 (F (F a 5) 0))) = rset (vw (G.2.1 (F (F a 3) 0))) (90 * p0.toInt + 30 * p2.toInt + p1.toInt) p3.toInt ∧ RO (vw (G13.2.1 (F (F a 5) 0))) (aI (G13.2.1 (F (F a 5) 1)))))))))
    (sb : 0 ≤ ((G.1 (F a 2) 2).toInt) ∧ ((G.1 (F a 2) 2).toInt) ≤ 12)
    (sw : 0 ≤ ((G.1 (F a 8) 6).toInt) ∧ ((G.1 (F a 8) 6).toInt) ≤ 1080)
    (t4 : ((G4.1 (F a 14) 1).toInt) = 0)
    (t13 : -4 ≤ x13.toInt ∧ x13.toInt ≤ 0)
    (c20 : ¬ (0 ≤ x13.toInt))
    (c_G13_F_F_a_8_0 : G13.2.1 (F (F a 8) 0) = G.2.1 (F (F a 8) 0))
    (c_G13_F_F_a_8_1 : G13.2.1 (F (F a 8) 1) = G.2.1 (F (F a 8) 1))
    (c_G13_F_F_a_8_2 : G13.2.1 (F (F a 8) 2) = G.2.1 (F (F a 8) 2))
    (c_G13_F_F_a_8_3 : G13.2.1 (F (F a 8) 3) = G.2.1 (F (F a 8) 3))
    (c_G13_F_F_a_8_4 : G13.2.1 (F (F a 8) 4) = G.2.1 (F (F a 8) 4))
    (c_G13_F_F_a_8_5 : G13.2.1 (F (F a 8) 5) = G.2.1 (F (F a 8) 5))
    (c_G26_F_F_a_3_0 : G26.2.1 (F (F a 3) 0) = G.2.1 (F (F a 3) 0))
    (c_G26_F_F_a_8_0 : G26.2.1 (F (F a 8) 0) = G.2.1 (F (F a 8) 0))
    (c_G26_F_F_a_8_1 : G26.2.1 (F (F a 8) 1) = G.2.1 (F (F a 8) 1))
    (c_G26_F_F_a_8_2 : G26.2.1 (F (F a 8) 2) = G.2.1 (F (F a 8) 2))
    (c_G26_F_F_a_8_3 : G26.2.1 (F (F a 8) 3) = G.2.1 (F (F a 8) 3))
    (c_G26_F_F_a_8_4 : G26.2.1 (F (F a 8) 4) = G.2.1 (F (F a 8) 4))
    (c_G26_F_F_a_8_5 : G26.2.1 (F (F a 8) 5) = G.2.1 (F (F a 8) 5))
    (r_G13_F_F_a_2_1 : G13.2.2.1 (F (F a 2) 1) = G.2.2.1 (F (F a 2) 1))
    (d_G13_F_a_8_6 : G13.1 (F a 8) 6 = G.1 (F a 8) 6)
    (d_G26_F_a_8_6 : G26.1 (F a 8) 6 = G.1 (F a 8) 6) :
    (x13.toInt = -1 ∧ ¬ ((0 ≤ p0.toInt ∧ p0.toInt < 3) ∧ (0 ≤ p1.toInt ∧ p1.toInt < 30) ∧ (0 ≤ p2.toInt ∧ p2.toInt < 3) ∧ (p3.toInt = -1000 ∨ (-99 ≤ p3.toInt ∧ p3.toInt ≤ 99))) ∧ ((vw (G26.2.1 (F (F a 3) 0))) = (vw (G.2.1 (F (F a 3) 0))) ∧ qL G26 F (F a 8) = qL G F (F a 8))) ∨ (((0 ≤ p0.toInt ∧ p0.toInt < 3) ∧ (0 ≤ p1.toInt ∧ p1.toInt < 30) ∧ (0 ≤ p2.toInt ∧ p2.toInt < 3) ∧ (p3.toInt = -1000 ∨ (-99 ≤ p3.toInt ∧ p3.toInt ≤ 99))) ∧ x13.toInt = -2 ∧ cel (vw (G.2.1 (F (F a 3) 0))) p0.toInt p1.toInt 0 = -2000 ∧ ((vw (G26.2.1 (F (F a 3) 0))) = (vw (G.2.1 (F (F a 3) 0))) ∧ qL G26 F (F a 8) = qL G F (F a 8))) ∨ (((0 ≤ p0.toInt ∧ p0.toInt < 3) ∧ (0 ≤ p1.toInt ∧ p1.toInt < 30) ∧ (0 ≤ p2.toInt ∧ p2.toInt < 3) ∧ (p3.toInt = -1000 ∨ (-99 ≤ p3.toInt ∧ p3.toInt ≤ 99))) ∧ cel (vw (G.2.1 (F (F a 3) 0))) p0.toInt p1.toInt 0 ≠ -2000 ∧ x13.toInt = -4 ∧ cel (vw (G.2.1 (F (F a 3) 0))) p0.toInt p1.toInt p2.toInt = p3.toInt ∧ ((vw (G26.2.1 (F (F a 3) 0))) = (vw (G.2.1 (F (F a 3) 0))) ∧ qL G26 F (F a 8) = qL G F (F a 8))) ∨ (((0 ≤ p0.toInt ∧ p0.toInt < 3) ∧ (0 ≤ p1.toInt ∧ p1.toInt < 30) ∧ (0 ≤ p2.toInt ∧ p2.toInt < 3) ∧ (p3.toInt = -1000 ∨ (-99 ≤ p3.toInt ∧ p3.toInt ≤ 99))) ∧ cel (vw (G.2.1 (F (F a 3) 0))) p0.toInt p1.toInt 0 ≠ -2000 ∧ cel (vw (G.2.1 (F (F a 3) 0))) p0.toInt p1.toInt p2.toInt ≠ p3.toInt ∧ ActR ((G.1 a 18).toInt) x13.toInt (gaL G (G.2.2.1 (F (F a 2) 1)) (vw (G.2.1 (F (F a 3) 0))) (rset (vw (G.2.1 (F (F a 3) 0))) (90 * p0.toInt + 30 * p2.toInt + p1.toInt) p3.toInt) 0 (((G.1 (F a 2) 2).toInt)).toNat) (vw (G.2.1 (F (F a 3) 0))) (vw (G26.2.1 (F (F a 3) 0))) (rset (vw (G.2.1 (F (F a 3) 0))) (90 * p0.toInt + 30 * p2.toInt + p1.toInt) p3.toInt) (qL G F (F a 8)) (qL G26 F (F a 8)) (gaL G (G.2.2.1 (F (F a 2) 1)) (vw (G.2.1 (F (F a 4) 0))) (rset (vw (G.2.1 (F (F a 3) 0))) (90 * p0.toInt + 30 * p2.toInt + p1.toInt) p3.toInt) 1 (((G.1 (F a 2) 2).toInt)).toNat)) := by
  rcases oq13 with ⟨h1, h2⟩ | ⟨v1, v2, v3, v4, ⟨h1, h2⟩ | ⟨h0, ⟨h1, h2⟩ | ⟨h1, h2, h3, h4⟩⟩⟩
  · first
      | (exfalso; omega)
      | exact Or.inl ⟨h1, fun h => h2 h, by rw [c_G26_F_F_a_3_0], qL_cg d_G26_F_a_8_6 c_G26_F_F_a_8_0 c_G26_F_F_a_8_1 c_G26_F_F_a_8_2 c_G26_F_F_a_8_3 c_G26_F_F_a_8_4 c_G26_F_F_a_8_5⟩
  · first
      | (exfalso; omega)
      | exact Or.inr (Or.inl ⟨⟨v1, v2, v3, v4⟩, h1, h2, by rw [c_G26_F_F_a_3_0], qL_cg d_G26_F_a_8_6 c_G26_F_F_a_8_0 c_G26_F_F_a_8_1 c_G26_F_F_a_8_2 c_G26_F_F_a_8_3 c_G26_F_F_a_8_4 c_G26_F_F_a_8_5⟩)
  · first
      | (exfalso; omega)
      | exact Or.inr (Or.inr (Or.inl ⟨⟨v1, v2, v3, v4⟩, h0, h1, h2, by rw [c_G26_F_F_a_3_0], qL_cg d_G26_F_a_8_6 c_G26_F_F_a_8_0 c_G26_F_F_a_8_1 c_G26_F_F_a_8_2 c_G26_F_F_a_8_3 c_G26_F_F_a_8_4 c_G26_F_F_a_8_5⟩))
  · first
      | (exfalso; omega)
      | (have hd1 : ∀ p, p ∈ [(F a 14, 1)] → K p.1 ≠ 9 := (List.forall_mem_cons.mpr ⟨(show K (F a 14) ≠ 9 by omega), fun _ h => by cases h⟩)
         have hd0 : ∀ p, p ∈ ([] : List (Nat × Nat)) → K p.1 ≠ 9 := fun _ h => by cases h
         have hc : ∀ (i q : Nat), i < ((G.1 (F a 2) 2).toInt).toNat → G.2.2.1 (F (F a 2) 1) i = some q → G13.1 q = G.1 q := fun i q hi hq => by
           have hk := (bko i q (by omega) hq).1
           exact (hF13.rule hd0 hk).trans (hF4.rule hd1 hk)
         have eq8 : qL G13 F (F a 8) = qL G F (F a 8) := qL_cg d_G13_F_a_8_6 c_G13_F_F_a_8_0 c_G13_F_F_a_8_1 c_G13_F_F_a_8_2 c_G13_F_F_a_8_3 c_G13_F_F_a_8_4 c_G13_F_F_a_8_5
         rw [h3, r_G13_F_F_a_2_1, gaL_cg hc, gaL_cg hc, eq8] at oq33
         exact Or.inr (Or.inr (Or.inr ⟨⟨v1, v2, v3, v4⟩, h0, h2, oq33⟩)))
theorem v_X10_set_36_10 {F : Nat → Nat → Nat} (a : Nat) (G : XG) (G26 : XG)
    (ron : RO (vw (G.2.1 (F (F a 3) 0))) (aI (G.2.1 (F (F a 3) 1))))
    (c_G26_F_F_a_3_0 : G26.2.1 (F (F a 3) 0) = G.2.1 (F (F a 3) 0))
    (c_G26_F_F_a_3_1 : G26.2.1 (F (F a 3) 1) = G.2.1 (F (F a 3) 1)) :
    RO (vw (G26.2.1 (F (F a 3) 0))) (aI (G26.2.1 (F (F a 3) 1))) := by
  first
    | exact oq33a
    | (rw [c_G26_F_F_a_3_0, c_G26_F_F_a_3_1]; exact ron)
abbrev rm_X10_set : Room := { frames := 10, cells := 15, slots := 1500, locals := 236 }
set_option maxHeartbeats 4000000 in
set_option maxRecDepth 100000 in
theorem c_X10_set (l : Launch) (E : XE) (K : Nat → Nat) (F : Nat → Nat → Nat) (G : XG) (a : Nat) (p0 : Int32) (p1 : Int32) (p2 : Int32) (p3 : Int32) (ha : K a = 12) (sb : 0 ≤ ((G.1 (F a 2) 2).toInt) ∧ ((G.1 (F a 2) 2).toInt) ≤ 12) (sw : 0 ≤ ((G.1 (F a 8) 6).toInt) ∧ ((G.1 (F a 8) 6).toInt) ≤ 1080) (ron : RO (vw (G.2.1 (F (F a 3) 0))) (aI (G.2.1 (F (F a 3) 1)))) (rob : RO (vw (G.2.1 (F (F a 4) 0))) (aI (G.2.1 (F (F a 4) 1)))) (bko : BKr K G (G.2.2.1 (F (F a 2) 1))) (bkn : BKr K G (G.2.2.1 (F (F a 2) 0))) : Met l yX10_set (xw yX10_set cX10_set 6 (some .int)) rm_X10_set (va_Pc [.ref a, .int p0, .int p1, .int p2, .int p3] (XP E K F G)) (XQ E (fun v (u : XG) => ∃ r : Int32, v = .int r ∧ XFr [(F a 11, 3), (F a 9, 6), (F a 14, 1), (F a 14, 2), (F a 14, 3), (F a 10, 6), (F a 8, 6)] [F (F a 11) 0, F (F a 11) 1, F (F a 11) 2, F (F a 9) 0, F (F a 9) 1, F (F a 9) 2, F (F a 9) 3, F (F a 9) 4, F (F a 9) 5, F a 16, F a 15, F (F a 10) 0, F (F a 10) 1, F (F a 10) 2, F (F a 10) 3, F (F a 10) 4, F (F a 10) 5, F (F a 3) 0, F (F a 3) 1, F (F a 8) 0, F (F a 8) 1, F (F a 8) 2, F (F a 8) 3, F (F a 8) 4, F (F a 8) 5, F (F a 5) 0, F (F a 5) 1] [] G u ∧ (0 ≤ ((u.1 (F a 8) 6).toInt) ∧ ((u.1 (F a 8) 6).toInt) ≤ 1080) ∧ ((r.toInt = -1 ∧ ¬ ((0 ≤ p0.toInt ∧ p0.toInt < 3) ∧ (0 ≤ p1.toInt ∧ p1.toInt < 30) ∧ (0 ≤ p2.toInt ∧ p2.toInt < 3) ∧ (p3.toInt = -1000 ∨ (-99 ≤ p3.toInt ∧ p3.toInt ≤ 99))) ∧ ((vw (u.2.1 (F (F a 3) 0))) = (vw (G.2.1 (F (F a 3) 0))) ∧ qL u F (F a 8) = qL G F (F a 8))) ∨ (((0 ≤ p0.toInt ∧ p0.toInt < 3) ∧ (0 ≤ p1.toInt ∧ p1.toInt < 30) ∧ (0 ≤ p2.toInt ∧ p2.toInt < 3) ∧ (p3.toInt = -1000 ∨ (-99 ≤ p3.toInt ∧ p3.toInt ≤ 99))) ∧ r.toInt = -2 ∧ cel (vw (G.2.1 (F (F a 3) 0))) p0.toInt p1.toInt 0 = -2000 ∧ ((vw (u.2.1 (F (F a 3) 0))) = (vw (G.2.1 (F (F a 3) 0))) ∧ qL u F (F a 8) = qL G F (F a 8))) ∨ (((0 ≤ p0.toInt ∧ p0.toInt < 3) ∧ (0 ≤ p1.toInt ∧ p1.toInt < 30) ∧ (0 ≤ p2.toInt ∧ p2.toInt < 3) ∧ (p3.toInt = -1000 ∨ (-99 ≤ p3.toInt ∧ p3.toInt ≤ 99))) ∧ cel (vw (G.2.1 (F (F a 3) 0))) p0.toInt p1.toInt 0 ≠ -2000 ∧ r.toInt = -4 ∧ cel (vw (G.2.1 (F (F a 3) 0))) p0.toInt p1.toInt p2.toInt = p3.toInt ∧ ((vw (u.2.1 (F (F a 3) 0))) = (vw (G.2.1 (F (F a 3) 0))) ∧ qL u F (F a 8) = qL G F (F a 8))) ∨ (((0 ≤ p0.toInt ∧ p0.toInt < 3) ∧ (0 ≤ p1.toInt ∧ p1.toInt < 30) ∧ (0 ≤ p2.toInt ∧ p2.toInt < 3) ∧ (p3.toInt = -1000 ∨ (-99 ≤ p3.toInt ∧ p3.toInt ≤ 99))) ∧ cel (vw (G.2.1 (F (F a 3) 0))) p0.toInt p1.toInt 0 ≠ -2000 ∧ cel (vw (G.2.1 (F (F a 3) 0))) p0.toInt p1.toInt p2.toInt ≠ p3.toInt ∧ ActR ((G.1 a 18).toInt) r.toInt (gaL G (G.2.2.1 (F (F a 2) 1)) (vw (G.2.1 (F (F a 3) 0))) (rset (vw (G.2.1 (F (F a 3) 0))) (90 * p0.toInt + 30 * p2.toInt + p1.toInt) p3.toInt) 0 (((G.1 (F a 2) 2).toInt)).toNat) (vw (G.2.1 (F (F a 3) 0))) (vw (u.2.1 (F (F a 3) 0))) (rset (vw (G.2.1 (F (F a 3) 0))) (90 * p0.toInt + 30 * p2.toInt + p1.toInt) p3.toInt) (qL G F (F a 8)) (qL u F (F a 8)) (gaL G (G.2.2.1 (F (F a 2) 1)) (vw (G.2.1 (F (F a 4) 0))) (rset (vw (G.2.1 (F (F a 3) 0))) (90 * p0.toInt + 30 * p2.toInt + p1.toInt) p3.toInt) 1 (((G.1 (F a 2) 2).toInt)).toNat))) ∧ (RO (vw (u.2.1 (F (F a 3) 0))) (aI (u.2.1 (F (F a 3) 1))))) (fun u H => TW E K F u H)) 15 1500 (xA E) := by
  refine x_enter (by decide) (Nat.le_of_ble_eq_true rfl) ?_
  intro p e s m args below meth c Q S hr hlk hnm hQ hP ls hl
  obtain ⟨hz, hK, hT⟩ := hP
  obtain ⟨hx, hb, -, -, -⟩ := id S
  obtain ⟨H, hT, hS, hgo⟩ : ∃ H : Heap, TW E K F G H ∧ va_S (xA E) s.heap H [] ∧ H = s.heap := ⟨_, hT, va_S.rf, rfl⟩
  rw [← hgo]
  have hl : lv_has ls 6 [(0, .ref a), (1, .int p0), (2, .int p1), (3, .int p2), (4, .int p3)] := hl
  obtain ⟨hk9999, hj9999⟩ := fkX10_11 hT ha
  obtain ⟨hk9999a, hj9999a⟩ := fkX10_9 hT ha
  obtain ⟨hk9999b, hj9999b⟩ := fkX10_14 hT ha
  obtain ⟨hk9999c, hj9999c⟩ := fkX10_10 hT ha
  obtain ⟨hk9999d, hj9999d⟩ := fkX10_8 hT ha
  obtain ⟨hk9999e, hj9999e⟩ := fkX1_0 hT hk9999
  obtain ⟨hk9999f, hj9999f⟩ := fkX1_1 hT hk9999
  obtain ⟨hk9999g, hj9999g⟩ := fkX1_2 hT hk9999
  obtain ⟨hk9999h, hj9999h⟩ := fkX4_0 hT hk9999a
  have hj9999i : F (F (F a 9) 0) 99 = 10 * 1 + 0 := by rw [hj9999h, hj9999a]
  obtain ⟨hk9999i, hj9999j⟩ := fkX4_1 hT hk9999a
  have hj9999k : F (F (F a 9) 1) 99 = 10 * 1 + 1 := by rw [hj9999j, hj9999a]
  obtain ⟨hk9999j, hj9999l⟩ := fkX4_2 hT hk9999a
  have hj9999m : F (F (F a 9) 2) 99 = 10 * 1 + 2 := by rw [hj9999l, hj9999a]
  obtain ⟨hk9999k, hj9999n⟩ := fkX4_3 hT hk9999a
  have hj9999o : F (F (F a 9) 3) 99 = 10 * 1 + 3 := by rw [hj9999n, hj9999a]
  obtain ⟨hk9999l, hj9999p⟩ := fkX4_4 hT hk9999a
  have hj9999q : F (F (F a 9) 4) 99 = 10 * 1 + 4 := by rw [hj9999p, hj9999a]
  obtain ⟨hk9999m, hj9999r⟩ := fkX4_5 hT hk9999a
  have hj9999s : F (F (F a 9) 5) 99 = 10 * 1 + 5 := by rw [hj9999r, hj9999a]
  obtain ⟨hk9999n, hj9999t⟩ := fkX10_16 hT ha
  obtain ⟨hk9999o, hj9999u⟩ := fkX10_15 hT ha
  obtain ⟨hk9999p, hj9999v⟩ := fkX4_0 hT hk9999c
  have hj9999w : F (F (F a 10) 0) 99 = 10 * 2 + 0 := by rw [hj9999v, hj9999c]
  obtain ⟨hk9999q, hj9999y⟩ := fkX4_1 hT hk9999c
  have hj9999z25 : F (F (F a 10) 1) 99 = 10 * 2 + 1 := by rw [hj9999y, hj9999c]
  obtain ⟨hk9999r, hj9999z26⟩ := fkX4_2 hT hk9999c
  have hj9999z27 : F (F (F a 10) 2) 99 = 10 * 2 + 2 := by rw [hj9999z26, hj9999c]
  obtain ⟨hk9999s, hj9999z28⟩ := fkX4_3 hT hk9999c
  have hj9999z29 : F (F (F a 10) 3) 99 = 10 * 2 + 3 := by rw [hj9999z28, hj9999c]
  obtain ⟨hk9999t, hj9999z30⟩ := fkX4_4 hT hk9999c
  have hj9999z31 : F (F (F a 10) 4) 99 = 10 * 2 + 4 := by rw [hj9999z30, hj9999c]
  obtain ⟨hk9999u, hj9999z32⟩ := fkX4_5 hT hk9999c
  have hj9999z33 : F (F (F a 10) 5) 99 = 10 * 2 + 5 := by rw [hj9999z32, hj9999c]
  obtain ⟨hk9999v, hj9999z34⟩ := fkX10_3 hT ha
  obtain ⟨hk9999w, hj9999z35⟩ := fkX6_0 hT hk9999v
  have hj9999z36 : F (F (F a 3) 0) 99 = 0 := by rw [hj9999z35, hj9999z34]
  obtain ⟨hk9999y, hj9999z37⟩ := fkX6_1 hT hk9999v
  have hj9999z38 : F (F (F a 3) 1) 99 = 0 := by rw [hj9999z37, hj9999z34]
  obtain ⟨hk9999z25, hj9999z39⟩ := fkX4_0 hT hk9999d
  have hj9999z40 : F (F (F a 8) 0) 99 = 10 * 0 + 0 := by rw [hj9999z39, hj9999d]
  obtain ⟨hk9999z26, hj9999z41⟩ := fkX4_1 hT hk9999d
  have hj9999z42 : F (F (F a 8) 1) 99 = 10 * 0 + 1 := by rw [hj9999z41, hj9999d]
  obtain ⟨hk9999z27, hj9999z43⟩ := fkX4_2 hT hk9999d
  have hj9999z44 : F (F (F a 8) 2) 99 = 10 * 0 + 2 := by rw [hj9999z43, hj9999d]
  obtain ⟨hk9999z28, hj9999z45⟩ := fkX4_3 hT hk9999d
  have hj9999z46 : F (F (F a 8) 3) 99 = 10 * 0 + 3 := by rw [hj9999z45, hj9999d]
  obtain ⟨hk9999z29, hj9999z47⟩ := fkX4_4 hT hk9999d
  have hj9999z48 : F (F (F a 8) 4) 99 = 10 * 0 + 4 := by rw [hj9999z47, hj9999d]
  obtain ⟨hk9999z30, hj9999z49⟩ := fkX4_5 hT hk9999d
  have hj9999z50 : F (F (F a 8) 5) 99 = 10 * 0 + 5 := by rw [hj9999z49, hj9999d]
  obtain ⟨hk9999z31, hj9999z51⟩ := fkX10_5 hT ha
  obtain ⟨hk9999z32, hj9999z52⟩ := fkX6_0 hT hk9999z31
  have hj9999z53 : F (F (F a 5) 0) 99 = 2 := by rw [hj9999z52, hj9999z51]
  obtain ⟨hk9999z33, hj9999z54⟩ := fkX6_1 hT hk9999z31
  have hj9999z55 : F (F (F a 5) 1) 99 = 2 := by rw [hj9999z54, hj9999z51]
  obtain ⟨hk9999z34, hj9999z56⟩ := fkX10_2 hT ha
  obtain ⟨hk9999z35, hj9999z57⟩ := fkX0_1 hT hk9999z34
  obtain ⟨hk9999z36, hj9999z58⟩ := fkX0_0 hT hk9999z34
  obtain ⟨hk9999z37, hj9999z59⟩ := fkX10_4 hT ha
  obtain ⟨hk9999z38, hj9999z60⟩ := fkX6_0 hT hk9999z37
  have hj9999z61 : F (F (F a 4) 0) 99 = 1 := by rw [hj9999z60, hj9999z59]
  obtain ⟨hk9999z39, hj9999z62⟩ := fkX6_1 hT hk9999z37
  have hj9999z63 : F (F (F a 4) 1) 99 = 1 := by rw [hj9999z62, hj9999z59]
  refine lv_aload_n hx hb dX10_set_0 rfl (lv_at hl 0 rfl) ?_
  refine gX10_14 S hK hT ha kf_X10_91 dX10_set_1 (fun _ _ => ?_)
  refine x_cv (x_runV (b := (F a 14)) (As := []) (rest := []) S (c_X9_clear l E K F G (F a 14) hk9999b) mv_X9_clear km_X10_113 rfl rfl ⟨Nat.le_of_ble_eq_true rfl, Nat.le_of_ble_eq_true rfl⟩ (rc_11 hK hT hk9999b) hK (fun _ => XP.blind) (fun U hU hW => XP.at hK hz hS hT hU hW) rfl hl.1 (Nat.le_of_ble_eq_true rfl) dX10_set_4 ⟨Nat.le_of_ble_eq_true rfl, Nat.le_of_ble_eq_true rfl⟩) hS ?_
  rintro G4 H locs ⟨hF4, t4⟩ hT hS
  have t4 : ((G4.1 (F a 14) 1).toInt) = 0 := t4
  refine lv_aload_n hx hb dX10_set_7 rfl (lv_at hl 0 rfl) ?_
  refine lv_iload_n hx hb dX10_set_8 rfl (lv_at hl 1 rfl) ?_
  refine lv_iload_n hx hb dX10_set_9 rfl (lv_at hl 2 rfl) ?_
  refine lv_iload_n hx hb dX10_set_10 rfl (lv_at hl 3 rfl) ?_
  refine lv_iload hx hb dX10_set_11 (lv_at hl 4 rfl) ?_
  refine x_cl0 (x_runV (b := a) (As := [.int p0, .int p1, .int p2, .int p3]) (rest := []) S (c_X10_setOnPaper l E K F G4 a p0 p1 p2 p3 ha (v_X10_set_13_1 (F := F) a G G4 ron rob (hF4.2.1 _ xn0) (hF4.2.1 _ xn0))) mv_X10_setOnPaper km_X10_210 rfl rfl ⟨Nat.le_of_ble_eq_true rfl, Nat.le_of_ble_eq_true rfl⟩ (rc_12 hK hT ha) hK (fun _ => XP.blind) (fun U hU hW => XP.at hK hz hS hT hU hW) rfl hl.1 (Nat.le_of_ble_eq_true rfl) dX10_set_13 ⟨Nat.le_of_ble_eq_true rfl, Nat.le_of_ble_eq_true rfl⟩) hS ?_
  rintro _ G13 H locs ⟨x13, rfl, hF13, t13, oq13⟩ hT hS
  have t13 : -4 ≤ x13.toInt ∧ x13.toInt ≤ 0 := t13
  have oq13 : (x13.toInt = -1 ∧ ¬ ((0 ≤ p0.toInt ∧ p0.toInt < 3) ∧ (0 ≤ p1.toInt ∧ p1.toInt < 30) ∧ (0 ≤ p2.toInt ∧ p2.toInt < 3) ∧ (p3.toInt = -1000 ∨ (-99 ≤ p3.toInt ∧ p3.toInt ≤ 99)))) ∨ ((0 ≤ p0.toInt ∧ p0.toInt < 3) ∧ (0 ≤ p1.toInt ∧ p1.toInt < 30) ∧ (0 ≤ p2.toInt ∧ p2.toInt < 3) ∧ (p3.toInt = -1000 ∨ (-99 ≤ p3.toInt ∧ p3.toInt ≤ 99)) ∧ ((x13.toInt = -2 ∧ cel (vw (G.2.1 (F (F a 3) 0))) p0.toInt p1.toInt 0 = -2000) ∨ (cel (vw (G.2.1 (F (F a 3) 0))) p0.toInt p1.toInt 0 ≠ -2000 ∧ ((x13.toInt = -4 ∧ cel (vw (G.2.1 (F (F a 3) 0))) p0.toInt p1.toInt p2.toInt = p3.toInt) ∨ (x13.toInt = 0 ∧ cel (vw (G.2.1 (F (F a 3) 0))) p0.toInt p1.toInt p2.toInt ≠ p3.toInt ∧ (vw (G13.2.1 (F (F a 5) 0))) = rset (vw (G.2.1 (F (F a 3) 0))) (90 * p0.toInt + 30 * p2.toInt + p1.toInt) p3.toInt ∧ RO (vw (G13.2.1 (F (F a 5) 0))) (aI (G13.2.1 (F (F a 5) 1)))))))) := by simp only [(show G4.2.1 (F (F a 3) 0) = G.2.1 (F (F a 3) 0) from (hF4.2.1 _ xn0))] at oq13; exact oq13
  refine lv_istore (lv' := [(5, .int x13), (0, .ref a), (1, .int p0), (2, .int p1), (3, .int p2), (4, .int p3)]) hx hb dX10_set_16 hl (by decide) rfl (fun ls hl => ?_)
  refine lv_iload hx hb dX10_set_18 (lv_at hl 0 rfl) ?_
  refine xi_zge (tgt := 32) hx hb (rfl : Int32.toInt x13 = x13.toInt) dX10_set_20 (by decide) (fun c20 => ?_) (fun c20 => ?_)
  · refine lv_aload_n hx hb dX10_set_32 rfl (lv_at hl 1 rfl) ?_
    refine x_cl (x_runV (b := a) (As := []) (rest := []) S (c_X10_actAsOnPaper l E K F G13 a ha (by rw [(show (G13.1 (F a 2) 2).toInt = ((G.1 (F a 2) 2).toInt) from (congrArg Int32.toInt ((hF13.1 _ _ xn0).trans (hF4.1 _ _ (xnj (by decide) xn0)))).trans (rfl : Int32.toInt (G.1 (F a 2) 2) = ((G.1 (F a 2) 2).toInt)))] <;> exact (sb)) (by rw [(show (G13.1 (F a 8) 6).toInt = ((G.1 (F a 8) 6).toInt) from (congrArg Int32.toInt ((hF13.1 _ _ xn0).trans (hF4.1 _ _ (xnj (by decide) xn0)))).trans (rfl : Int32.toInt (G.1 (F a 8) 6) = ((G.1 (F a 8) 6).toInt)))] <;> exact (sw)) (v_X10_set_33_2 (F := F) a G G13 ron rob ((hF13.2.1 _ (xn1 (xne_j hj9999z36 hj9999z53 (by first | decide | omega)) (xn1 (xne_k hk9999w hk9999z33 (by decide)) xn0))).trans (hF4.2.1 _ xn0)) ((hF13.2.1 _ (xn1 (xne_k hk9999y hk9999z32 (by decide)) (xn1 (xne_j hj9999z38 hj9999z55 (by first | decide | omega)) xn0))).trans (hF4.2.1 _ xn0))) (v_X10_set_33_3 (K := K) (F := F) a G G4 G13 x13 p0 p1 p2 p3 ha oq13 sb sw t4 t13 c20) (v_X10_set_33_4 (F := F) a G G13 ron rob ((hF13.2.1 _ (xn1 (xne_j hj9999z61 hj9999z53 (by first | decide | omega)) (xn1 (xne_k hk9999z38 hk9999z33 (by decide)) xn0))).trans (hF4.2.1 _ xn0)) ((hF13.2.1 _ (xn1 (xne_k hk9999z39 hk9999z32 (by decide)) (xn1 (xne_j hj9999z63 hj9999z55 (by first | decide | omega)) xn0))).trans (hF4.2.1 _ xn0))) (v_X10_set_33_5 (K := K) (F := F) a G G4 G13 x13 p0 p1 p2 p3 ha hk9999 hj9999 hk9999a hj9999a hk9999b hj9999b hk9999c hj9999c hk9999d hj9999d hk9999e hj9999e hk9999f hj9999f hk9999g hj9999g hk9999h hj9999i hk9999i hj9999k hk9999j hj9999m hk9999k hj9999o hk9999l hj9999q hk9999m hj9999s hk9999n hj9999t hk9999o hj9999u hk9999p hj9999w hk9999q hj9999z25 hk9999r hj9999z27 hk9999s hj9999z29 hk9999t hj9999z31 hk9999u hj9999z33 hk9999v hj9999z34 hk9999w hj9999z36 hk9999y hj9999z38 hk9999z25 hj9999z40 hk9999z26 hj9999z42 hk9999z27 hj9999z44 hk9999z28 hj9999z46 hk9999z29 hj9999z48 hk9999z30 hj9999z50 hk9999z31 hj9999z51 hk9999z32 hj9999z53 hk9999z33 hj9999z55 hk9999z34 hj9999z56 hk9999z35 hj9999z57 hk9999z36 hj9999z58 hk9999z37 hj9999z59 hk9999z38 hj9999z61 hk9999z39 hj9999z63 hF4 hF13 ron rob bko bkn oq13 sb sw t4 t13 c20 ((hF13.2.1 _ (xn1 (xne_k hk9999p hk9999z32 (by decide)) (xn1 (xne_k hk9999p hk9999z33 (by decide)) xn0))).trans (hF4.2.1 _ xn0)) ((hF13.2.1 _ (xn1 (xne_k hk9999q hk9999z32 (by decide)) (xn1 (xne_k hk9999q hk9999z33 (by decide)) xn0))).trans (hF4.2.1 _ xn0)) ((hF13.2.1 _ (xn1 (xne_k hk9999r hk9999z32 (by decide)) (xn1 (xne_k hk9999r hk9999z33 (by decide)) xn0))).trans (hF4.2.1 _ xn0)) ((hF13.2.1 _ (xn1 (xne_k hk9999s hk9999z32 (by decide)) (xn1 (xne_k hk9999s hk9999z33 (by decide)) xn0))).trans (hF4.2.1 _ xn0)) ((hF13.2.1 _ (xn1 (xne_k hk9999t hk9999z32 (by decide)) (xn1 (xne_k hk9999t hk9999z33 (by decide)) xn0))).trans (hF4.2.1 _ xn0)) ((hF13.2.1 _ (xn1 (xne_k hk9999u hk9999z32 (by decide)) (xn1 (xne_k hk9999u hk9999z33 (by decide)) xn0))).trans (hF4.2.1 _ xn0)) ((hF13.2.1 _ (xn1 (xne_k hk9999e hk9999z32 (by decide)) (xn1 (xne_j hj9999e hj9999z55 (by first | decide | omega)) xn0))).trans (hF4.2.1 _ xn0)) ((hF13.2.1 _ (xn1 (xne_k hk9999f hk9999z32 (by decide)) (xn1 (xne_j hj9999f hj9999z55 (by first | decide | omega)) xn0))).trans (hF4.2.1 _ xn0)) ((hF13.2.1 _ (xn1 (xne_k hk9999g hk9999z32 (by decide)) (xn1 (xne_k hk9999g hk9999z33 (by decide)) xn0))).trans (hF4.2.1 _ xn0)) ((hF13.2.1 _ (xn1 (xne_j hj9999z36 hj9999z53 (by first | decide | omega)) (xn1 (xne_k hk9999w hk9999z33 (by decide)) xn0))).trans (hF4.2.1 _ xn0)) ((hF13.2.1 _ (xn1 (xne_k hk9999y hk9999z32 (by decide)) (xn1 (xne_j hj9999z38 hj9999z55 (by first | decide | omega)) xn0))).trans (hF4.2.1 _ xn0)) ((hF13.2.1 _ (xn1 (xne_k hk9999z25 hk9999z32 (by decide)) (xn1 (xne_k hk9999z25 hk9999z33 (by decide)) xn0))).trans (hF4.2.1 _ xn0)) ((hF13.2.1 _ (xn1 (xne_k hk9999z26 hk9999z32 (by decide)) (xn1 (xne_k hk9999z26 hk9999z33 (by decide)) xn0))).trans (hF4.2.1 _ xn0)) ((hF13.2.1 _ (xn1 (xne_k hk9999z27 hk9999z32 (by decide)) (xn1 (xne_k hk9999z27 hk9999z33 (by decide)) xn0))).trans (hF4.2.1 _ xn0)) ((hF13.2.1 _ (xn1 (xne_k hk9999z28 hk9999z32 (by decide)) (xn1 (xne_k hk9999z28 hk9999z33 (by decide)) xn0))).trans (hF4.2.1 _ xn0)) ((hF13.2.1 _ (xn1 (xne_k hk9999z29 hk9999z32 (by decide)) (xn1 (xne_k hk9999z29 hk9999z33 (by decide)) xn0))).trans (hF4.2.1 _ xn0)) ((hF13.2.1 _ (xn1 (xne_k hk9999z30 hk9999z32 (by decide)) (xn1 (xne_k hk9999z30 hk9999z33 (by decide)) xn0))).trans (hF4.2.1 _ xn0)) ((hF13.2.1 _ (xn1 (xne_k hk9999h hk9999z32 (by decide)) (xn1 (xne_k hk9999h hk9999z33 (by decide)) xn0))).trans (hF4.2.1 _ xn0)) ((hF13.2.1 _ (xn1 (xne_k hk9999i hk9999z32 (by decide)) (xn1 (xne_k hk9999i hk9999z33 (by decide)) xn0))).trans (hF4.2.1 _ xn0)) ((hF13.2.1 _ (xn1 (xne_k hk9999j hk9999z32 (by decide)) (xn1 (xne_k hk9999j hk9999z33 (by decide)) xn0))).trans (hF4.2.1 _ xn0)) ((hF13.2.1 _ (xn1 (xne_k hk9999k hk9999z32 (by decide)) (xn1 (xne_k hk9999k hk9999z33 (by decide)) xn0))).trans (hF4.2.1 _ xn0)) ((hF13.2.1 _ (xn1 (xne_k hk9999l hk9999z32 (by decide)) (xn1 (xne_k hk9999l hk9999z33 (by decide)) xn0))).trans (hF4.2.1 _ xn0)) ((hF13.2.1 _ (xn1 (xne_k hk9999m hk9999z32 (by decide)) (xn1 (xne_k hk9999m hk9999z33 (by decide)) xn0))).trans (hF4.2.1 _ xn0)) ((hF13.2.1 _ (xn1 (xne_k hk9999o hk9999z32 (by decide)) (xn1 (xne_k hk9999o hk9999z33 (by decide)) xn0))).trans (hF4.2.1 _ xn0)) ((hF13.2.1 _ (xn1 (xne_k hk9999n hk9999z32 (by decide)) (xn1 (xne_k hk9999n hk9999z33 (by decide)) xn0))).trans (hF4.2.1 _ xn0)) ((hF13.2.2 _ xn0).trans (hF4.2.2 _ xn0)) ((hF13.1 _ _ xn0).trans (hF4.1 _ _ (xnj (by decide) xn0))) ((hF13.1 _ _ xn0).trans (hF4.1 _ _ (xnj (by decide) xn0))) (hF13.1 _ _ xn0) ((hF13.1 _ _ xn0).trans (hF4.1 _ _ (xnj (by decide) xn0))) ((hF13.1 _ _ xn0).trans (hF4.1 _ _ (xnj (by decide) xn0))) ((hF13.1 _ _ xn0).trans (hF4.1 _ _ (xnj (by decide) xn0))) ((hF13.1 _ _ xn0).trans (hF4.1 _ _ (xnj (by decide) xn0)))) (v_X10_set_33_6 (K := K) (F := F) a G G4 G13 x13 p0 p1 p2 p3 ha hk9999 hj9999 hk9999a hj9999a hk9999b hj9999b hk9999c hj9999c hk9999d hj9999d hk9999e hj9999e hk9999f hj9999f hk9999g hj9999g hk9999h hj9999i hk9999i hj9999k hk9999j hj9999m hk9999k hj9999o hk9999l hj9999q hk9999m hj9999s hk9999n hj9999t hk9999o hj9999u hk9999p hj9999w hk9999q hj9999z25 hk9999r hj9999z27 hk9999s hj9999z29 hk9999t hj9999z31 hk9999u hj9999z33 hk9999v hj9999z34 hk9999w hj9999z36 hk9999y hj9999z38 hk9999z25 hj9999z40 hk9999z26 hj9999z42 hk9999z27 hj9999z44 hk9999z28 hj9999z46 hk9999z29 hj9999z48 hk9999z30 hj9999z50 hk9999z31 hj9999z51 hk9999z32 hj9999z53 hk9999z33 hj9999z55 hk9999z34 hj9999z56 hk9999z35 hj9999z57 hk9999z36 hj9999z58 hk9999z37 hj9999z59 hk9999z38 hj9999z61 hk9999z39 hj9999z63 hF4 hF13 ron rob bko bkn oq13 sb sw t4 t13 c20 ((hF13.2.1 _ (xn1 (xne_k hk9999p hk9999z32 (by decide)) (xn1 (xne_k hk9999p hk9999z33 (by decide)) xn0))).trans (hF4.2.1 _ xn0)) ((hF13.2.1 _ (xn1 (xne_k hk9999q hk9999z32 (by decide)) (xn1 (xne_k hk9999q hk9999z33 (by decide)) xn0))).trans (hF4.2.1 _ xn0)) ((hF13.2.1 _ (xn1 (xne_k hk9999r hk9999z32 (by decide)) (xn1 (xne_k hk9999r hk9999z33 (by decide)) xn0))).trans (hF4.2.1 _ xn0)) ((hF13.2.1 _ (xn1 (xne_k hk9999s hk9999z32 (by decide)) (xn1 (xne_k hk9999s hk9999z33 (by decide)) xn0))).trans (hF4.2.1 _ xn0)) ((hF13.2.1 _ (xn1 (xne_k hk9999t hk9999z32 (by decide)) (xn1 (xne_k hk9999t hk9999z33 (by decide)) xn0))).trans (hF4.2.1 _ xn0)) ((hF13.2.1 _ (xn1 (xne_k hk9999u hk9999z32 (by decide)) (xn1 (xne_k hk9999u hk9999z33 (by decide)) xn0))).trans (hF4.2.1 _ xn0)) ((hF13.2.1 _ (xn1 (xne_k hk9999e hk9999z32 (by decide)) (xn1 (xne_j hj9999e hj9999z55 (by first | decide | omega)) xn0))).trans (hF4.2.1 _ xn0)) ((hF13.2.1 _ (xn1 (xne_k hk9999f hk9999z32 (by decide)) (xn1 (xne_j hj9999f hj9999z55 (by first | decide | omega)) xn0))).trans (hF4.2.1 _ xn0)) ((hF13.2.1 _ (xn1 (xne_k hk9999g hk9999z32 (by decide)) (xn1 (xne_k hk9999g hk9999z33 (by decide)) xn0))).trans (hF4.2.1 _ xn0)) ((hF13.2.1 _ (xn1 (xne_j hj9999z36 hj9999z53 (by first | decide | omega)) (xn1 (xne_k hk9999w hk9999z33 (by decide)) xn0))).trans (hF4.2.1 _ xn0)) ((hF13.2.1 _ (xn1 (xne_k hk9999y hk9999z32 (by decide)) (xn1 (xne_j hj9999z38 hj9999z55 (by first | decide | omega)) xn0))).trans (hF4.2.1 _ xn0)) ((hF13.2.1 _ (xn1 (xne_k hk9999z25 hk9999z32 (by decide)) (xn1 (xne_k hk9999z25 hk9999z33 (by decide)) xn0))).trans (hF4.2.1 _ xn0)) ((hF13.2.1 _ (xn1 (xne_k hk9999z26 hk9999z32 (by decide)) (xn1 (xne_k hk9999z26 hk9999z33 (by decide)) xn0))).trans (hF4.2.1 _ xn0)) ((hF13.2.1 _ (xn1 (xne_k hk9999z27 hk9999z32 (by decide)) (xn1 (xne_k hk9999z27 hk9999z33 (by decide)) xn0))).trans (hF4.2.1 _ xn0)) ((hF13.2.1 _ (xn1 (xne_k hk9999z28 hk9999z32 (by decide)) (xn1 (xne_k hk9999z28 hk9999z33 (by decide)) xn0))).trans (hF4.2.1 _ xn0)) ((hF13.2.1 _ (xn1 (xne_k hk9999z29 hk9999z32 (by decide)) (xn1 (xne_k hk9999z29 hk9999z33 (by decide)) xn0))).trans (hF4.2.1 _ xn0)) ((hF13.2.1 _ (xn1 (xne_k hk9999z30 hk9999z32 (by decide)) (xn1 (xne_k hk9999z30 hk9999z33 (by decide)) xn0))).trans (hF4.2.1 _ xn0)) ((hF13.2.1 _ (xn1 (xne_k hk9999h hk9999z32 (by decide)) (xn1 (xne_k hk9999h hk9999z33 (by decide)) xn0))).trans (hF4.2.1 _ xn0)) ((hF13.2.1 _ (xn1 (xne_k hk9999i hk9999z32 (by decide)) (xn1 (xne_k hk9999i hk9999z33 (by decide)) xn0))).trans (hF4.2.1 _ xn0)) ((hF13.2.1 _ (xn1 (xne_k hk9999j hk9999z32 (by decide)) (xn1 (xne_k hk9999j hk9999z33 (by decide)) xn0))).trans (hF4.2.1 _ xn0)) ((hF13.2.1 _ (xn1 (xne_k hk9999k hk9999z32 (by decide)) (xn1 (xne_k hk9999k hk9999z33 (by decide)) xn0))).trans (hF4.2.1 _ xn0)) ((hF13.2.1 _ (xn1 (xne_k hk9999l hk9999z32 (by decide)) (xn1 (xne_k hk9999l hk9999z33 (by decide)) xn0))).trans (hF4.2.1 _ xn0)) ((hF13.2.1 _ (xn1 (xne_k hk9999m hk9999z32 (by decide)) (xn1 (xne_k hk9999m hk9999z33 (by decide)) xn0))).trans (hF4.2.1 _ xn0)) ((hF13.2.1 _ (xn1 (xne_k hk9999o hk9999z32 (by decide)) (xn1 (xne_k hk9999o hk9999z33 (by decide)) xn0))).trans (hF4.2.1 _ xn0)) ((hF13.2.1 _ (xn1 (xne_k hk9999n hk9999z32 (by decide)) (xn1 (xne_k hk9999n hk9999z33 (by decide)) xn0))).trans (hF4.2.1 _ xn0)) ((hF13.2.2 _ xn0).trans (hF4.2.2 _ xn0)) ((hF13.2.2 _ xn0).trans (hF4.2.2 _ xn0)) ((hF13.1 _ _ xn0).trans (hF4.1 _ _ (xnj (by decide) xn0))) ((hF13.1 _ _ xn0).trans (hF4.1 _ _ (xnj (by decide) xn0))) (hF13.1 _ _ xn0) ((hF13.1 _ _ xn0).trans (hF4.1 _ _ (xnj (by decide) xn0))) ((hF13.1 _ _ xn0).trans (hF4.1 _ _ (xnj (by decide) xn0))) ((hF13.1 _ _ xn0).trans (hF4.1 _ _ (xnj (by decide) xn0))) ((hF13.1 _ _ xn0).trans (hF4.1 _ _ (xnj (by decide) xn0))))) mv_X10_actAsOnPaper km_X10_207 rfl rfl ⟨Nat.le_of_ble_eq_true rfl, Nat.le_of_ble_eq_true rfl⟩ (rc_12 hK hT ha) hK (fun _ => XP.blind) (fun U hU hW => XP.at hK hz hS hT hU hW) rfl hl.1 (Nat.le_of_ble_eq_true rfl) dX10_set_33 ⟨Nat.le_of_ble_eq_true rfl, Nat.le_of_ble_eq_true rfl⟩) hS ?_
    rintro _ G33 H locs ⟨x33, rfl, hF33, t33, oq33, oq33a⟩ hT hS
    have t33 : 0 ≤ ((G33.1 (F a 8) 6).toInt) ∧ ((G33.1 (F a 8) 6).toInt) ≤ 1080 := t33
    have oq33 : ActR ((G.1 a 18).toInt) x33.toInt (gaL G13 (G13.2.2.1 (F (F a 2) 1)) (vw (G.2.1 (F (F a 3) 0))) (vw (G13.2.1 (F (F a 5) 0))) 0 (((G.1 (F a 2) 2).toInt)).toNat) (vw (G.2.1 (F (F a 3) 0))) (vw (G33.2.1 (F (F a 3) 0))) (vw (G13.2.1 (F (F a 5) 0))) (qL G13 F (F a 8)) (qL G33 F (F a 8)) (gaL G13 (G13.2.2.1 (F (F a 2) 1)) (vw (G.2.1 (F (F a 4) 0))) (vw (G13.2.1 (F (F a 5) 0))) 1 (((G.1 (F a 2) 2).toInt)).toNat) := by simp only [(show G13.1 a 18 = G.1 a 18 from ((hF13.1 _ _ xn0).trans (hF4.1 _ _ (xnj (by decide) xn0)))), (show G13.2.1 (F (F a 3) 0) = G.2.1 (F (F a 3) 0) from ((hF13.2.1 _ (xn1 (xne_j hj9999z36 hj9999z53 (by first | decide | omega)) (xn1 (xne_k hk9999w hk9999z33 (by decide)) xn0))).trans (hF4.2.1 _ xn0))), (show G13.1 (F a 2) 2 = G.1 (F a 2) 2 from ((hF13.1 _ _ xn0).trans (hF4.1 _ _ (xnj (by decide) xn0)))), (show G13.2.1 (F (F a 4) 0) = G.2.1 (F (F a 4) 0) from ((hF13.2.1 _ (xn1 (xne_j hj9999z61 hj9999z53 (by first | decide | omega)) (xn1 (xne_k hk9999z38 hk9999z33 (by decide)) xn0))).trans (hF4.2.1 _ xn0)))] at oq33; exact oq33
    exact x_ri hx hb hr hlk hQ (Nat.le_of_ble_eq_true rfl) (Nat.le_of_ble_eq_true rfl) hS dX10_set_36 G33 ⟨_, rfl, (XFr.call (XFr.call (XFr.call XFr.rf hF4 (xm1 2 rfl xm0) xm0 xm0) hF13 xm0 (xm1 25 rfl (xm1 26 rfl xm0)) xm0) hF33 (xm1 0 rfl (xm1 1 rfl (xm1 2 rfl (xm1 3 rfl (xm1 4 rfl (xm1 5 rfl (xm1 6 rfl xm0))))))) (xm1 0 rfl (xm1 1 rfl (xm1 2 rfl (xm1 3 rfl (xm1 4 rfl (xm1 5 rfl (xm1 6 rfl (xm1 7 rfl (xm1 8 rfl (xm1 9 rfl (xm1 10 rfl (xm1 11 rfl (xm1 12 rfl (xm1 13 rfl (xm1 14 rfl (xm1 15 rfl (xm1 16 rfl (xm1 17 rfl (xm1 18 rfl (xm1 19 rfl (xm1 20 rfl (xm1 21 rfl (xm1 22 rfl (xm1 23 rfl (xm1 24 rfl xm0))))))))))))))))))))))))) xm0), (t33), (v_X10_set_36_7 (K := K) (F := F) a G G4 G13 G33 x13 p0 p1 p2 p3 x33 ha hk9999 hj9999 hk9999a hj9999a hk9999b hj9999b hk9999c hj9999c hk9999d hj9999d hk9999e hj9999e hk9999f hj9999f hk9999g hj9999g hk9999h hj9999i hk9999i hj9999k hk9999j hj9999m hk9999k hj9999o hk9999l hj9999q hk9999m hj9999s hk9999n hj9999t hk9999o hj9999u hk9999p hj9999w hk9999q hj9999z25 hk9999r hj9999z27 hk9999s hj9999z29 hk9999t hj9999z31 hk9999u hj9999z33 hk9999v hj9999z34 hk9999w hj9999z36 hk9999y hj9999z38 hk9999z25 hj9999z40 hk9999z26 hj9999z42 hk9999z27 hj9999z44 hk9999z28 hj9999z46 hk9999z29 hj9999z48 hk9999z30 hj9999z50 hk9999z31 hj9999z51 hk9999z32 hj9999z53 hk9999z33 hj9999z55 hk9999z34 hj9999z56 hk9999z35 hj9999z57 hk9999z36 hj9999z58 hk9999z37 hj9999z59 hk9999z38 hj9999z61 hk9999z39 hj9999z63 hF4 hF13 bko oq13 oq33 sb sw t4 t13 c20 t33 ((hF13.2.1 _ (xn1 (xne_k hk9999z25 hk9999z32 (by decide)) (xn1 (xne_k hk9999z25 hk9999z33 (by decide)) xn0))).trans (hF4.2.1 _ xn0)) ((hF13.2.1 _ (xn1 (xne_k hk9999z26 hk9999z32 (by decide)) (xn1 (xne_k hk9999z26 hk9999z33 (by decide)) xn0))).trans (hF4.2.1 _ xn0)) ((hF13.2.1 _ (xn1 (xne_k hk9999z27 hk9999z32 (by decide)) (xn1 (xne_k hk9999z27 hk9999z33 (by decide)) xn0))).trans (hF4.2.1 _ xn0)) ((hF13.2.1 _ (xn1 (xne_k hk9999z28 hk9999z32 (by decide)) (xn1 (xne_k hk9999z28 hk9999z33 (by decide)) xn0))).trans (hF4.2.1 _ xn0)) ((hF13.2.1 _ (xn1 (xne_k hk9999z29 hk9999z32 (by decide)) (xn1 (xne_k hk9999z29 hk9999z33 (by decide)) xn0))).trans (hF4.2.1 _ xn0)) ((hF13.2.1 _ (xn1 (xne_k hk9999z30 hk9999z32 (by decide)) (xn1 (xne_k hk9999z30 hk9999z33 (by decide)) xn0))).trans (hF4.2.1 _ xn0)) ((hF13.2.2 _ xn0).trans (hF4.2.2 _ xn0)) ((hF13.1 _ _ xn0).trans (hF4.1 _ _ (xnj (by decide) xn0)))), (v_X10_set_36_8 (F := F) a G G33 ron oq33a)⟩ hT
  · refine lv_aload_n hx hb dX10_set_23 rfl (lv_at hl 1 rfl) ?_
    refine lv_iload hx hb dX10_set_24 (lv_at hl 0 rfl) ?_
    refine x_cl0 (x_runV (b := a) (As := [.int x13]) (rest := []) S (c_X10_refuseAct l E K F G13 a x13 ha) mv_X10_refuseAct km_X10_188 rfl rfl ⟨Nat.le_of_ble_eq_true rfl, Nat.le_of_ble_eq_true rfl⟩ (rc_12 hK hT ha) hK (fun _ => XP.blind) (fun U hU hW => XP.at hK hz hS hT hU hW) rfl hl.1 (Nat.le_of_ble_eq_true rfl) dX10_set_26 ⟨Nat.le_of_ble_eq_true rfl, Nat.le_of_ble_eq_true rfl⟩) hS ?_
    rintro _ G26 H locs ⟨x26, rfl, hF26, t26⟩ hT hS
    have t26 : x26.toInt = x13.toInt := t26
    refine lv_goto (tgt := 36) hx hb dX10_set_29 (by decide) ?_
    exact x_ri hx hb hr hlk hQ (Nat.le_of_ble_eq_true rfl) (Nat.le_of_ble_eq_true rfl) hS dX10_set_36 G26 ⟨_, rfl, (XFr.call (XFr.call (XFr.call XFr.rf hF4 (xm1 2 rfl xm0) xm0 xm0) hF13 xm0 (xm1 25 rfl (xm1 26 rfl xm0)) xm0) hF26 xm0 (xm1 10 rfl xm0) xm0), (by rw [(show (G26.1 (F a 8) 6).toInt = ((G.1 (F a 8) 6).toInt) from (congrArg Int32.toInt ((hF26.1 _ _ xn0).trans ((hF13.1 _ _ xn0).trans (hF4.1 _ _ (xnj (by decide) xn0))))).trans (rfl : Int32.toInt (G.1 (F a 8) 6) = ((G.1 (F a 8) 6).toInt)))] <;> exact (sw)), (by rw [(t26 : Int32.toInt x26 = x13.toInt)] <;> exact (v_X10_set_36_9 (K := K) (F := F) a G G4 G13 G26 x13 p0 p1 p2 p3 ha hk9999 hj9999 hk9999a hj9999a hk9999b hj9999b hk9999c hj9999c hk9999d hj9999d hk9999e hj9999e hk9999f hj9999f hk9999g hj9999g hk9999h hj9999i hk9999i hj9999k hk9999j hj9999m hk9999k hj9999o hk9999l hj9999q hk9999m hj9999s hk9999n hj9999t hk9999o hj9999u hk9999p hj9999w hk9999q hj9999z25 hk9999r hj9999z27 hk9999s hj9999z29 hk9999t hj9999z31 hk9999u hj9999z33 hk9999v hj9999z34 hk9999w hj9999z36 hk9999y hj9999z38 hk9999z25 hj9999z40 hk9999z26 hj9999z42 hk9999z27 hj9999z44 hk9999z28 hj9999z46 hk9999z29 hj9999z48 hk9999z30 hj9999z50 hk9999z31 hj9999z51 hk9999z32 hj9999z53 hk9999z33 hj9999z55 hk9999z34 hj9999z56 hk9999z35 hj9999z57 hk9999z36 hj9999z58 hk9999z37 hj9999z59 hk9999z38 hj9999z61 hk9999z39 hj9999z63 hF4 hF13 bko oq13 sb sw t4 t13 c20 ((hF13.2.1 _ (xn1 (xne_k hk9999z25 hk9999z32 (by decide)) (xn1 (xne_k hk9999z25 hk9999z33 (by decide)) xn0))).trans (hF4.2.1 _ xn0)) ((hF13.2.1 _ (xn1 (xne_k hk9999z26 hk9999z32 (by decide)) (xn1 (xne_k hk9999z26 hk9999z33 (by decide)) xn0))).trans (hF4.2.1 _ xn0)) ((hF13.2.1 _ (xn1 (xne_k hk9999z27 hk9999z32 (by decide)) (xn1 (xne_k hk9999z27 hk9999z33 (by decide)) xn0))).trans (hF4.2.1 _ xn0)) ((hF13.2.1 _ (xn1 (xne_k hk9999z28 hk9999z32 (by decide)) (xn1 (xne_k hk9999z28 hk9999z33 (by decide)) xn0))).trans (hF4.2.1 _ xn0)) ((hF13.2.1 _ (xn1 (xne_k hk9999z29 hk9999z32 (by decide)) (xn1 (xne_k hk9999z29 hk9999z33 (by decide)) xn0))).trans (hF4.2.1 _ xn0)) ((hF13.2.1 _ (xn1 (xne_k hk9999z30 hk9999z32 (by decide)) (xn1 (xne_k hk9999z30 hk9999z33 (by decide)) xn0))).trans (hF4.2.1 _ xn0)) ((hF26.2.1 _ (xn1 (xne_k hk9999w hk9999o (by decide)) xn0)).trans ((hF13.2.1 _ (xn1 (xne_j hj9999z36 hj9999z53 (by first | decide | omega)) (xn1 (xne_k hk9999w hk9999z33 (by decide)) xn0))).trans (hF4.2.1 _ xn0))) ((hF26.2.1 _ (xn1 (xne_k hk9999z25 hk9999o (by decide)) xn0)).trans ((hF13.2.1 _ (xn1 (xne_k hk9999z25 hk9999z32 (by decide)) (xn1 (xne_k hk9999z25 hk9999z33 (by decide)) xn0))).trans (hF4.2.1 _ xn0))) ((hF26.2.1 _ (xn1 (xne_k hk9999z26 hk9999o (by decide)) xn0)).trans ((hF13.2.1 _ (xn1 (xne_k hk9999z26 hk9999z32 (by decide)) (xn1 (xne_k hk9999z26 hk9999z33 (by decide)) xn0))).trans (hF4.2.1 _ xn0))) ((hF26.2.1 _ (xn1 (xne_k hk9999z27 hk9999o (by decide)) xn0)).trans ((hF13.2.1 _ (xn1 (xne_k hk9999z27 hk9999z32 (by decide)) (xn1 (xne_k hk9999z27 hk9999z33 (by decide)) xn0))).trans (hF4.2.1 _ xn0))) ((hF26.2.1 _ (xn1 (xne_k hk9999z28 hk9999o (by decide)) xn0)).trans ((hF13.2.1 _ (xn1 (xne_k hk9999z28 hk9999z32 (by decide)) (xn1 (xne_k hk9999z28 hk9999z33 (by decide)) xn0))).trans (hF4.2.1 _ xn0))) ((hF26.2.1 _ (xn1 (xne_k hk9999z29 hk9999o (by decide)) xn0)).trans ((hF13.2.1 _ (xn1 (xne_k hk9999z29 hk9999z32 (by decide)) (xn1 (xne_k hk9999z29 hk9999z33 (by decide)) xn0))).trans (hF4.2.1 _ xn0))) ((hF26.2.1 _ (xn1 (xne_k hk9999z30 hk9999o (by decide)) xn0)).trans ((hF13.2.1 _ (xn1 (xne_k hk9999z30 hk9999z32 (by decide)) (xn1 (xne_k hk9999z30 hk9999z33 (by decide)) xn0))).trans (hF4.2.1 _ xn0))) ((hF13.2.2 _ xn0).trans (hF4.2.2 _ xn0)) ((hF13.1 _ _ xn0).trans (hF4.1 _ _ (xnj (by decide) xn0))) ((hF26.1 _ _ xn0).trans ((hF13.1 _ _ xn0).trans (hF4.1 _ _ (xnj (by decide) xn0)))))), (v_X10_set_36_10 (F := F) a G G26 ron ((hF26.2.1 _ (xn1 (xne_k hk9999w hk9999o (by decide)) xn0)).trans ((hF13.2.1 _ (xn1 (xne_j hj9999z36 hj9999z53 (by first | decide | omega)) (xn1 (xne_k hk9999w hk9999z33 (by decide)) xn0))).trans (hF4.2.1 _ xn0))) ((hF26.2.1 _ (xn1 (xne_k hk9999y hk9999o (by decide)) xn0)).trans ((hF13.2.1 _ (xn1 (xne_k hk9999y hk9999z32 (by decide)) (xn1 (xne_j hj9999z38 hj9999z55 (by first | decide | omega)) xn0))).trans (hF4.2.1 _ xn0))))⟩ hT
/-- a row with its three values -/
def rput3 (r : Int → Int) (t k a b c : Int) : Int → Int := rset (rset (rset (rfil r t k (-1000) 3) (90 * t + 30 * 0 + k) a) (90 * t + 30 * 1 + k) b) (90 * t + 30 * 2 + k) c
theorem put3 {r r1 r2 r3 r4 r5 : Int → Int} {t k a b c : Int} (h0 : 0 ≤ t ∧ t < 3 ∧ 0 ≤ k ∧ k < 30) (ha : a ≠ -2000) (e1 : r1 = r) (e2 : r2 = rfil r1 t k (-1000) 3) (e3 : r3 = if cel r2 t k 0 ≠ -2000 then rset r2 (90 * t + 30 * 0 + k) a else r2) (e4 : r4 = if cel r3 t k 0 ≠ -2000 then rset r3 (90 * t + 30 * 1 + k) b else r3) (e5 : r5 = if cel r4 t k 0 ≠ -2000 then rset r4 (90 * t + 30 * 2 + k) c else r4) : r5 = rput3 r t k a b c := by
  subst e1 e2
  have c2 : cel (rfil r1 t k (-1000) 3) t k 0 ≠ -2000 := by
    rw [cel_in (by omega)]
    unfold rfil
    rw [if_pos (by omega)]
    decide
  rw [if_pos c2] at e3
  have c3 : cel r3 t k 0 ≠ -2000 := by
    rw [cel_in (by omega), e3]
    show (if 90 * t + 30 * 0 + k = 90 * t + 30 * 0 + k then a else _) ≠ -2000
    rw [if_pos rfl]
    exact ha
  rw [if_pos c3] at e4
  have c4 : cel r4 t k 0 ≠ -2000 := by
    rw [cel_in (by omega)] at c3 ⊢
    rw [e4]
    show (if 90 * t + 30 * 0 + k = 90 * t + 30 * 1 + k then b else r3 (90 * t + 30 * 0 + k)) ≠ -2000
    rw [if_neg (by omega)]
    exact c3
  rw [if_pos c4] at e5
  rw [e5, e4, e3]
  rfl
theorem v_X10_put_49_1 {K : Nat → Nat} {F : Nat → Nat → Nat} (a : Nat) (G : XG) (G46 : XG) (G4 : XG) (x8 : Int32) (p0 : Int32) (p1 : Int32) (p2 : Int32) (p3 : Int32) (p4 : Int32)
    (ha : K a = 12)
    (hk9999 : K (F a 11) = 3)
    (hj9999 : F (F a 11) 99 = 0)
    (hk9999a : K (F a 9) = 6)
    (hj9999a : F (F a 9) 99 = 1)
    (hk9999b : K (F a 14) = 11)
    (hj9999b : F (F a 14) 99 = 0)
    (hk9999c : K (F a 10) = 6)
    (hj9999c : F (F a 10) 99 = 2)
    (hk9999d : K (F a 8) = 6)
    (hj9999d : F (F a 8) 99 = 0)
    (hk9999e : K (F (F a 11) 0) = 21)
    (hj9999e : F (F (F a 11) 0) 99 = 100)
    (hk9999f : K (F (F a 11) 1) = 21)
    (hj9999f : F (F (F a 11) 1) 99 = 101)
    (hk9999g : K (F (F a 11) 2) = 24)
    (hj9999g : F (F (F a 11) 2) 99 = 4)
    (hk9999h : K (F (F a 9) 0) = 22)
    (hj9999i : F (F (F a 9) 0) 99 = 10 * 1 + 0)
    (hk9999i : K (F (F a 9) 1) = 22)
    (hj9999k : F (F (F a 9) 1) 99 = 10 * 1 + 1)
    (hk9999j : K (F (F a 9) 2) = 22)
    (hj9999m : F (F (F a 9) 2) 99 = 10 * 1 + 2)
    (hk9999k : K (F (F a 9) 3) = 22)
    (hj9999o : F (F (F a 9) 3) 99 = 10 * 1 + 3)
    (hk9999l : K (F (F a 9) 4) = 23)
    (hj9999q : F (F (F a 9) 4) 99 = 10 * 1 + 4)
    (hk9999m : K (F (F a 9) 5) = 23)
    (hj9999s : F (F (F a 9) 5) 99 = 10 * 1 + 5)
    (hk9999n : K (F a 16) = 27)
    (hj9999t : F (F a 16) 99 = 0)
    (hk9999o : K (F a 15) = 26)
    (hj9999u : F (F a 15) 99 = 0)
    (hk9999p : K (F (F a 10) 0) = 22)
    (hj9999w : F (F (F a 10) 0) 99 = 10 * 2 + 0)
    (hk9999q : K (F (F a 10) 1) = 22)
    (hj9999z25 : F (F (F a 10) 1) 99 = 10 * 2 + 1)
    (hk9999r : K (F (F a 10) 2) = 22)
    (hj9999z27 : F (F (F a 10) 2) 99 = 10 * 2 + 2)
    (hk9999s : K (F (F a 10) 3) = 22)
    (hj9999z29 : F (F (F a 10) 3) 99 = 10 * 2 + 3)
    (hk9999t : K (F (F a 10) 4) = 23)
    (hj9999z31 : F (F (F a 10) 4) 99 = 10 * 2 + 4)
    (hk9999u : K (F (F a 10) 5) = 23)
    (hj9999z33 : F (F (F a 10) 5) 99 = 10 * 2 + 5)
    (hk9999v : K (F a 3) = 8)
    (hj9999z34 : F (F a 3) 99 = 0)
    (hk9999w : K (F (F a 3) 0) = 20)
    (hj9999z36 : F (F (F a 3) 0) 99 = 0)
    (hk9999y : K (F (F a 3) 1) = 21)
    (hj9999z38 : F (F (F a 3) 1) 99 = 0)
    (hk9999z25 : K (F (F a 8) 0) = 22)
    (hj9999z40 : F (F (F a 8) 0) 99 = 10 * 0 + 0)
    (hk9999z26 : K (F (F a 8) 1) = 22)
    (hj9999z42 : F (F (F a 8) 1) 99 = 10 * 0 + 1)
    (hk9999z27 : K (F (F a 8) 2) = 22)
    (hj9999z44 : F (F (F a 8) 2) 99 = 10 * 0 + 2)
    (hk9999z28 : K (F (F a 8) 3) = 22)
    (hj9999z46 : F (F (F a 8) 3) 99 = 10 * 0 + 3)
    (hk9999z29 : K (F (F a 8) 4) = 23)
    (hj9999z48 : F (F (F a 8) 4) 99 = 10 * 0 + 4)
    (hk9999z30 : K (F (F a 8) 5) = 23)
    (hj9999z50 : F (F (F a 8) 5) 99 = 10 * 0 + 5)
    (hk9999z31 : K (F a 5) = 8)
    (hj9999z51 : F (F a 5) 99 = 2)
    (hk9999z32 : K (F (F a 5) 0) = 20)
    (hj9999z53 : F (F (F a 5) 0) 99 = 2)
    (hk9999z33 : K (F (F a 5) 1) = 21)
    (hj9999z55 : F (F (F a 5) 1) 99 = 2)
    (hk9999z34 : K (F a 2) = 2)
    (hj9999z56 : F (F a 2) 99 = 0)
    (hk9999z35 : K (F (F a 2) 1) = 15)
    (hj9999z57 : F (F (F a 2) 1) 99 = 1)
    (hk9999z36 : K (F (F a 2) 0) = 15)
    (hj9999z58 : F (F (F a 2) 0) 99 = 0)
    (hk9999z37 : K (F a 4) = 8)
    (hj9999z59 : F (F a 4) 99 = 1)
    (hk9999z38 : K (F (F a 4) 0) = 20)
    (hj9999z61 : F (F (F a 4) 0) 99 = 1)
    (hk9999z39 : K (F (F a 4) 1) = 21)
    (hj9999z63 : F (F (F a 4) 1) 99 = 1)
    (sb : 0 ≤ ((G.1 (F a 2) 2).toInt) ∧ ((G.1 (F a 2) 2).toInt) ≤ 12)
    (sw : 0 ≤ ((G.1 (F a 8) 6).toInt) ∧ ((G.1 (F a 8) 6).toInt) ≤ 1080)
    (t4 : ((G4.1 (F a 14) 1).toInt) = 0)
    (t8 : (x8.toInt = 1 ∧ 0 ≤ p0.toInt ∧ p0.toInt < 3) ∨ (x8.toInt = 0 ∧ (p0.toInt < 0 ∨ 3 ≤ p0.toInt)))
    (c11 : x8.toInt = 0)
    (c_G46_F_F_a_3_0 : G46.2.1 (F (F a 3) 0) = G.2.1 (F (F a 3) 0))
    (c_G46_F_F_a_8_0 : G46.2.1 (F (F a 8) 0) = G.2.1 (F (F a 8) 0))
    (c_G46_F_F_a_8_1 : G46.2.1 (F (F a 8) 1) = G.2.1 (F (F a 8) 1))
    (c_G46_F_F_a_8_2 : G46.2.1 (F (F a 8) 2) = G.2.1 (F (F a 8) 2))
    (c_G46_F_F_a_8_3 : G46.2.1 (F (F a 8) 3) = G.2.1 (F (F a 8) 3))
    (c_G46_F_F_a_8_4 : G46.2.1 (F (F a 8) 4) = G.2.1 (F (F a 8) 4))
    (c_G46_F_F_a_8_5 : G46.2.1 (F (F a 8) 5) = G.2.1 (F (F a 8) 5))
    (d_G46_F_a_8_6 : G46.1 (F a 8) 6 = G.1 (F a 8) 6) :
    ((-1 : Int) = -1 ∧ ¬ ((0 ≤ p0.toInt ∧ p0.toInt < 3) ∧ (0 ≤ p1.toInt ∧ p1.toInt < 30) ∧ (p2.toInt = -1000 ∨ (-99 ≤ p2.toInt ∧ p2.toInt ≤ 99)) ∧ (p3.toInt = -1000 ∨ (-99 ≤ p3.toInt ∧ p3.toInt ≤ 99)) ∧ (p4.toInt = -1000 ∨ (-99 ≤ p4.toInt ∧ p4.toInt ≤ 99))) ∧ ((vw (G46.2.1 (F (F a 3) 0))) = (vw (G.2.1 (F (F a 3) 0))) ∧ qL G46 F (F a 8) = qL G F (F a 8))) ∨ (((0 ≤ p0.toInt ∧ p0.toInt < 3) ∧ (0 ≤ p1.toInt ∧ p1.toInt < 30) ∧ (p2.toInt = -1000 ∨ (-99 ≤ p2.toInt ∧ p2.toInt ≤ 99)) ∧ (p3.toInt = -1000 ∨ (-99 ≤ p3.toInt ∧ p3.toInt ≤ 99)) ∧ (p4.toInt = -1000 ∨ (-99 ≤ p4.toInt ∧ p4.toInt ≤ 99))) ∧ (-1 : Int) = -4 ∧ cel (vw (G.2.1 (F (F a 3) 0))) p0.toInt p1.toInt 0 ≠ -2000 ∧ ((vw (G46.2.1 (F (F a 3) 0))) = (vw (G.2.1 (F (F a 3) 0))) ∧ qL G46 F (F a 8) = qL G F (F a 8))) ∨ (((0 ≤ p0.toInt ∧ p0.toInt < 3) ∧ (0 ≤ p1.toInt ∧ p1.toInt < 30) ∧ (p2.toInt = -1000 ∨ (-99 ≤ p2.toInt ∧ p2.toInt ≤ 99)) ∧ (p3.toInt = -1000 ∨ (-99 ≤ p3.toInt ∧ p3.toInt ≤ 99)) ∧ (p4.toInt = -1000 ∨ (-99 ≤ p4.toInt ∧ p4.toInt ≤ 99))) ∧ cel (vw (G.2.1 (F (F a 3) 0))) p0.toInt p1.toInt 0 = -2000 ∧ ActR ((G.1 a 18).toInt) (-1 : Int) (gaL G (G.2.2.1 (F (F a 2) 1)) (vw (G.2.1 (F (F a 3) 0))) (rput3 (vw (G.2.1 (F (F a 3) 0))) p0.toInt p1.toInt p2.toInt p3.toInt p4.toInt) 0 (((G.1 (F a 2) 2).toInt)).toNat) (vw (G.2.1 (F (F a 3) 0))) (vw (G46.2.1 (F (F a 3) 0))) (rput3 (vw (G.2.1 (F (F a 3) 0))) p0.toInt p1.toInt p2.toInt p3.toInt p4.toInt) (qL G F (F a 8)) (qL G46 F (F a 8)) (gaL G (G.2.2.1 (F (F a 2) 1)) (vw (G.2.1 (F (F a 4) 0))) (rput3 (vw (G.2.1 (F (F a 3) 0))) p0.toInt p1.toInt p2.toInt p3.toInt p4.toInt) 1 (((G.1 (F a 2) 2).toInt)).toNat)) := by
  exact Or.inl ⟨rfl, fun h => by omega, by rw [c_G46_F_F_a_3_0], qL_cg d_G46_F_a_8_6 c_G46_F_F_a_8_0 c_G46_F_F_a_8_1 c_G46_F_F_a_8_2 c_G46_F_F_a_8_3 c_G46_F_F_a_8_4 c_G46_F_F_a_8_5⟩
theorem v_X10_put_49_2 {F : Nat → Nat → Nat} (a : Nat) (G : XG) (G46 : XG)
    (ron : RO (vw (G.2.1 (F (F a 3) 0))) (aI (G.2.1 (F (F a 3) 1))))
    (c_G46_F_F_a_3_0 : G46.2.1 (F (F a 3) 0) = G.2.1 (F (F a 3) 0))
    (c_G46_F_F_a_3_1 : G46.2.1 (F (F a 3) 1) = G.2.1 (F (F a 3) 1)) :
    RO (vw (G46.2.1 (F (F a 3) 0))) (aI (G46.2.1 (F (F a 3) 1))) := by
  rw [c_G46_F_F_a_3_0, c_G46_F_F_a_3_1]; exact ron
theorem v_X10_put_49_3 {K : Nat → Nat} {F : Nat → Nat → Nat} (a : Nat) (G : XG) (G46 : XG) (G4 : XG) (x8 : Int32) (p0 : Int32) (x15 : Int32) (p1 : Int32) (p2 : Int32) (p3 : Int32) (p4 : Int32)
    (ha : K a = 12)
    (hk9999 : K (F a 11) = 3)
    (hj9999 : F (F a 11) 99 = 0)
    (hk9999a : K (F a 9) = 6)
    (hj9999a : F (F a 9) 99 = 1)
    (hk9999b : K (F a 14) = 11)
    (hj9999b : F (F a 14) 99 = 0)
    (hk9999c : K (F a 10) = 6)
    (hj9999c : F (F a 10) 99 = 2)
    (hk9999d : K (F a 8) = 6)
    (hj9999d : F (F a 8) 99 = 0)
    (hk9999e : K (F (F a 11) 0) = 21)
    (hj9999e : F (F (F a 11) 0) 99 = 100)
    (hk9999f : K (F (F a 11) 1) = 21)
    (hj9999f : F (F (F a 11) 1) 99 = 101)
    (hk9999g : K (F (F a 11) 2) = 24)
    (hj9999g : F (F (F a 11) 2) 99 = 4)
    (hk9999h : K (F (F a 9) 0) = 22)
    (hj9999i : F (F (F a 9) 0) 99 = 10 * 1 + 0)
    (hk9999i : K (F (F a 9) 1) = 22)
    (hj9999k : F (F (F a 9) 1) 99 = 10 * 1 + 1)
    (hk9999j : K (F (F a 9) 2) = 22)
    (hj9999m : F (F (F a 9) 2) 99 = 10 * 1 + 2)
    (hk9999k : K (F (F a 9) 3) = 22)
    (hj9999o : F (F (F a 9) 3) 99 = 10 * 1 + 3)
    (hk9999l : K (F (F a 9) 4) = 23)
    (hj9999q : F (F (F a 9) 4) 99 = 10 * 1 + 4)
    (hk9999m : K (F (F a 9) 5) = 23)
    (hj9999s : F (F (F a 9) 5) 99 = 10 * 1 + 5)
    (hk9999n : K (F a 16) = 27)
    (hj9999t : F (F a 16) 99 = 0)
    (hk9999o : K (F a 15) = 26)
    (hj9999u : F (F a 15) 99 = 0)
    (hk9999p : K (F (F a 10) 0) = 22)
    (hj9999w : F (F (F a 10) 0) 99 = 10 * 2 + 0)
    (hk9999q : K (F (F a 10) 1) = 22)
    (hj9999z25 : F (F (F a 10) 1) 99 = 10 * 2 + 1)
    (hk9999r : K (F (F a 10) 2) = 22)
    (hj9999z27 : F (F (F a 10) 2) 99 = 10 * 2 + 2)
    (hk9999s : K (F (F a 10) 3) = 22)
    (hj9999z29 : F (F (F a 10) 3) 99 = 10 * 2 + 3)
    (hk9999t : K (F (F a 10) 4) = 23)
    (hj9999z31 : F (F (F a 10) 4) 99 = 10 * 2 + 4)
    (hk9999u : K (F (F a 10) 5) = 23)
    (hj9999z33 : F (F (F a 10) 5) 99 = 10 * 2 + 5)
    (hk9999v : K (F a 3) = 8)
    (hj9999z34 : F (F a 3) 99 = 0)
    (hk9999w : K (F (F a 3) 0) = 20)
    (hj9999z36 : F (F (F a 3) 0) 99 = 0)
    (hk9999y : K (F (F a 3) 1) = 21)
    (hj9999z38 : F (F (F a 3) 1) 99 = 0)
    (hk9999z25 : K (F (F a 8) 0) = 22)
    (hj9999z40 : F (F (F a 8) 0) 99 = 10 * 0 + 0)
    (hk9999z26 : K (F (F a 8) 1) = 22)
    (hj9999z42 : F (F (F a 8) 1) 99 = 10 * 0 + 1)
    (hk9999z27 : K (F (F a 8) 2) = 22)
    (hj9999z44 : F (F (F a 8) 2) 99 = 10 * 0 + 2)
    (hk9999z28 : K (F (F a 8) 3) = 22)
    (hj9999z46 : F (F (F a 8) 3) 99 = 10 * 0 + 3)
    (hk9999z29 : K (F (F a 8) 4) = 23)
    (hj9999z48 : F (F (F a 8) 4) 99 = 10 * 0 + 4)
    (hk9999z30 : K (F (F a 8) 5) = 23)
    (hj9999z50 : F (F (F a 8) 5) 99 = 10 * 0 + 5)
    (hk9999z31 : K (F a 5) = 8)
    (hj9999z51 : F (F a 5) 99 = 2)
    (hk9999z32 : K (F (F a 5) 0) = 20)
    (hj9999z53 : F (F (F a 5) 0) 99 = 2)
    (hk9999z33 : K (F (F a 5) 1) = 21)
    (hj9999z55 : F (F (F a 5) 1) 99 = 2)
    (hk9999z34 : K (F a 2) = 2)
    (hj9999z56 : F (F a 2) 99 = 0)
    (hk9999z35 : K (F (F a 2) 1) = 15)
    (hj9999z57 : F (F (F a 2) 1) 99 = 1)
    (hk9999z36 : K (F (F a 2) 0) = 15)
    (hj9999z58 : F (F (F a 2) 0) 99 = 0)
    (hk9999z37 : K (F a 4) = 8)
    (hj9999z59 : F (F a 4) 99 = 1)
    (hk9999z38 : K (F (F a 4) 0) = 20)
    (hj9999z61 : F (F (F a 4) 0) 99 = 1)
    (hk9999z39 : K (F (F a 4) 1) = 21)
    (hj9999z63 : F (F (F a 4) 1) 99 = 1)
    (sb : 0 ≤ ((G.1 (F a 2) 2).toInt) ∧ ((G.1 (F a 2) 2).toInt) ≤ 12)
    (sw : 0 ≤ ((G.1 (F a 8) 6).toInt) ∧ ((G.1 (F a 8) 6).toInt) ≤ 1080)
    (t4 : ((G4.1 (F a 14) 1).toInt) = 0)
    (t8 : (x8.toInt = 1 ∧ 0 ≤ p0.toInt ∧ p0.toInt < 3) ∨ (x8.toInt = 0 ∧ (p0.toInt < 0 ∨ 3 ≤ p0.toInt)))
    (c11 : ¬ (x8.toInt = 0))
    (t15 : (x15.toInt = 1 ∧ 0 ≤ p1.toInt ∧ p1.toInt < 30) ∨ (x15.toInt = 0 ∧ (p1.toInt < 0 ∨ 30 ≤ p1.toInt)))
    (c18 : x15.toInt = 0)
    (c_G46_F_F_a_3_0 : G46.2.1 (F (F a 3) 0) = G.2.1 (F (F a 3) 0))
    (c_G46_F_F_a_8_0 : G46.2.1 (F (F a 8) 0) = G.2.1 (F (F a 8) 0))
    (c_G46_F_F_a_8_1 : G46.2.1 (F (F a 8) 1) = G.2.1 (F (F a 8) 1))
    (c_G46_F_F_a_8_2 : G46.2.1 (F (F a 8) 2) = G.2.1 (F (F a 8) 2))
    (c_G46_F_F_a_8_3 : G46.2.1 (F (F a 8) 3) = G.2.1 (F (F a 8) 3))
    (c_G46_F_F_a_8_4 : G46.2.1 (F (F a 8) 4) = G.2.1 (F (F a 8) 4))
    (c_G46_F_F_a_8_5 : G46.2.1 (F (F a 8) 5) = G.2.1 (F (F a 8) 5))
    (d_G46_F_a_8_6 : G46.1 (F a 8) 6 = G.1 (F a 8) 6) :
    ((-1 : Int) = -1 ∧ ¬ ((0 ≤ p0.toInt ∧ p0.toInt < 3) ∧ (0 ≤ p1.toInt ∧ p1.toInt < 30) ∧ (p2.toInt = -1000 ∨ (-99 ≤ p2.toInt ∧ p2.toInt ≤ 99)) ∧ (p3.toInt = -1000 ∨ (-99 ≤ p3.toInt ∧ p3.toInt ≤ 99)) ∧ (p4.toInt = -1000 ∨ (-99 ≤ p4.toInt ∧ p4.toInt ≤ 99))) ∧ ((vw (G46.2.1 (F (F a 3) 0))) = (vw (G.2.1 (F (F a 3) 0))) ∧ qL G46 F (F a 8) = qL G F (F a 8))) ∨ (((0 ≤ p0.toInt ∧ p0.toInt < 3) ∧ (0 ≤ p1.toInt ∧ p1.toInt < 30) ∧ (p2.toInt = -1000 ∨ (-99 ≤ p2.toInt ∧ p2.toInt ≤ 99)) ∧ (p3.toInt = -1000 ∨ (-99 ≤ p3.toInt ∧ p3.toInt ≤ 99)) ∧ (p4.toInt = -1000 ∨ (-99 ≤ p4.toInt ∧ p4.toInt ≤ 99))) ∧ (-1 : Int) = -4 ∧ cel (vw (G.2.1 (F (F a 3) 0))) p0.toInt p1.toInt 0 ≠ -2000 ∧ ((vw (G46.2.1 (F (F a 3) 0))) = (vw (G.2.1 (F (F a 3) 0))) ∧ qL G46 F (F a 8) = qL G F (F a 8))) ∨ (((0 ≤ p0.toInt ∧ p0.toInt < 3) ∧ (0 ≤ p1.toInt ∧ p1.toInt < 30) ∧ (p2.toInt = -1000 ∨ (-99 ≤ p2.toInt ∧ p2.toInt ≤ 99)) ∧ (p3.toInt = -1000 ∨ (-99 ≤ p3.toInt ∧ p3.toInt ≤ 99)) ∧ (p4.toInt = -1000 ∨ (-99 ≤ p4.toInt ∧ p4.toInt ≤ 99))) ∧ cel (vw (G.2.1 (F (F a 3) 0))) p0.toInt p1.toInt 0 = -2000 ∧ ActR ((G.1 a 18).toInt) (-1 : Int) (gaL G (G.2.2.1 (F (F a 2) 1)) (vw (G.2.1 (F (F a 3) 0))) (rput3 (vw (G.2.1 (F (F a 3) 0))) p0.toInt p1.toInt p2.toInt p3.toInt p4.toInt) 0 (((G.1 (F a 2) 2).toInt)).toNat) (vw (G.2.1 (F (F a 3) 0))) (vw (G46.2.1 (F (F a 3) 0))) (rput3 (vw (G.2.1 (F (F a 3) 0))) p0.toInt p1.toInt p2.toInt p3.toInt p4.toInt) (qL G F (F a 8)) (qL G46 F (F a 8)) (gaL G (G.2.2.1 (F (F a 2) 1)) (vw (G.2.1 (F (F a 4) 0))) (rput3 (vw (G.2.1 (F (F a 3) 0))) p0.toInt p1.toInt p2.toInt p3.toInt p4.toInt) 1 (((G.1 (F a 2) 2).toInt)).toNat)) := by
  exact Or.inl ⟨rfl, fun h => by omega, by rw [c_G46_F_F_a_3_0], qL_cg d_G46_F_a_8_6 c_G46_F_F_a_8_0 c_G46_F_F_a_8_1 c_G46_F_F_a_8_2 c_G46_F_F_a_8_3 c_G46_F_F_a_8_4 c_G46_F_F_a_8_5⟩
theorem v_X10_put_49_4 {F : Nat → Nat → Nat} (a : Nat) (G : XG) (G46 : XG)
    (ron : RO (vw (G.2.1 (F (F a 3) 0))) (aI (G.2.1 (F (F a 3) 1))))
    (c_G46_F_F_a_3_0 : G46.2.1 (F (F a 3) 0) = G.2.1 (F (F a 3) 0))
    (c_G46_F_F_a_3_1 : G46.2.1 (F (F a 3) 1) = G.2.1 (F (F a 3) 1)) :
    RO (vw (G46.2.1 (F (F a 3) 0))) (aI (G46.2.1 (F (F a 3) 1))) := by
  rw [c_G46_F_F_a_3_0, c_G46_F_F_a_3_1]; exact ron
theorem v_X10_put_49_5 {K : Nat → Nat} {F : Nat → Nat → Nat} (a : Nat) (G : XG) (G46 : XG) (G4 : XG) (x8 : Int32) (p0 : Int32) (x15 : Int32) (p1 : Int32) (x22 : Int32) (p2 : Int32) (p3 : Int32) (p4 : Int32)
    (ha : K a = 12)
    (hk9999 : K (F a 11) = 3)
    (hj9999 : F (F a 11) 99 = 0)
    (hk9999a : K (F a 9) = 6)
    (hj9999a : F (F a 9) 99 = 1)
    (hk9999b : K (F a 14) = 11)
    (hj9999b : F (F a 14) 99 = 0)
    (hk9999c : K (F a 10) = 6)
    (hj9999c : F (F a 10) 99 = 2)
    (hk9999d : K (F a 8) = 6)
    (hj9999d : F (F a 8) 99 = 0)
    (hk9999e : K (F (F a 11) 0) = 21)
    (hj9999e : F (F (F a 11) 0) 99 = 100)
    (hk9999f : K (F (F a 11) 1) = 21)
    (hj9999f : F (F (F a 11) 1) 99 = 101)
    (hk9999g : K (F (F a 11) 2) = 24)
    (hj9999g : F (F (F a 11) 2) 99 = 4)
    (hk9999h : K (F (F a 9) 0) = 22)
    (hj9999i : F (F (F a 9) 0) 99 = 10 * 1 + 0)
    (hk9999i : K (F (F a 9) 1) = 22)
    (hj9999k : F (F (F a 9) 1) 99 = 10 * 1 + 1)
    (hk9999j : K (F (F a 9) 2) = 22)
    (hj9999m : F (F (F a 9) 2) 99 = 10 * 1 + 2)
    (hk9999k : K (F (F a 9) 3) = 22)
    (hj9999o : F (F (F a 9) 3) 99 = 10 * 1 + 3)
    (hk9999l : K (F (F a 9) 4) = 23)
    (hj9999q : F (F (F a 9) 4) 99 = 10 * 1 + 4)
    (hk9999m : K (F (F a 9) 5) = 23)
    (hj9999s : F (F (F a 9) 5) 99 = 10 * 1 + 5)
    (hk9999n : K (F a 16) = 27)
    (hj9999t : F (F a 16) 99 = 0)
    (hk9999o : K (F a 15) = 26)
    (hj9999u : F (F a 15) 99 = 0)
    (hk9999p : K (F (F a 10) 0) = 22)
    (hj9999w : F (F (F a 10) 0) 99 = 10 * 2 + 0)
    (hk9999q : K (F (F a 10) 1) = 22)
    (hj9999z25 : F (F (F a 10) 1) 99 = 10 * 2 + 1)
    (hk9999r : K (F (F a 10) 2) = 22)
    (hj9999z27 : F (F (F a 10) 2) 99 = 10 * 2 + 2)
    (hk9999s : K (F (F a 10) 3) = 22)
    (hj9999z29 : F (F (F a 10) 3) 99 = 10 * 2 + 3)
    (hk9999t : K (F (F a 10) 4) = 23)
    (hj9999z31 : F (F (F a 10) 4) 99 = 10 * 2 + 4)
    (hk9999u : K (F (F a 10) 5) = 23)
    (hj9999z33 : F (F (F a 10) 5) 99 = 10 * 2 + 5)
    (hk9999v : K (F a 3) = 8)
    (hj9999z34 : F (F a 3) 99 = 0)
    (hk9999w : K (F (F a 3) 0) = 20)
    (hj9999z36 : F (F (F a 3) 0) 99 = 0)
    (hk9999y : K (F (F a 3) 1) = 21)
    (hj9999z38 : F (F (F a 3) 1) 99 = 0)
    (hk9999z25 : K (F (F a 8) 0) = 22)
    (hj9999z40 : F (F (F a 8) 0) 99 = 10 * 0 + 0)
    (hk9999z26 : K (F (F a 8) 1) = 22)
    (hj9999z42 : F (F (F a 8) 1) 99 = 10 * 0 + 1)
    (hk9999z27 : K (F (F a 8) 2) = 22)
    (hj9999z44 : F (F (F a 8) 2) 99 = 10 * 0 + 2)
    (hk9999z28 : K (F (F a 8) 3) = 22)
    (hj9999z46 : F (F (F a 8) 3) 99 = 10 * 0 + 3)
    (hk9999z29 : K (F (F a 8) 4) = 23)
    (hj9999z48 : F (F (F a 8) 4) 99 = 10 * 0 + 4)
    (hk9999z30 : K (F (F a 8) 5) = 23)
    (hj9999z50 : F (F (F a 8) 5) 99 = 10 * 0 + 5)
    (hk9999z31 : K (F a 5) = 8)
    (hj9999z51 : F (F a 5) 99 = 2)
    (hk9999z32 : K (F (F a 5) 0) = 20)
    (hj9999z53 : F (F (F a 5) 0) 99 = 2)
    (hk9999z33 : K (F (F a 5) 1) = 21)
    (hj9999z55 : F (F (F a 5) 1) 99 = 2)
    (hk9999z34 : K (F a 2) = 2)
    (hj9999z56 : F (F a 2) 99 = 0)
    (hk9999z35 : K (F (F a 2) 1) = 15)
    (hj9999z57 : F (F (F a 2) 1) 99 = 1)
    (hk9999z36 : K (F (F a 2) 0) = 15)
    (hj9999z58 : F (F (F a 2) 0) 99 = 0)
    (hk9999z37 : K (F a 4) = 8)
    (hj9999z59 : F (F a 4) 99 = 1)
    (hk9999z38 : K (F (F a 4) 0) = 20)
    (hj9999z61 : F (F (F a 4) 0) 99 = 1)
    (hk9999z39 : K (F (F a 4) 1) = 21)
    (hj9999z63 : F (F (F a 4) 1) 99 = 1)
    (sb : 0 ≤ ((G.1 (F a 2) 2).toInt) ∧ ((G.1 (F a 2) 2).toInt) ≤ 12)
    (sw : 0 ≤ ((G.1 (F a 8) 6).toInt) ∧ ((G.1 (F a 8) 6).toInt) ≤ 1080)
    (t4 : ((G4.1 (F a 14) 1).toInt) = 0)
    (t8 : (x8.toInt = 1 ∧ 0 ≤ p0.toInt ∧ p0.toInt < 3) ∨ (x8.toInt = 0 ∧ (p0.toInt < 0 ∨ 3 ≤ p0.toInt)))
    (c11 : ¬ (x8.toInt = 0))
    (t15 : (x15.toInt = 1 ∧ 0 ≤ p1.toInt ∧ p1.toInt < 30) ∨ (x15.toInt = 0 ∧ (p1.toInt < 0 ∨ 30 ≤ p1.toInt)))
    (c18 : ¬ (x15.toInt = 0))
    (t22 : (x22.toInt = 1 ∧ (p2.toInt = -1000 ∨ (-99 ≤ p2.toInt ∧ p2.toInt < 100))) ∨ (x22.toInt = 0 ∧ p2.toInt ≠ -1000 ∧ (p2.toInt < -99 ∨ 100 ≤ p2.toInt)))
    (c25 : x22.toInt = 0)
    (c_G46_F_F_a_3_0 : G46.2.1 (F (F a 3) 0) = G.2.1 (F (F a 3) 0))
    (c_G46_F_F_a_8_0 : G46.2.1 (F (F a 8) 0) = G.2.1 (F (F a 8) 0))
    (c_G46_F_F_a_8_1 : G46.2.1 (F (F a 8) 1) = G.2.1 (F (F a 8) 1))
    (c_G46_F_F_a_8_2 : G46.2.1 (F (F a 8) 2) = G.2.1 (F (F a 8) 2))
    (c_G46_F_F_a_8_3 : G46.2.1 (F (F a 8) 3) = G.2.1 (F (F a 8) 3))
    (c_G46_F_F_a_8_4 : G46.2.1 (F (F a 8) 4) = G.2.1 (F (F a 8) 4))
    (c_G46_F_F_a_8_5 : G46.2.1 (F (F a 8) 5) = G.2.1 (F (F a 8) 5))
    (d_G46_F_a_8_6 : G46.1 (F a 8) 6 = G.1 (F a 8) 6) :
    ((-1 : Int) = -1 ∧ ¬ ((0 ≤ p0.toInt ∧ p0.toInt < 3) ∧ (0 ≤ p1.toInt ∧ p1.toInt < 30) ∧ (p2.toInt = -1000 ∨ (-99 ≤ p2.toInt ∧ p2.toInt ≤ 99)) ∧ (p3.toInt = -1000 ∨ (-99 ≤ p3.toInt ∧ p3.toInt ≤ 99)) ∧ (p4.toInt = -1000 ∨ (-99 ≤ p4.toInt ∧ p4.toInt ≤ 99))) ∧ ((vw (G46.2.1 (F (F a 3) 0))) = (vw (G.2.1 (F (F a 3) 0))) ∧ qL G46 F (F a 8) = qL G F (F a 8))) ∨ (((0 ≤ p0.toInt ∧ p0.toInt < 3) ∧ (0 ≤ p1.toInt ∧ p1.toInt < 30) ∧ (p2.toInt = -1000 ∨ (-99 ≤ p2.toInt ∧ p2.toInt ≤ 99)) ∧ (p3.toInt = -1000 ∨ (-99 ≤ p3.toInt ∧ p3.toInt ≤ 99)) ∧ (p4.toInt = -1000 ∨ (-99 ≤ p4.toInt ∧ p4.toInt ≤ 99))) ∧ (-1 : Int) = -4 ∧ cel (vw (G.2.1 (F (F a 3) 0))) p0.toInt p1.toInt 0 ≠ -2000 ∧ ((vw (G46.2.1 (F (F a 3) 0))) = (vw (G.2.1 (F (F a 3) 0))) ∧ qL G46 F (F a 8) = qL G F (F a 8))) ∨ (((0 ≤ p0.toInt ∧ p0.toInt < 3) ∧ (0 ≤ p1.toInt ∧ p1.toInt < 30) ∧ (p2.toInt = -1000 ∨ (-99 ≤ p2.toInt ∧ p2.toInt ≤ 99)) ∧ (p3.toInt = -1000 ∨ (-99 ≤ p3.toInt ∧ p3.toInt ≤ 99)) ∧ (p4.toInt = -1000 ∨ (-99 ≤ p4.toInt ∧ p4.toInt ≤ 99))) ∧ cel (vw (G.2.1 (F (F a 3) 0))) p0.toInt p1.toInt 0 = -2000 ∧ ActR ((G.1 a 18).toInt) (-1 : Int) (gaL G (G.2.2.1 (F (F a 2) 1)) (vw (G.2.1 (F (F a 3) 0))) (rput3 (vw (G.2.1 (F (F a 3) 0))) p0.toInt p1.toInt p2.toInt p3.toInt p4.toInt) 0 (((G.1 (F a 2) 2).toInt)).toNat) (vw (G.2.1 (F (F a 3) 0))) (vw (G46.2.1 (F (F a 3) 0))) (rput3 (vw (G.2.1 (F (F a 3) 0))) p0.toInt p1.toInt p2.toInt p3.toInt p4.toInt) (qL G F (F a 8)) (qL G46 F (F a 8)) (gaL G (G.2.2.1 (F (F a 2) 1)) (vw (G.2.1 (F (F a 4) 0))) (rput3 (vw (G.2.1 (F (F a 3) 0))) p0.toInt p1.toInt p2.toInt p3.toInt p4.toInt) 1 (((G.1 (F a 2) 2).toInt)).toNat)) := by
  exact Or.inl ⟨rfl, fun h => by omega, by rw [c_G46_F_F_a_3_0], qL_cg d_G46_F_a_8_6 c_G46_F_F_a_8_0 c_G46_F_F_a_8_1 c_G46_F_F_a_8_2 c_G46_F_F_a_8_3 c_G46_F_F_a_8_4 c_G46_F_F_a_8_5⟩
theorem v_X10_put_49_6 {F : Nat → Nat → Nat} (a : Nat) (G : XG) (G46 : XG)
    (ron : RO (vw (G.2.1 (F (F a 3) 0))) (aI (G.2.1 (F (F a 3) 1))))
    (c_G46_F_F_a_3_0 : G46.2.1 (F (F a 3) 0) = G.2.1 (F (F a 3) 0))
    (c_G46_F_F_a_3_1 : G46.2.1 (F (F a 3) 1) = G.2.1 (F (F a 3) 1)) :
    RO (vw (G46.2.1 (F (F a 3) 0))) (aI (G46.2.1 (F (F a 3) 1))) := by
  rw [c_G46_F_F_a_3_0, c_G46_F_F_a_3_1]; exact ron
theorem v_X10_put_49_7 {K : Nat → Nat} {F : Nat → Nat → Nat} (a : Nat) (G : XG) (G46 : XG) (G4 : XG) (x8 : Int32) (p0 : Int32) (x15 : Int32) (p1 : Int32) (x22 : Int32) (p2 : Int32) (x30 : Int32) (p3 : Int32) (p4 : Int32)
    (ha : K a = 12)
    (hk9999 : K (F a 11) = 3)
    (hj9999 : F (F a 11) 99 = 0)
    (hk9999a : K (F a 9) = 6)
    (hj9999a : F (F a 9) 99 = 1)
    (hk9999b : K (F a 14) = 11)
    (hj9999b : F (F a 14) 99 = 0)
    (hk9999c : K (F a 10) = 6)
    (hj9999c : F (F a 10) 99 = 2)
    (hk9999d : K (F a 8) = 6)
    (hj9999d : F (F a 8) 99 = 0)
    (hk9999e : K (F (F a 11) 0) = 21)
    (hj9999e : F (F (F a 11) 0) 99 = 100)
    (hk9999f : K (F (F a 11) 1) = 21)
    (hj9999f : F (F (F a 11) 1) 99 = 101)
    (hk9999g : K (F (F a 11) 2) = 24)
    (hj9999g : F (F (F a 11) 2) 99 = 4)
    (hk9999h : K (F (F a 9) 0) = 22)
    (hj9999i : F (F (F a 9) 0) 99 = 10 * 1 + 0)
    (hk9999i : K (F (F a 9) 1) = 22)
    (hj9999k : F (F (F a 9) 1) 99 = 10 * 1 + 1)
    (hk9999j : K (F (F a 9) 2) = 22)
    (hj9999m : F (F (F a 9) 2) 99 = 10 * 1 + 2)
    (hk9999k : K (F (F a 9) 3) = 22)
    (hj9999o : F (F (F a 9) 3) 99 = 10 * 1 + 3)
    (hk9999l : K (F (F a 9) 4) = 23)
    (hj9999q : F (F (F a 9) 4) 99 = 10 * 1 + 4)
    (hk9999m : K (F (F a 9) 5) = 23)
    (hj9999s : F (F (F a 9) 5) 99 = 10 * 1 + 5)
    (hk9999n : K (F a 16) = 27)
    (hj9999t : F (F a 16) 99 = 0)
    (hk9999o : K (F a 15) = 26)
    (hj9999u : F (F a 15) 99 = 0)
    (hk9999p : K (F (F a 10) 0) = 22)
    (hj9999w : F (F (F a 10) 0) 99 = 10 * 2 + 0)
    (hk9999q : K (F (F a 10) 1) = 22)
    (hj9999z25 : F (F (F a 10) 1) 99 = 10 * 2 + 1)
    (hk9999r : K (F (F a 10) 2) = 22)
    (hj9999z27 : F (F (F a 10) 2) 99 = 10 * 2 + 2)
    (hk9999s : K (F (F a 10) 3) = 22)
    (hj9999z29 : F (F (F a 10) 3) 99 = 10 * 2 + 3)
    (hk9999t : K (F (F a 10) 4) = 23)
    (hj9999z31 : F (F (F a 10) 4) 99 = 10 * 2 + 4)
    (hk9999u : K (F (F a 10) 5) = 23)
    (hj9999z33 : F (F (F a 10) 5) 99 = 10 * 2 + 5)
    (hk9999v : K (F a 3) = 8)
    (hj9999z34 : F (F a 3) 99 = 0)
    (hk9999w : K (F (F a 3) 0) = 20)
    (hj9999z36 : F (F (F a 3) 0) 99 = 0)
    (hk9999y : K (F (F a 3) 1) = 21)
    (hj9999z38 : F (F (F a 3) 1) 99 = 0)
    (hk9999z25 : K (F (F a 8) 0) = 22)
    (hj9999z40 : F (F (F a 8) 0) 99 = 10 * 0 + 0)
    (hk9999z26 : K (F (F a 8) 1) = 22)
    (hj9999z42 : F (F (F a 8) 1) 99 = 10 * 0 + 1)
    (hk9999z27 : K (F (F a 8) 2) = 22)
    (hj9999z44 : F (F (F a 8) 2) 99 = 10 * 0 + 2)
    (hk9999z28 : K (F (F a 8) 3) = 22)
    (hj9999z46 : F (F (F a 8) 3) 99 = 10 * 0 + 3)
    (hk9999z29 : K (F (F a 8) 4) = 23)
    (hj9999z48 : F (F (F a 8) 4) 99 = 10 * 0 + 4)
    (hk9999z30 : K (F (F a 8) 5) = 23)
    (hj9999z50 : F (F (F a 8) 5) 99 = 10 * 0 + 5)
    (hk9999z31 : K (F a 5) = 8)
    (hj9999z51 : F (F a 5) 99 = 2)
    (hk9999z32 : K (F (F a 5) 0) = 20)
    (hj9999z53 : F (F (F a 5) 0) 99 = 2)
    (hk9999z33 : K (F (F a 5) 1) = 21)
    (hj9999z55 : F (F (F a 5) 1) 99 = 2)
    (hk9999z34 : K (F a 2) = 2)
    (hj9999z56 : F (F a 2) 99 = 0)
    (hk9999z35 : K (F (F a 2) 1) = 15)
    (hj9999z57 : F (F (F a 2) 1) 99 = 1)
    (hk9999z36 : K (F (F a 2) 0) = 15)
    (hj9999z58 : F (F (F a 2) 0) 99 = 0)
    (hk9999z37 : K (F a 4) = 8)
    (hj9999z59 : F (F a 4) 99 = 1)
    (hk9999z38 : K (F (F a 4) 0) = 20)
    (hj9999z61 : F (F (F a 4) 0) 99 = 1)
    (hk9999z39 : K (F (F a 4) 1) = 21)
    (hj9999z63 : F (F (F a 4) 1) 99 = 1)
    (sb : 0 ≤ ((G.1 (F a 2) 2).toInt) ∧ ((G.1 (F a 2) 2).toInt) ≤ 12)
    (sw : 0 ≤ ((G.1 (F a 8) 6).toInt) ∧ ((G.1 (F a 8) 6).toInt) ≤ 1080)
    (t4 : ((G4.1 (F a 14) 1).toInt) = 0)
    (t8 : (x8.toInt = 1 ∧ 0 ≤ p0.toInt ∧ p0.toInt < 3) ∨ (x8.toInt = 0 ∧ (p0.toInt < 0 ∨ 3 ≤ p0.toInt)))
    (c11 : ¬ (x8.toInt = 0))
    (t15 : (x15.toInt = 1 ∧ 0 ≤ p1.toInt ∧ p1.toInt < 30) ∨ (x15.toInt = 0 ∧ (p1.toInt < 0 ∨ 30 ≤ p1.toInt)))
    (c18 : ¬ (x15.toInt = 0))
    (t22 : (x22.toInt = 1 ∧ (p2.toInt = -1000 ∨ (-99 ≤ p2.toInt ∧ p2.toInt < 100))) ∨ (x22.toInt = 0 ∧ p2.toInt ≠ -1000 ∧ (p2.toInt < -99 ∨ 100 ≤ p2.toInt)))
    (c25 : ¬ (x22.toInt = 0))
    (t30 : (x30.toInt = 1 ∧ (p3.toInt = -1000 ∨ (-99 ≤ p3.toInt ∧ p3.toInt < 100))) ∨ (x30.toInt = 0 ∧ p3.toInt ≠ -1000 ∧ (p3.toInt < -99 ∨ 100 ≤ p3.toInt)))
    (c33 : x30.toInt = 0)
    (c_G46_F_F_a_3_0 : G46.2.1 (F (F a 3) 0) = G.2.1 (F (F a 3) 0))
    (c_G46_F_F_a_8_0 : G46.2.1 (F (F a 8) 0) = G.2.1 (F (F a 8) 0))
    (c_G46_F_F_a_8_1 : G46.2.1 (F (F a 8) 1) = G.2.1 (F (F a 8) 1))
    (c_G46_F_F_a_8_2 : G46.2.1 (F (F a 8) 2) = G.2.1 (F (F a 8) 2))
    (c_G46_F_F_a_8_3 : G46.2.1 (F (F a 8) 3) = G.2.1 (F (F a 8) 3))
    (c_G46_F_F_a_8_4 : G46.2.1 (F (F a 8) 4) = G.2.1 (F (F a 8) 4))
    (c_G46_F_F_a_8_5 : G46.2.1 (F (F a 8) 5) = G.2.1 (F (F a 8) 5))
    (d_G46_F_a_8_6 : G46.1 (F a 8) 6 = G.1 (F a 8) 6) :
    ((-1 : Int) = -1 ∧ ¬ ((0 ≤ p0.toInt ∧ p0.toInt < 3) ∧ (0 ≤ p1.toInt ∧ p1.toInt < 30) ∧ (p2.toInt = -1000 ∨ (-99 ≤ p2.toInt ∧ p2.toInt ≤ 99)) ∧ (p3.toInt = -1000 ∨ (-99 ≤ p3.toInt ∧ p3.toInt ≤ 99)) ∧ (p4.toInt = -1000 ∨ (-99 ≤ p4.toInt ∧ p4.toInt ≤ 99))) ∧ ((vw (G46.2.1 (F (F a 3) 0))) = (vw (G.2.1 (F (F a 3) 0))) ∧ qL G46 F (F a 8) = qL G F (F a 8))) ∨ (((0 ≤ p0.toInt ∧ p0.toInt < 3) ∧ (0 ≤ p1.toInt ∧ p1.toInt < 30) ∧ (p2.toInt = -1000 ∨ (-99 ≤ p2.toInt ∧ p2.toInt ≤ 99)) ∧ (p3.toInt = -1000 ∨ (-99 ≤ p3.toInt ∧ p3.toInt ≤ 99)) ∧ (p4.toInt = -1000 ∨ (-99 ≤ p4.toInt ∧ p4.toInt ≤ 99))) ∧ (-1 : Int) = -4 ∧ cel (vw (G.2.1 (F (F a 3) 0))) p0.toInt p1.toInt 0 ≠ -2000 ∧ ((vw (G46.2.1 (F (F a 3) 0))) = (vw (G.2.1 (F (F a 3) 0))) ∧ qL G46 F (F a 8) = qL G F (F a 8))) ∨ (((0 ≤ p0.toInt ∧ p0.toInt < 3) ∧ (0 ≤ p1.toInt ∧ p1.toInt < 30) ∧ (p2.toInt = -1000 ∨ (-99 ≤ p2.toInt ∧ p2.toInt ≤ 99)) ∧ (p3.toInt = -1000 ∨ (-99 ≤ p3.toInt ∧ p3.toInt ≤ 99)) ∧ (p4.toInt = -1000 ∨ (-99 ≤ p4.toInt ∧ p4.toInt ≤ 99))) ∧ cel (vw (G.2.1 (F (F a 3) 0))) p0.toInt p1.toInt 0 = -2000 ∧ ActR ((G.1 a 18).toInt) (-1 : Int) (gaL G (G.2.2.1 (F (F a 2) 1)) (vw (G.2.1 (F (F a 3) 0))) (rput3 (vw (G.2.1 (F (F a 3) 0))) p0.toInt p1.toInt p2.toInt p3.toInt p4.toInt) 0 (((G.1 (F a 2) 2).toInt)).toNat) (vw (G.2.1 (F (F a 3) 0))) (vw (G46.2.1 (F (F a 3) 0))) (rput3 (vw (G.2.1 (F (F a 3) 0))) p0.toInt p1.toInt p2.toInt p3.toInt p4.toInt) (qL G F (F a 8)) (qL G46 F (F a 8)) (gaL G (G.2.2.1 (F (F a 2) 1)) (vw (G.2.1 (F (F a 4) 0))) (rput3 (vw (G.2.1 (F (F a 3) 0))) p0.toInt p1.toInt p2.toInt p3.toInt p4.toInt) 1 (((G.1 (F a 2) 2).toInt)).toNat)) := by
  exact Or.inl ⟨rfl, fun h => by omega, by rw [c_G46_F_F_a_3_0], qL_cg d_G46_F_a_8_6 c_G46_F_F_a_8_0 c_G46_F_F_a_8_1 c_G46_F_F_a_8_2 c_G46_F_F_a_8_3 c_G46_F_F_a_8_4 c_G46_F_F_a_8_5⟩
theorem v_X10_put_49_8 {F : Nat → Nat → Nat} (a : Nat) (G : XG) (G46 : XG)
    (ron : RO (vw (G.2.1 (F (F a 3) 0))) (aI (G.2.1 (F (F a 3) 1))))
    (c_G46_F_F_a_3_0 : G46.2.1 (F (F a 3) 0) = G.2.1 (F (F a 3) 0))
    (c_G46_F_F_a_3_1 : G46.2.1 (F (F a 3) 1) = G.2.1 (F (F a 3) 1)) :
    RO (vw (G46.2.1 (F (F a 3) 0))) (aI (G46.2.1 (F (F a 3) 1))) := by
  rw [c_G46_F_F_a_3_0, c_G46_F_F_a_3_1]; exact ron
theorem v_X10_put_56_9 {F : Nat → Nat → Nat} (a : Nat) (G : XG) (G4 : XG)
    (ron : RO (vw (G.2.1 (F (F a 3) 0))) (aI (G.2.1 (F (F a 3) 1))))
    (rob : RO (vw (G.2.1 (F (F a 4) 0))) (aI (G.2.1 (F (F a 4) 1))))
    (c_G4_F_F_a_3_0 : G4.2.1 (F (F a 3) 0) = G.2.1 (F (F a 3) 0))
    (c_G4_F_F_a_3_1 : G4.2.1 (F (F a 3) 1) = G.2.1 (F (F a 3) 1)) :
    RO (vw (G4.2.1 (F (F a 3) 0))) (aI (G4.2.1 (F (F a 3) 1))) := by simp only [c_G4_F_F_a_3_0, c_G4_F_F_a_3_1]; assumption
theorem v_X10_put_77_10 {F : Nat → Nat → Nat} (a : Nat) (G : XG) (G4 : XG)
    (ron : RO (vw (G.2.1 (F (F a 3) 0))) (aI (G.2.1 (F (F a 3) 1))))
    (rob : RO (vw (G.2.1 (F (F a 4) 0))) (aI (G.2.1 (F (F a 4) 1))))
    (c_G4_F_F_a_3_0 : G4.2.1 (F (F a 3) 0) = G.2.1 (F (F a 3) 0))
    (c_G4_F_F_a_3_1 : G4.2.1 (F (F a 3) 1) = G.2.1 (F (F a 3) 1)) :
    RO (vw (G4.2.1 (F (F a 3) 0))) (aI (G4.2.1 (F (F a 3) 1))) := by simp only [c_G4_F_F_a_3_0, c_G4_F_F_a_3_1]; assumption
theorem v_X10_put_86_11 {F : Nat → Nat → Nat} (a : Nat) (G77 : XG)
    (oq77a : RO (vw (G77.2.1 (F (F a 5) 0))) (aI (G77.2.1 (F (F a 5) 1)))) :
    RO (vw (G77.2.1 (F (F a 5) 0))) (aI (G77.2.1 (F (F a 5) 1))) := by exact oq77a
theorem v_X10_put_97_12 {F : Nat → Nat → Nat} (a : Nat) (G86 : XG)
    (oq86a : RO (vw (G86.2.1 (F (F a 5) 0))) (aI (G86.2.1 (F (F a 5) 1)))) :
    RO (vw (G86.2.1 (F (F a 5) 0))) (aI (G86.2.1 (F (F a 5) 1))) := by exact oq86a
theorem v_X10_put_109_13 {F : Nat → Nat → Nat} (a : Nat) (G97 : XG)
    (oq97a : RO (vw (G97.2.1 (F (F a 5) 0))) (aI (G97.2.1 (F (F a 5) 1)))) :
    RO (vw (G97.2.1 (F (F a 5) 0))) (aI (G97.2.1 (F (F a 5) 1))) := by exact oq97a
theorem v_X10_put_121_14 {F : Nat → Nat → Nat} (a : Nat) (G109 : XG)
    (oq109a : RO (vw (G109.2.1 (F (F a 5) 0))) (aI (G109.2.1 (F (F a 5) 1)))) :
    RO (vw (G109.2.1 (F (F a 5) 0))) (aI (G109.2.1 (F (F a 5) 1))) := by exact oq109a
theorem v_X10_put_125_15 {F : Nat → Nat → Nat} (a : Nat) (G : XG) (G121 : XG) (G77 : XG) (G86 : XG) (G97 : XG) (G109 : XG)
    (ron : RO (vw (G.2.1 (F (F a 3) 0))) (aI (G.2.1 (F (F a 3) 1))))
    (rob : RO (vw (G.2.1 (F (F a 4) 0))) (aI (G.2.1 (F (F a 4) 1))))
    (oq77a : RO (vw (G77.2.1 (F (F a 5) 0))) (aI (G77.2.1 (F (F a 5) 1))))
    (oq86a : RO (vw (G86.2.1 (F (F a 5) 0))) (aI (G86.2.1 (F (F a 5) 1))))
    (oq97a : RO (vw (G97.2.1 (F (F a 5) 0))) (aI (G97.2.1 (F (F a 5) 1))))
    (oq109a : RO (vw (G109.2.1 (F (F a 5) 0))) (aI (G109.2.1 (F (F a 5) 1))))
    (oq121a : RO (vw (G121.2.1 (F (F a 5) 0))) (aI (G121.2.1 (F (F a 5) 1))))
    (c_G121_F_F_a_3_0 : G121.2.1 (F (F a 3) 0) = G.2.1 (F (F a 3) 0))
    (c_G121_F_F_a_3_1 : G121.2.1 (F (F a 3) 1) = G.2.1 (F (F a 3) 1)) :
    RO (vw (G121.2.1 (F (F a 3) 0))) (aI (G121.2.1 (F (F a 3) 1))) := by simp only [c_G121_F_F_a_3_0, c_G121_F_F_a_3_1]; assumption
theorem v_X10_put_125_16 {F : Nat → Nat → Nat} (a : Nat) (G121 : XG)
    (oq121a : RO (vw (G121.2.1 (F (F a 5) 0))) (aI (G121.2.1 (F (F a 5) 1)))) :
    RO (vw (G121.2.1 (F (F a 5) 0))) (aI (G121.2.1 (F (F a 5) 1))) := by
  exact oq121a
theorem v_X10_put_125_17 {F : Nat → Nat → Nat} (a : Nat) (G : XG) (G121 : XG) (G77 : XG) (G86 : XG) (G97 : XG) (G109 : XG)
    (ron : RO (vw (G.2.1 (F (F a 3) 0))) (aI (G.2.1 (F (F a 3) 1))))
    (rob : RO (vw (G.2.1 (F (F a 4) 0))) (aI (G.2.1 (F (F a 4) 1))))
    (oq77a : RO (vw (G77.2.1 (F (F a 5) 0))) (aI (G77.2.1 (F (F a 5) 1))))
    (oq86a : RO (vw (G86.2.1 (F (F a 5) 0))) (aI (G86.2.1 (F (F a 5) 1))))
    (oq97a : RO (vw (G97.2.1 (F (F a 5) 0))) (aI (G97.2.1 (F (F a 5) 1))))
    (oq109a : RO (vw (G109.2.1 (F (F a 5) 0))) (aI (G109.2.1 (F (F a 5) 1))))
    (oq121a : RO (vw (G121.2.1 (F (F a 5) 0))) (aI (G121.2.1 (F (F a 5) 1))))
    (c_G121_F_F_a_4_0 : G121.2.1 (F (F a 4) 0) = G.2.1 (F (F a 4) 0))
    (c_G121_F_F_a_4_1 : G121.2.1 (F (F a 4) 1) = G.2.1 (F (F a 4) 1)) :
    RO (vw (G121.2.1 (F (F a 4) 0))) (aI (G121.2.1 (F (F a 4) 1))) := by simp only [c_G121_F_F_a_4_0, c_G121_F_F_a_4_1]; assumption
theorem v_X10_put_125_18 {K : Nat → Nat} {F : Nat → Nat → Nat} (a : Nat) (G : XG) (G121 : XG) (G4 : XG) (G77 : XG) (G86 : XG) (G97 : XG) (G109 : XG) (p0 : Int32) (p1 : Int32) (p2 : Int32) (p3 : Int32) (p4 : Int32) (x8 : Int32) (x15 : Int32) (x22 : Int32) (x30 : Int32) (x38 : Int32) (x56 : Int32)
    (ha : K a = 12)
    (hk9999 : K (F a 11) = 3)
    (hj9999 : F (F a 11) 99 = 0)
    (hk9999a : K (F a 9) = 6)
    (hj9999a : F (F a 9) 99 = 1)
    (hk9999b : K (F a 14) = 11)
    (hj9999b : F (F a 14) 99 = 0)
    (hk9999c : K (F a 10) = 6)
    (hj9999c : F (F a 10) 99 = 2)
    (hk9999d : K (F a 8) = 6)
    (hj9999d : F (F a 8) 99 = 0)
    (hk9999e : K (F (F a 11) 0) = 21)
    (hj9999e : F (F (F a 11) 0) 99 = 100)
    (hk9999f : K (F (F a 11) 1) = 21)
    (hj9999f : F (F (F a 11) 1) 99 = 101)
    (hk9999g : K (F (F a 11) 2) = 24)
    (hj9999g : F (F (F a 11) 2) 99 = 4)
    (hk9999h : K (F (F a 9) 0) = 22)
    (hj9999i : F (F (F a 9) 0) 99 = 10 * 1 + 0)
    (hk9999i : K (F (F a 9) 1) = 22)
    (hj9999k : F (F (F a 9) 1) 99 = 10 * 1 + 1)
    (hk9999j : K (F (F a 9) 2) = 22)
    (hj9999m : F (F (F a 9) 2) 99 = 10 * 1 + 2)
    (hk9999k : K (F (F a 9) 3) = 22)
    (hj9999o : F (F (F a 9) 3) 99 = 10 * 1 + 3)
    (hk9999l : K (F (F a 9) 4) = 23)
    (hj9999q : F (F (F a 9) 4) 99 = 10 * 1 + 4)
    (hk9999m : K (F (F a 9) 5) = 23)
    (hj9999s : F (F (F a 9) 5) 99 = 10 * 1 + 5)
    (hk9999n : K (F a 16) = 27)
    (hj9999t : F (F a 16) 99 = 0)
    (hk9999o : K (F a 15) = 26)
    (hj9999u : F (F a 15) 99 = 0)
    (hk9999p : K (F (F a 10) 0) = 22)
    (hj9999w : F (F (F a 10) 0) 99 = 10 * 2 + 0)
    (hk9999q : K (F (F a 10) 1) = 22)
    (hj9999z25 : F (F (F a 10) 1) 99 = 10 * 2 + 1)
    (hk9999r : K (F (F a 10) 2) = 22)
    (hj9999z27 : F (F (F a 10) 2) 99 = 10 * 2 + 2)
    (hk9999s : K (F (F a 10) 3) = 22)
    (hj9999z29 : F (F (F a 10) 3) 99 = 10 * 2 + 3)
    (hk9999t : K (F (F a 10) 4) = 23)
    (hj9999z31 : F (F (F a 10) 4) 99 = 10 * 2 + 4)
    (hk9999u : K (F (F a 10) 5) = 23)
    (hj9999z33 : F (F (F a 10) 5) 99 = 10 * 2 + 5)
    (hk9999v : K (F a 3) = 8)
    (hj9999z34 : F (F a 3) 99 = 0)
    (hk9999w : K (F (F a 3) 0) = 20)
    (hj9999z36 : F (F (F a 3) 0) 99 = 0)
    (hk9999y : K (F (F a 3) 1) = 21)
    (hj9999z38 : F (F (F a 3) 1) 99 = 0)
    (hk9999z25 : K (F (F a 8) 0) = 22)
    (hj9999z40 : F (F (F a 8) 0) 99 = 10 * 0 + 0)
    (hk9999z26 : K (F (F a 8) 1) = 22)
    (hj9999z42 : F (F (F a 8) 1) 99 = 10 * 0 + 1)
    (hk9999z27 : K (F (F a 8) 2) = 22)
    (hj9999z44 : F (F (F a 8) 2) 99 = 10 * 0 + 2)
    (hk9999z28 : K (F (F a 8) 3) = 22)
    (hj9999z46 : F (F (F a 8) 3) 99 = 10 * 0 + 3)
    (hk9999z29 : K (F (F a 8) 4) = 23)
    (hj9999z48 : F (F (F a 8) 4) 99 = 10 * 0 + 4)
    (hk9999z30 : K (F (F a 8) 5) = 23)
    (hj9999z50 : F (F (F a 8) 5) 99 = 10 * 0 + 5)
    (hk9999z31 : K (F a 5) = 8)
    (hj9999z51 : F (F a 5) 99 = 2)
    (hk9999z32 : K (F (F a 5) 0) = 20)
    (hj9999z53 : F (F (F a 5) 0) 99 = 2)
    (hk9999z33 : K (F (F a 5) 1) = 21)
    (hj9999z55 : F (F (F a 5) 1) 99 = 2)
    (hk9999z34 : K (F a 2) = 2)
    (hj9999z56 : F (F a 2) 99 = 0)
    (hk9999z35 : K (F (F a 2) 1) = 15)
    (hj9999z57 : F (F (F a 2) 1) 99 = 1)
    (hk9999z36 : K (F (F a 2) 0) = 15)
    (hj9999z58 : F (F (F a 2) 0) 99 = 0)
    (hk9999z37 : K (F a 4) = 8)
    (hj9999z59 : F (F a 4) 99 = 1)
    (hk9999z38 : K (F (F a 4) 0) = 20)
    (hj9999z61 : F (F (F a 4) 0) 99 = 1)
    (hk9999z39 : K (F (F a 4) 1) = 21)
    (hj9999z63 : F (F (F a 4) 1) 99 = 1)
    (hfr : XFr [(F a 11, 3), (F a 9, 6), (F a 14, 1), (F a 14, 2), (F a 14, 3), (F a 10, 6), (F a 8, 6)] [F (F a 11) 0, F (F a 11) 1, F (F a 11) 2, F (F a 9) 0, F (F a 9) 1, F (F a 9) 2, F (F a 9) 3, F (F a 9) 4, F (F a 9) 5, F a 16, F a 15, F (F a 10) 0, F (F a 10) 1, F (F a 10) 2, F (F a 10) 3, F (F a 10) 4, F (F a 10) 5, F (F a 3) 0, F (F a 3) 1, F (F a 8) 0, F (F a 8) 1, F (F a 8) 2, F (F a 8) 3, F (F a 8) 4, F (F a 8) 5, F (F a 5) 0, F (F a 5) 1] [] G G121)
    (hF4 : XFr [(F a 14, 1)] [] [] G G4)
    (hF77 : XFr [] [F (F a 5) 0, F (F a 5) 1] [] G4 G77)
    (hF86 : XFr [] [F (F a 5) 0, F (F a 5) 1] [] G77 G86)
    (hF97 : XFr [] [F (F a 5) 0] [] G86 G97)
    (hF109 : XFr [] [F (F a 5) 0] [] G97 G109)
    (hF121 : XFr [] [F (F a 5) 0] [] G109 G121)
    (ron : RO (vw (G.2.1 (F (F a 3) 0))) (aI (G.2.1 (F (F a 3) 1))))
    (rob : RO (vw (G.2.1 (F (F a 4) 0))) (aI (G.2.1 (F (F a 4) 1))))
    (bko : BKr K G (G.2.2.1 (F (F a 2) 1)))
    (bkn : BKr K G (G.2.2.1 (F (F a 2) 0)))
    (oq77 : (vw (G77.2.1 (F (F a 5) 0))) = (vw (G.2.1 (F (F a 3) 0))))
    (oq77a : RO (vw (G77.2.1 (F (F a 5) 0))) (aI (G77.2.1 (F (F a 5) 1))))
    (oq86 : (vw (G86.2.1 (F (F a 5) 0))) = rfil (vw (G77.2.1 (F (F a 5) 0))) (p0.toInt) (p1.toInt) (-1000) 3)
    (oq86a : RO (vw (G86.2.1 (F (F a 5) 0))) (aI (G86.2.1 (F (F a 5) 1))))
    (oq97 : (vw (G97.2.1 (F (F a 5) 0))) = if cel (vw (G86.2.1 (F (F a 5) 0))) (p0.toInt) (p1.toInt) 0 ≠ -2000 then rset (vw (G86.2.1 (F (F a 5) 0))) (90 * (p0.toInt) + 30 * (0 : Int) + (p1.toInt)) (p2.toInt) else (vw (G86.2.1 (F (F a 5) 0))))
    (oq97a : RO (vw (G97.2.1 (F (F a 5) 0))) (aI (G97.2.1 (F (F a 5) 1))))
    (oq109 : (vw (G109.2.1 (F (F a 5) 0))) = if cel (vw (G97.2.1 (F (F a 5) 0))) (p0.toInt) (p1.toInt) 0 ≠ -2000 then rset (vw (G97.2.1 (F (F a 5) 0))) (90 * (p0.toInt) + 30 * (1 : Int) + (p1.toInt)) (p3.toInt) else (vw (G97.2.1 (F (F a 5) 0))))
    (oq109a : RO (vw (G109.2.1 (F (F a 5) 0))) (aI (G109.2.1 (F (F a 5) 1))))
    (oq121 : (vw (G121.2.1 (F (F a 5) 0))) = if cel (vw (G109.2.1 (F (F a 5) 0))) (p0.toInt) (p1.toInt) 0 ≠ -2000 then rset (vw (G109.2.1 (F (F a 5) 0))) (90 * (p0.toInt) + 30 * (2 : Int) + (p1.toInt)) (p4.toInt) else (vw (G109.2.1 (F (F a 5) 0))))
    (oq121a : RO (vw (G121.2.1 (F (F a 5) 0))) (aI (G121.2.1 (F (F a 5) 1))))
    (sb : 0 ≤ ((G.1 (F a 2) 2).toInt) ∧ ((G.1 (F a 2) 2).toInt) ≤ 12)
    (sw : 0 ≤ ((G.1 (F a 8) 6).toInt) ∧ ((G.1 (F a 8) 6).toInt) ≤ 1080)
    (t4 : ((G4.1 (F a 14) 1).toInt) = 0)
    (t8 : (x8.toInt = 1 ∧ 0 ≤ p0.toInt ∧ p0.toInt < 3) ∨ (x8.toInt = 0 ∧ (p0.toInt < 0 ∨ 3 ≤ p0.toInt)))
    (c11 : ¬ (x8.toInt = 0))
    (t15 : (x15.toInt = 1 ∧ 0 ≤ p1.toInt ∧ p1.toInt < 30) ∨ (x15.toInt = 0 ∧ (p1.toInt < 0 ∨ 30 ≤ p1.toInt)))
    (c18 : ¬ (x15.toInt = 0))
    (t22 : (x22.toInt = 1 ∧ (p2.toInt = -1000 ∨ (-99 ≤ p2.toInt ∧ p2.toInt < 100))) ∨ (x22.toInt = 0 ∧ p2.toInt ≠ -1000 ∧ (p2.toInt < -99 ∨ 100 ≤ p2.toInt)))
    (c25 : ¬ (x22.toInt = 0))
    (t30 : (x30.toInt = 1 ∧ (p3.toInt = -1000 ∨ (-99 ≤ p3.toInt ∧ p3.toInt < 100))) ∨ (x30.toInt = 0 ∧ p3.toInt ≠ -1000 ∧ (p3.toInt < -99 ∨ 100 ≤ p3.toInt)))
    (c33 : ¬ (x30.toInt = 0))
    (t38 : (x38.toInt = 1 ∧ (p4.toInt = -1000 ∨ (-99 ≤ p4.toInt ∧ p4.toInt < 100))) ∨ (x38.toInt = 0 ∧ p4.toInt ≠ -1000 ∧ (p4.toInt < -99 ∨ 100 ≤ p4.toInt)))
    (c41 : x38.toInt ≠ 0)
    (t56 : (x56.toInt = 1 ∧ (cel (vw (G.2.1 (F (F a 3) 0))) (p0.toInt) (p1.toInt) 0) ≠ -2000) ∨ (x56.toInt = 0 ∧ (cel (vw (G.2.1 (F (F a 3) 0))) (p0.toInt) (p1.toInt) 0) = -2000))
    (c59 : x56.toInt = 0)
    (c_G109_F_F_a_5_1 : G109.2.1 (F (F a 5) 1) = G86.2.1 (F (F a 5) 1))
    (c_G121_F_F_a_10_0 : G121.2.1 (F (F a 10) 0) = G.2.1 (F (F a 10) 0))
    (c_G121_F_F_a_10_1 : G121.2.1 (F (F a 10) 1) = G.2.1 (F (F a 10) 1))
    (c_G121_F_F_a_10_2 : G121.2.1 (F (F a 10) 2) = G.2.1 (F (F a 10) 2))
    (c_G121_F_F_a_10_3 : G121.2.1 (F (F a 10) 3) = G.2.1 (F (F a 10) 3))
    (c_G121_F_F_a_10_4 : G121.2.1 (F (F a 10) 4) = G.2.1 (F (F a 10) 4))
    (c_G121_F_F_a_10_5 : G121.2.1 (F (F a 10) 5) = G.2.1 (F (F a 10) 5))
    (c_G121_F_F_a_11_0 : G121.2.1 (F (F a 11) 0) = G.2.1 (F (F a 11) 0))
    (c_G121_F_F_a_11_1 : G121.2.1 (F (F a 11) 1) = G.2.1 (F (F a 11) 1))
    (c_G121_F_F_a_11_2 : G121.2.1 (F (F a 11) 2) = G.2.1 (F (F a 11) 2))
    (c_G121_F_F_a_3_0 : G121.2.1 (F (F a 3) 0) = G.2.1 (F (F a 3) 0))
    (c_G121_F_F_a_3_1 : G121.2.1 (F (F a 3) 1) = G.2.1 (F (F a 3) 1))
    (c_G121_F_F_a_5_1 : G121.2.1 (F (F a 5) 1) = G86.2.1 (F (F a 5) 1))
    (c_G121_F_F_a_8_0 : G121.2.1 (F (F a 8) 0) = G.2.1 (F (F a 8) 0))
    (c_G121_F_F_a_8_1 : G121.2.1 (F (F a 8) 1) = G.2.1 (F (F a 8) 1))
    (c_G121_F_F_a_8_2 : G121.2.1 (F (F a 8) 2) = G.2.1 (F (F a 8) 2))
    (c_G121_F_F_a_8_3 : G121.2.1 (F (F a 8) 3) = G.2.1 (F (F a 8) 3))
    (c_G121_F_F_a_8_4 : G121.2.1 (F (F a 8) 4) = G.2.1 (F (F a 8) 4))
    (c_G121_F_F_a_8_5 : G121.2.1 (F (F a 8) 5) = G.2.1 (F (F a 8) 5))
    (c_G121_F_F_a_9_0 : G121.2.1 (F (F a 9) 0) = G.2.1 (F (F a 9) 0))
    (c_G121_F_F_a_9_1 : G121.2.1 (F (F a 9) 1) = G.2.1 (F (F a 9) 1))
    (c_G121_F_F_a_9_2 : G121.2.1 (F (F a 9) 2) = G.2.1 (F (F a 9) 2))
    (c_G121_F_F_a_9_3 : G121.2.1 (F (F a 9) 3) = G.2.1 (F (F a 9) 3))
    (c_G121_F_F_a_9_4 : G121.2.1 (F (F a 9) 4) = G.2.1 (F (F a 9) 4))
    (c_G121_F_F_a_9_5 : G121.2.1 (F (F a 9) 5) = G.2.1 (F (F a 9) 5))
    (c_G121_F_a_15 : G121.2.1 (F a 15) = G.2.1 (F a 15))
    (c_G121_F_a_16 : G121.2.1 (F a 16) = G.2.1 (F a 16))
    (c_G97_F_F_a_5_1 : G97.2.1 (F (F a 5) 1) = G86.2.1 (F (F a 5) 1))
    (r_G121_F_F_a_2_1 : G121.2.2.1 (F (F a 2) 1) = G.2.2.1 (F (F a 2) 1))
    (d_G121_F_a_10_6 : G121.1 (F a 10) 6 = G.1 (F a 10) 6)
    (d_G121_F_a_11_3 : G121.1 (F a 11) 3 = G.1 (F a 11) 3)
    (d_G121_F_a_14_1 : G121.1 (F a 14) 1 = G4.1 (F a 14) 1)
    (d_G121_F_a_14_2 : G121.1 (F a 14) 2 = G.1 (F a 14) 2)
    (d_G121_F_a_14_3 : G121.1 (F a 14) 3 = G.1 (F a 14) 3)
    (d_G121_F_a_8_6 : G121.1 (F a 8) 6 = G.1 (F a 8) 6)
    (d_G121_F_a_9_6 : G121.1 (F a 9) 6 = G.1 (F a 9) 6) :
    BKr K G121 (G121.2.2.1 (F (F a 2) 1)) := by
  have hd : ∀ p, p ∈ [(F a 11, 3), (F a 9, 6), (F a 14, 1), (F a 14, 2), (F a 14, 3), (F a 10, 6), (F a 8, 6)] → K p.1 ≠ 9 := (List.forall_mem_cons.mpr ⟨(show K (F a 11) ≠ 9 by omega), List.forall_mem_cons.mpr ⟨(show K (F a 9) ≠ 9 by omega), List.forall_mem_cons.mpr ⟨(show K (F a 14) ≠ 9 by omega), List.forall_mem_cons.mpr ⟨(show K (F a 14) ≠ 9 by omega), List.forall_mem_cons.mpr ⟨(show K (F a 14) ≠ 9 by omega), List.forall_mem_cons.mpr ⟨(show K (F a 10) ≠ 9 by omega), List.forall_mem_cons.mpr ⟨(show K (F a 8) ≠ 9 by omega), fun _ h => by cases h⟩⟩⟩⟩⟩⟩⟩)
  rw [show G121.2.2.1 (F (F a 2) 1) = G.2.2.1 (F (F a 2) 1) by assumption]
  exact bko.fr hfr hd
theorem v_X10_put_125_19 {K : Nat → Nat} {F : Nat → Nat → Nat} (a : Nat) (G : XG) (G121 : XG) (G4 : XG) (G77 : XG) (G86 : XG) (G97 : XG) (G109 : XG) (p0 : Int32) (p1 : Int32) (p2 : Int32) (p3 : Int32) (p4 : Int32) (x8 : Int32) (x15 : Int32) (x22 : Int32) (x30 : Int32) (x38 : Int32) (x56 : Int32)
    (ha : K a = 12)
    (hk9999 : K (F a 11) = 3)
    (hj9999 : F (F a 11) 99 = 0)
    (hk9999a : K (F a 9) = 6)
    (hj9999a : F (F a 9) 99 = 1)
    (hk9999b : K (F a 14) = 11)
    (hj9999b : F (F a 14) 99 = 0)
    (hk9999c : K (F a 10) = 6)
    (hj9999c : F (F a 10) 99 = 2)
    (hk9999d : K (F a 8) = 6)
    (hj9999d : F (F a 8) 99 = 0)
    (hk9999e : K (F (F a 11) 0) = 21)
    (hj9999e : F (F (F a 11) 0) 99 = 100)
    (hk9999f : K (F (F a 11) 1) = 21)
    (hj9999f : F (F (F a 11) 1) 99 = 101)
    (hk9999g : K (F (F a 11) 2) = 24)
    (hj9999g : F (F (F a 11) 2) 99 = 4)
    (hk9999h : K (F (F a 9) 0) = 22)
    (hj9999i : F (F (F a 9) 0) 99 = 10 * 1 + 0)
    (hk9999i : K (F (F a 9) 1) = 22)
    (hj9999k : F (F (F a 9) 1) 99 = 10 * 1 + 1)
    (hk9999j : K (F (F a 9) 2) = 22)
    (hj9999m : F (F (F a 9) 2) 99 = 10 * 1 + 2)
    (hk9999k : K (F (F a 9) 3) = 22)
    (hj9999o : F (F (F a 9) 3) 99 = 10 * 1 + 3)
    (hk9999l : K (F (F a 9) 4) = 23)
    (hj9999q : F (F (F a 9) 4) 99 = 10 * 1 + 4)
    (hk9999m : K (F (F a 9) 5) = 23)
    (hj9999s : F (F (F a 9) 5) 99 = 10 * 1 + 5)
    (hk9999n : K (F a 16) = 27)
    (hj9999t : F (F a 16) 99 = 0)
    (hk9999o : K (F a 15) = 26)
    (hj9999u : F (F a 15) 99 = 0)
    (hk9999p : K (F (F a 10) 0) = 22)
    (hj9999w : F (F (F a 10) 0) 99 = 10 * 2 + 0)
    (hk9999q : K (F (F a 10) 1) = 22)
    (hj9999z25 : F (F (F a 10) 1) 99 = 10 * 2 + 1)
    (hk9999r : K (F (F a 10) 2) = 22)
    (hj9999z27 : F (F (F a 10) 2) 99 = 10 * 2 + 2)
    (hk9999s : K (F (F a 10) 3) = 22)
    (hj9999z29 : F (F (F a 10) 3) 99 = 10 * 2 + 3)
    (hk9999t : K (F (F a 10) 4) = 23)
    (hj9999z31 : F (F (F a 10) 4) 99 = 10 * 2 + 4)
    (hk9999u : K (F (F a 10) 5) = 23)
    (hj9999z33 : F (F (F a 10) 5) 99 = 10 * 2 + 5)
    (hk9999v : K (F a 3) = 8)
    (hj9999z34 : F (F a 3) 99 = 0)
    (hk9999w : K (F (F a 3) 0) = 20)
    (hj9999z36 : F (F (F a 3) 0) 99 = 0)
    (hk9999y : K (F (F a 3) 1) = 21)
    (hj9999z38 : F (F (F a 3) 1) 99 = 0)
    (hk9999z25 : K (F (F a 8) 0) = 22)
    (hj9999z40 : F (F (F a 8) 0) 99 = 10 * 0 + 0)
    (hk9999z26 : K (F (F a 8) 1) = 22)
    (hj9999z42 : F (F (F a 8) 1) 99 = 10 * 0 + 1)
    (hk9999z27 : K (F (F a 8) 2) = 22)
    (hj9999z44 : F (F (F a 8) 2) 99 = 10 * 0 + 2)
    (hk9999z28 : K (F (F a 8) 3) = 22)
    (hj9999z46 : F (F (F a 8) 3) 99 = 10 * 0 + 3)
    (hk9999z29 : K (F (F a 8) 4) = 23)
    (hj9999z48 : F (F (F a 8) 4) 99 = 10 * 0 + 4)
    (hk9999z30 : K (F (F a 8) 5) = 23)
    (hj9999z50 : F (F (F a 8) 5) 99 = 10 * 0 + 5)
    (hk9999z31 : K (F a 5) = 8)
    (hj9999z51 : F (F a 5) 99 = 2)
    (hk9999z32 : K (F (F a 5) 0) = 20)
    (hj9999z53 : F (F (F a 5) 0) 99 = 2)
    (hk9999z33 : K (F (F a 5) 1) = 21)
    (hj9999z55 : F (F (F a 5) 1) 99 = 2)
    (hk9999z34 : K (F a 2) = 2)
    (hj9999z56 : F (F a 2) 99 = 0)
    (hk9999z35 : K (F (F a 2) 1) = 15)
    (hj9999z57 : F (F (F a 2) 1) 99 = 1)
    (hk9999z36 : K (F (F a 2) 0) = 15)
    (hj9999z58 : F (F (F a 2) 0) 99 = 0)
    (hk9999z37 : K (F a 4) = 8)
    (hj9999z59 : F (F a 4) 99 = 1)
    (hk9999z38 : K (F (F a 4) 0) = 20)
    (hj9999z61 : F (F (F a 4) 0) 99 = 1)
    (hk9999z39 : K (F (F a 4) 1) = 21)
    (hj9999z63 : F (F (F a 4) 1) 99 = 1)
    (hfr : XFr [(F a 11, 3), (F a 9, 6), (F a 14, 1), (F a 14, 2), (F a 14, 3), (F a 10, 6), (F a 8, 6)] [F (F a 11) 0, F (F a 11) 1, F (F a 11) 2, F (F a 9) 0, F (F a 9) 1, F (F a 9) 2, F (F a 9) 3, F (F a 9) 4, F (F a 9) 5, F a 16, F a 15, F (F a 10) 0, F (F a 10) 1, F (F a 10) 2, F (F a 10) 3, F (F a 10) 4, F (F a 10) 5, F (F a 3) 0, F (F a 3) 1, F (F a 8) 0, F (F a 8) 1, F (F a 8) 2, F (F a 8) 3, F (F a 8) 4, F (F a 8) 5, F (F a 5) 0, F (F a 5) 1] [] G G121)
    (hF4 : XFr [(F a 14, 1)] [] [] G G4)
    (hF77 : XFr [] [F (F a 5) 0, F (F a 5) 1] [] G4 G77)
    (hF86 : XFr [] [F (F a 5) 0, F (F a 5) 1] [] G77 G86)
    (hF97 : XFr [] [F (F a 5) 0] [] G86 G97)
    (hF109 : XFr [] [F (F a 5) 0] [] G97 G109)
    (hF121 : XFr [] [F (F a 5) 0] [] G109 G121)
    (ron : RO (vw (G.2.1 (F (F a 3) 0))) (aI (G.2.1 (F (F a 3) 1))))
    (rob : RO (vw (G.2.1 (F (F a 4) 0))) (aI (G.2.1 (F (F a 4) 1))))
    (bko : BKr K G (G.2.2.1 (F (F a 2) 1)))
    (bkn : BKr K G (G.2.2.1 (F (F a 2) 0)))
    (oq77 : (vw (G77.2.1 (F (F a 5) 0))) = (vw (G.2.1 (F (F a 3) 0))))
    (oq77a : RO (vw (G77.2.1 (F (F a 5) 0))) (aI (G77.2.1 (F (F a 5) 1))))
    (oq86 : (vw (G86.2.1 (F (F a 5) 0))) = rfil (vw (G77.2.1 (F (F a 5) 0))) (p0.toInt) (p1.toInt) (-1000) 3)
    (oq86a : RO (vw (G86.2.1 (F (F a 5) 0))) (aI (G86.2.1 (F (F a 5) 1))))
    (oq97 : (vw (G97.2.1 (F (F a 5) 0))) = if cel (vw (G86.2.1 (F (F a 5) 0))) (p0.toInt) (p1.toInt) 0 ≠ -2000 then rset (vw (G86.2.1 (F (F a 5) 0))) (90 * (p0.toInt) + 30 * (0 : Int) + (p1.toInt)) (p2.toInt) else (vw (G86.2.1 (F (F a 5) 0))))
    (oq97a : RO (vw (G97.2.1 (F (F a 5) 0))) (aI (G97.2.1 (F (F a 5) 1))))
    (oq109 : (vw (G109.2.1 (F (F a 5) 0))) = if cel (vw (G97.2.1 (F (F a 5) 0))) (p0.toInt) (p1.toInt) 0 ≠ -2000 then rset (vw (G97.2.1 (F (F a 5) 0))) (90 * (p0.toInt) + 30 * (1 : Int) + (p1.toInt)) (p3.toInt) else (vw (G97.2.1 (F (F a 5) 0))))
    (oq109a : RO (vw (G109.2.1 (F (F a 5) 0))) (aI (G109.2.1 (F (F a 5) 1))))
    (oq121 : (vw (G121.2.1 (F (F a 5) 0))) = if cel (vw (G109.2.1 (F (F a 5) 0))) (p0.toInt) (p1.toInt) 0 ≠ -2000 then rset (vw (G109.2.1 (F (F a 5) 0))) (90 * (p0.toInt) + 30 * (2 : Int) + (p1.toInt)) (p4.toInt) else (vw (G109.2.1 (F (F a 5) 0))))
    (oq121a : RO (vw (G121.2.1 (F (F a 5) 0))) (aI (G121.2.1 (F (F a 5) 1))))
    (sb : 0 ≤ ((G.1 (F a 2) 2).toInt) ∧ ((G.1 (F a 2) 2).toInt) ≤ 12)
    (sw : 0 ≤ ((G.1 (F a 8) 6).toInt) ∧ ((G.1 (F a 8) 6).toInt) ≤ 1080)
    (t4 : ((G4.1 (F a 14) 1).toInt) = 0)
    (t8 : (x8.toInt = 1 ∧ 0 ≤ p0.toInt ∧ p0.toInt < 3) ∨ (x8.toInt = 0 ∧ (p0.toInt < 0 ∨ 3 ≤ p0.toInt)))
    (c11 : ¬ (x8.toInt = 0))
    (t15 : (x15.toInt = 1 ∧ 0 ≤ p1.toInt ∧ p1.toInt < 30) ∨ (x15.toInt = 0 ∧ (p1.toInt < 0 ∨ 30 ≤ p1.toInt)))
    (c18 : ¬ (x15.toInt = 0))
    (t22 : (x22.toInt = 1 ∧ (p2.toInt = -1000 ∨ (-99 ≤ p2.toInt ∧ p2.toInt < 100))) ∨ (x22.toInt = 0 ∧ p2.toInt ≠ -1000 ∧ (p2.toInt < -99 ∨ 100 ≤ p2.toInt)))
    (c25 : ¬ (x22.toInt = 0))
    (t30 : (x30.toInt = 1 ∧ (p3.toInt = -1000 ∨ (-99 ≤ p3.toInt ∧ p3.toInt < 100))) ∨ (x30.toInt = 0 ∧ p3.toInt ≠ -1000 ∧ (p3.toInt < -99 ∨ 100 ≤ p3.toInt)))
    (c33 : ¬ (x30.toInt = 0))
    (t38 : (x38.toInt = 1 ∧ (p4.toInt = -1000 ∨ (-99 ≤ p4.toInt ∧ p4.toInt < 100))) ∨ (x38.toInt = 0 ∧ p4.toInt ≠ -1000 ∧ (p4.toInt < -99 ∨ 100 ≤ p4.toInt)))
    (c41 : x38.toInt ≠ 0)
    (t56 : (x56.toInt = 1 ∧ (cel (vw (G.2.1 (F (F a 3) 0))) (p0.toInt) (p1.toInt) 0) ≠ -2000) ∨ (x56.toInt = 0 ∧ (cel (vw (G.2.1 (F (F a 3) 0))) (p0.toInt) (p1.toInt) 0) = -2000))
    (c59 : x56.toInt = 0)
    (c_G109_F_F_a_5_1 : G109.2.1 (F (F a 5) 1) = G86.2.1 (F (F a 5) 1))
    (c_G121_F_F_a_10_0 : G121.2.1 (F (F a 10) 0) = G.2.1 (F (F a 10) 0))
    (c_G121_F_F_a_10_1 : G121.2.1 (F (F a 10) 1) = G.2.1 (F (F a 10) 1))
    (c_G121_F_F_a_10_2 : G121.2.1 (F (F a 10) 2) = G.2.1 (F (F a 10) 2))
    (c_G121_F_F_a_10_3 : G121.2.1 (F (F a 10) 3) = G.2.1 (F (F a 10) 3))
    (c_G121_F_F_a_10_4 : G121.2.1 (F (F a 10) 4) = G.2.1 (F (F a 10) 4))
    (c_G121_F_F_a_10_5 : G121.2.1 (F (F a 10) 5) = G.2.1 (F (F a 10) 5))
    (c_G121_F_F_a_11_0 : G121.2.1 (F (F a 11) 0) = G.2.1 (F (F a 11) 0))
    (c_G121_F_F_a_11_1 : G121.2.1 (F (F a 11) 1) = G.2.1 (F (F a 11) 1))
    (c_G121_F_F_a_11_2 : G121.2.1 (F (F a 11) 2) = G.2.1 (F (F a 11) 2))
    (c_G121_F_F_a_3_0 : G121.2.1 (F (F a 3) 0) = G.2.1 (F (F a 3) 0))
    (c_G121_F_F_a_3_1 : G121.2.1 (F (F a 3) 1) = G.2.1 (F (F a 3) 1))
    (c_G121_F_F_a_5_1 : G121.2.1 (F (F a 5) 1) = G86.2.1 (F (F a 5) 1))
    (c_G121_F_F_a_8_0 : G121.2.1 (F (F a 8) 0) = G.2.1 (F (F a 8) 0))
    (c_G121_F_F_a_8_1 : G121.2.1 (F (F a 8) 1) = G.2.1 (F (F a 8) 1))
    (c_G121_F_F_a_8_2 : G121.2.1 (F (F a 8) 2) = G.2.1 (F (F a 8) 2))
    (c_G121_F_F_a_8_3 : G121.2.1 (F (F a 8) 3) = G.2.1 (F (F a 8) 3))
    (c_G121_F_F_a_8_4 : G121.2.1 (F (F a 8) 4) = G.2.1 (F (F a 8) 4))
    (c_G121_F_F_a_8_5 : G121.2.1 (F (F a 8) 5) = G.2.1 (F (F a 8) 5))
    (c_G121_F_F_a_9_0 : G121.2.1 (F (F a 9) 0) = G.2.1 (F (F a 9) 0))
    (c_G121_F_F_a_9_1 : G121.2.1 (F (F a 9) 1) = G.2.1 (F (F a 9) 1))
    (c_G121_F_F_a_9_2 : G121.2.1 (F (F a 9) 2) = G.2.1 (F (F a 9) 2))
    (c_G121_F_F_a_9_3 : G121.2.1 (F (F a 9) 3) = G.2.1 (F (F a 9) 3))
    (c_G121_F_F_a_9_4 : G121.2.1 (F (F a 9) 4) = G.2.1 (F (F a 9) 4))
    (c_G121_F_F_a_9_5 : G121.2.1 (F (F a 9) 5) = G.2.1 (F (F a 9) 5))
    (c_G121_F_a_15 : G121.2.1 (F a 15) = G.2.1 (F a 15))
    (c_G121_F_a_16 : G121.2.1 (F a 16) = G.2.1 (F a 16))
    (c_G97_F_F_a_5_1 : G97.2.1 (F (F a 5) 1) = G86.2.1 (F (F a 5) 1))
    (r_G121_F_F_a_2_0 : G121.2.2.1 (F (F a 2) 0) = G.2.2.1 (F (F a 2) 0))
    (r_G121_F_F_a_2_1 : G121.2.2.1 (F (F a 2) 1) = G.2.2.1 (F (F a 2) 1))
    (d_G121_F_a_10_6 : G121.1 (F a 10) 6 = G.1 (F a 10) 6)
    (d_G121_F_a_11_3 : G121.1 (F a 11) 3 = G.1 (F a 11) 3)
    (d_G121_F_a_14_1 : G121.1 (F a 14) 1 = G4.1 (F a 14) 1)
    (d_G121_F_a_14_2 : G121.1 (F a 14) 2 = G.1 (F a 14) 2)
    (d_G121_F_a_14_3 : G121.1 (F a 14) 3 = G.1 (F a 14) 3)
    (d_G121_F_a_8_6 : G121.1 (F a 8) 6 = G.1 (F a 8) 6)
    (d_G121_F_a_9_6 : G121.1 (F a 9) 6 = G.1 (F a 9) 6) :
    BKr K G121 (G121.2.2.1 (F (F a 2) 0)) := by
  have hd : ∀ p, p ∈ [(F a 11, 3), (F a 9, 6), (F a 14, 1), (F a 14, 2), (F a 14, 3), (F a 10, 6), (F a 8, 6)] → K p.1 ≠ 9 := (List.forall_mem_cons.mpr ⟨(show K (F a 11) ≠ 9 by omega), List.forall_mem_cons.mpr ⟨(show K (F a 9) ≠ 9 by omega), List.forall_mem_cons.mpr ⟨(show K (F a 14) ≠ 9 by omega), List.forall_mem_cons.mpr ⟨(show K (F a 14) ≠ 9 by omega), List.forall_mem_cons.mpr ⟨(show K (F a 14) ≠ 9 by omega), List.forall_mem_cons.mpr ⟨(show K (F a 10) ≠ 9 by omega), List.forall_mem_cons.mpr ⟨(show K (F a 8) ≠ 9 by omega), fun _ h => by cases h⟩⟩⟩⟩⟩⟩⟩)
  rw [show G121.2.2.1 (F (F a 2) 0) = G.2.2.1 (F (F a 2) 0) by assumption]
  exact bkn.fr hfr hd
theorem v_X10_put_128_20 {K : Nat → Nat} {F : Nat → Nat → Nat} (a : Nat) (G : XG) (G125 : XG) (G4 : XG) (G77 : XG) (G86 : XG) (G97 : XG) (G109 : XG) (G121 : XG) (p0 : Int32) (p1 : Int32) (p2 : Int32) (p3 : Int32) (p4 : Int32) (x125 : Int32) (x8 : Int32) (x15 : Int32) (x22 : Int32) (x30 : Int32) (x38 : Int32) (x56 : Int32)
    (ha : K a = 12)
    (hk9999 : K (F a 11) = 3)
    (hj9999 : F (F a 11) 99 = 0)
    (hk9999a : K (F a 9) = 6)
    (hj9999a : F (F a 9) 99 = 1)
    (hk9999b : K (F a 14) = 11)
    (hj9999b : F (F a 14) 99 = 0)
    (hk9999c : K (F a 10) = 6)
    (hj9999c : F (F a 10) 99 = 2)
    (hk9999d : K (F a 8) = 6)
    (hj9999d : F (F a 8) 99 = 0)
    (hk9999e : K (F (F a 11) 0) = 21)
    (hj9999e : F (F (F a 11) 0) 99 = 100)
    (hk9999f : K (F (F a 11) 1) = 21)
    (hj9999f : F (F (F a 11) 1) 99 = 101)
    (hk9999g : K (F (F a 11) 2) = 24)
    (hj9999g : F (F (F a 11) 2) 99 = 4)
    (hk9999h : K (F (F a 9) 0) = 22)
    (hj9999i : F (F (F a 9) 0) 99 = 10 * 1 + 0)
    (hk9999i : K (F (F a 9) 1) = 22)
    (hj9999k : F (F (F a 9) 1) 99 = 10 * 1 + 1)
    (hk9999j : K (F (F a 9) 2) = 22)
    (hj9999m : F (F (F a 9) 2) 99 = 10 * 1 + 2)
    (hk9999k : K (F (F a 9) 3) = 22)
    (hj9999o : F (F (F a 9) 3) 99 = 10 * 1 + 3)
    (hk9999l : K (F (F a 9) 4) = 23)
    (hj9999q : F (F (F a 9) 4) 99 = 10 * 1 + 4)
    (hk9999m : K (F (F a 9) 5) = 23)
    (hj9999s : F (F (F a 9) 5) 99 = 10 * 1 + 5)
    (hk9999n : K (F a 16) = 27)
    (hj9999t : F (F a 16) 99 = 0)
    (hk9999o : K (F a 15) = 26)
    (hj9999u : F (F a 15) 99 = 0)
    (hk9999p : K (F (F a 10) 0) = 22)
    (hj9999w : F (F (F a 10) 0) 99 = 10 * 2 + 0)
    (hk9999q : K (F (F a 10) 1) = 22)
    (hj9999z25 : F (F (F a 10) 1) 99 = 10 * 2 + 1)
    (hk9999r : K (F (F a 10) 2) = 22)
    (hj9999z27 : F (F (F a 10) 2) 99 = 10 * 2 + 2)
    (hk9999s : K (F (F a 10) 3) = 22)
    (hj9999z29 : F (F (F a 10) 3) 99 = 10 * 2 + 3)
    (hk9999t : K (F (F a 10) 4) = 23)
    (hj9999z31 : F (F (F a 10) 4) 99 = 10 * 2 + 4)
    (hk9999u : K (F (F a 10) 5) = 23)
    (hj9999z33 : F (F (F a 10) 5) 99 = 10 * 2 + 5)
    (hk9999v : K (F a 3) = 8)
    (hj9999z34 : F (F a 3) 99 = 0)
    (hk9999w : K (F (F a 3) 0) = 20)
    (hj9999z36 : F (F (F a 3) 0) 99 = 0)
    (hk9999y : K (F (F a 3) 1) = 21)
    (hj9999z38 : F (F (F a 3) 1) 99 = 0)
    (hk9999z25 : K (F (F a 8) 0) = 22)
    (hj9999z40 : F (F (F a 8) 0) 99 = 10 * 0 + 0)
    (hk9999z26 : K (F (F a 8) 1) = 22)
    (hj9999z42 : F (F (F a 8) 1) 99 = 10 * 0 + 1)
    (hk9999z27 : K (F (F a 8) 2) = 22)
    (hj9999z44 : F (F (F a 8) 2) 99 = 10 * 0 + 2)
    (hk9999z28 : K (F (F a 8) 3) = 22)
    (hj9999z46 : F (F (F a 8) 3) 99 = 10 * 0 + 3)
    (hk9999z29 : K (F (F a 8) 4) = 23)
    (hj9999z48 : F (F (F a 8) 4) 99 = 10 * 0 + 4)
    (hk9999z30 : K (F (F a 8) 5) = 23)
    (hj9999z50 : F (F (F a 8) 5) 99 = 10 * 0 + 5)
    (hk9999z31 : K (F a 5) = 8)
    (hj9999z51 : F (F a 5) 99 = 2)
    (hk9999z32 : K (F (F a 5) 0) = 20)
    (hj9999z53 : F (F (F a 5) 0) 99 = 2)
    (hk9999z33 : K (F (F a 5) 1) = 21)
    (hj9999z55 : F (F (F a 5) 1) 99 = 2)
    (hk9999z34 : K (F a 2) = 2)
    (hj9999z56 : F (F a 2) 99 = 0)
    (hk9999z35 : K (F (F a 2) 1) = 15)
    (hj9999z57 : F (F (F a 2) 1) 99 = 1)
    (hk9999z36 : K (F (F a 2) 0) = 15)
    (hj9999z58 : F (F (F a 2) 0) 99 = 0)
    (hk9999z37 : K (F a 4) = 8)
    (hj9999z59 : F (F a 4) 99 = 1)
    (hk9999z38 : K (F (F a 4) 0) = 20)
    (hj9999z61 : F (F (F a 4) 0) 99 = 1)
    (hk9999z39 : K (F (F a 4) 1) = 21)
    (hj9999z63 : F (F (F a 4) 1) 99 = 1)
    (hfr : XFr [(F a 11, 3), (F a 9, 6), (F a 14, 1), (F a 14, 2), (F a 14, 3), (F a 10, 6), (F a 8, 6)] [F (F a 11) 0, F (F a 11) 1, F (F a 11) 2, F (F a 9) 0, F (F a 9) 1, F (F a 9) 2, F (F a 9) 3, F (F a 9) 4, F (F a 9) 5, F a 16, F a 15, F (F a 10) 0, F (F a 10) 1, F (F a 10) 2, F (F a 10) 3, F (F a 10) 4, F (F a 10) 5, F (F a 3) 0, F (F a 3) 1, F (F a 8) 0, F (F a 8) 1, F (F a 8) 2, F (F a 8) 3, F (F a 8) 4, F (F a 8) 5, F (F a 5) 0, F (F a 5) 1] [] G G125)
    (hF125 : XFr [(F a 11, 3), (F a 9, 6), (F a 14, 1), (F a 14, 2), (F a 14, 3), (F a 10, 6), (F a 8, 6)] [F (F a 11) 0, F (F a 11) 1, F (F a 11) 2, F (F a 9) 0, F (F a 9) 1, F (F a 9) 2, F (F a 9) 3, F (F a 9) 4, F (F a 9) 5, F a 16, F a 15, F (F a 10) 0, F (F a 10) 1, F (F a 10) 2, F (F a 10) 3, F (F a 10) 4, F (F a 10) 5, F (F a 3) 0, F (F a 3) 1, F (F a 8) 0, F (F a 8) 1, F (F a 8) 2, F (F a 8) 3, F (F a 8) 4, F (F a 8) 5] [] G121 G125)
    (bko : BKr K G (G.2.2.1 (F (F a 2) 1)))
    (oq77 : (vw (G77.2.1 (F (F a 5) 0))) = (vw (G.2.1 (F (F a 3) 0))))
    (oq86 : (vw (G86.2.1 (F (F a 5) 0))) = rfil (vw (G77.2.1 (F (F a 5) 0))) (p0.toInt) (p1.toInt) (-1000) 3)
    (oq97 : (vw (G97.2.1 (F (F a 5) 0))) = if cel (vw (G86.2.1 (F (F a 5) 0))) (p0.toInt) (p1.toInt) 0 ≠ -2000 then rset (vw (G86.2.1 (F (F a 5) 0))) (90 * (p0.toInt) + 30 * (0 : Int) + (p1.toInt)) (p2.toInt) else (vw (G86.2.1 (F (F a 5) 0))))
    (oq109 : (vw (G109.2.1 (F (F a 5) 0))) = if cel (vw (G97.2.1 (F (F a 5) 0))) (p0.toInt) (p1.toInt) 0 ≠ -2000 then rset (vw (G97.2.1 (F (F a 5) 0))) (90 * (p0.toInt) + 30 * (1 : Int) + (p1.toInt)) (p3.toInt) else (vw (G97.2.1 (F (F a 5) 0))))
    (oq121 : (vw (G121.2.1 (F (F a 5) 0))) = if cel (vw (G109.2.1 (F (F a 5) 0))) (p0.toInt) (p1.toInt) 0 ≠ -2000 then rset (vw (G109.2.1 (F (F a 5) 0))) (90 * (p0.toInt) + 30 * (2 : Int) + (p1.toInt)) (p4.toInt) else (vw (G109.2.1 (F (F a 5) 0))))
    (oq125 : ActR ((G.1 a 18).toInt) x125.toInt (gaL G121 (G121.2.2.1 (F (F a 2) 1)) (vw (G.2.1 (F (F a 3) 0))) (vw (G121.2.1 (F (F a 5) 0))) 0 (((G.1 (F a 2) 2).toInt)).toNat) (vw (G.2.1 (F (F a 3) 0))) (vw (G125.2.1 (F (F a 3) 0))) (vw (G121.2.1 (F (F a 5) 0))) (qL G121 F (F a 8)) (qL G125 F (F a 8)) (gaL G121 (G121.2.2.1 (F (F a 2) 1)) (vw (G.2.1 (F (F a 4) 0))) (vw (G121.2.1 (F (F a 5) 0))) 1 (((G.1 (F a 2) 2).toInt)).toNat))
    (sb : 0 ≤ ((G.1 (F a 2) 2).toInt) ∧ ((G.1 (F a 2) 2).toInt) ≤ 12)
    (sw : 0 ≤ ((G.1 (F a 8) 6).toInt) ∧ ((G.1 (F a 8) 6).toInt) ≤ 1080)
    (t4 : ((G4.1 (F a 14) 1).toInt) = 0)
    (t8 : (x8.toInt = 1 ∧ 0 ≤ p0.toInt ∧ p0.toInt < 3) ∨ (x8.toInt = 0 ∧ (p0.toInt < 0 ∨ 3 ≤ p0.toInt)))
    (c11 : ¬ (x8.toInt = 0))
    (t15 : (x15.toInt = 1 ∧ 0 ≤ p1.toInt ∧ p1.toInt < 30) ∨ (x15.toInt = 0 ∧ (p1.toInt < 0 ∨ 30 ≤ p1.toInt)))
    (c18 : ¬ (x15.toInt = 0))
    (t22 : (x22.toInt = 1 ∧ (p2.toInt = -1000 ∨ (-99 ≤ p2.toInt ∧ p2.toInt < 100))) ∨ (x22.toInt = 0 ∧ p2.toInt ≠ -1000 ∧ (p2.toInt < -99 ∨ 100 ≤ p2.toInt)))
    (c25 : ¬ (x22.toInt = 0))
    (t30 : (x30.toInt = 1 ∧ (p3.toInt = -1000 ∨ (-99 ≤ p3.toInt ∧ p3.toInt < 100))) ∨ (x30.toInt = 0 ∧ p3.toInt ≠ -1000 ∧ (p3.toInt < -99 ∨ 100 ≤ p3.toInt)))
    (c33 : ¬ (x30.toInt = 0))
    (t38 : (x38.toInt = 1 ∧ (p4.toInt = -1000 ∨ (-99 ≤ p4.toInt ∧ p4.toInt < 100))) ∨ (x38.toInt = 0 ∧ p4.toInt ≠ -1000 ∧ (p4.toInt < -99 ∨ 100 ≤ p4.toInt)))
    (c41 : x38.toInt ≠ 0)
    (t56 : (x56.toInt = 1 ∧ (cel (vw (G.2.1 (F (F a 3) 0))) (p0.toInt) (p1.toInt) 0) ≠ -2000) ∨ (x56.toInt = 0 ∧ (cel (vw (G.2.1 (F (F a 3) 0))) (p0.toInt) (p1.toInt) 0) = -2000))
    (c59 : x56.toInt = 0)
    (t125 : 0 ≤ ((G125.1 (F a 8) 6).toInt) ∧ ((G125.1 (F a 8) 6).toInt) ≤ 1080)
    (c_G121_F_F_a_8_0 : G121.2.1 (F (F a 8) 0) = G.2.1 (F (F a 8) 0))
    (c_G121_F_F_a_8_1 : G121.2.1 (F (F a 8) 1) = G.2.1 (F (F a 8) 1))
    (c_G121_F_F_a_8_2 : G121.2.1 (F (F a 8) 2) = G.2.1 (F (F a 8) 2))
    (c_G121_F_F_a_8_3 : G121.2.1 (F (F a 8) 3) = G.2.1 (F (F a 8) 3))
    (c_G121_F_F_a_8_4 : G121.2.1 (F (F a 8) 4) = G.2.1 (F (F a 8) 4))
    (c_G121_F_F_a_8_5 : G121.2.1 (F (F a 8) 5) = G.2.1 (F (F a 8) 5))
    (r_G121_F_F_a_2_1 : G121.2.2.1 (F (F a 2) 1) = G.2.2.1 (F (F a 2) 1))
    (d_G121_F_a_8_6 : G121.1 (F a 8) 6 = G.1 (F a 8) 6) :
    (x125.toInt = -1 ∧ ¬ ((0 ≤ p0.toInt ∧ p0.toInt < 3) ∧ (0 ≤ p1.toInt ∧ p1.toInt < 30) ∧ (p2.toInt = -1000 ∨ (-99 ≤ p2.toInt ∧ p2.toInt ≤ 99)) ∧ (p3.toInt = -1000 ∨ (-99 ≤ p3.toInt ∧ p3.toInt ≤ 99)) ∧ (p4.toInt = -1000 ∨ (-99 ≤ p4.toInt ∧ p4.toInt ≤ 99))) ∧ ((vw (G125.2.1 (F (F a 3) 0))) = (vw (G.2.1 (F (F a 3) 0))) ∧ qL G125 F (F a 8) = qL G F (F a 8))) ∨ (((0 ≤ p0.toInt ∧ p0.toInt < 3) ∧ (0 ≤ p1.toInt ∧ p1.toInt < 30) ∧ (p2.toInt = -1000 ∨ (-99 ≤ p2.toInt ∧ p2.toInt ≤ 99)) ∧ (p3.toInt = -1000 ∨ (-99 ≤ p3.toInt ∧ p3.toInt ≤ 99)) ∧ (p4.toInt = -1000 ∨ (-99 ≤ p4.toInt ∧ p4.toInt ≤ 99))) ∧ x125.toInt = -4 ∧ cel (vw (G.2.1 (F (F a 3) 0))) p0.toInt p1.toInt 0 ≠ -2000 ∧ ((vw (G125.2.1 (F (F a 3) 0))) = (vw (G.2.1 (F (F a 3) 0))) ∧ qL G125 F (F a 8) = qL G F (F a 8))) ∨ (((0 ≤ p0.toInt ∧ p0.toInt < 3) ∧ (0 ≤ p1.toInt ∧ p1.toInt < 30) ∧ (p2.toInt = -1000 ∨ (-99 ≤ p2.toInt ∧ p2.toInt ≤ 99)) ∧ (p3.toInt = -1000 ∨ (-99 ≤ p3.toInt ∧ p3.toInt ≤ 99)) ∧ (p4.toInt = -1000 ∨ (-99 ≤ p4.toInt ∧ p4.toInt ≤ 99))) ∧ cel (vw (G.2.1 (F (F a 3) 0))) p0.toInt p1.toInt 0 = -2000 ∧ ActR ((G.1 a 18).toInt) x125.toInt (gaL G (G.2.2.1 (F (F a 2) 1)) (vw (G.2.1 (F (F a 3) 0))) (rput3 (vw (G.2.1 (F (F a 3) 0))) p0.toInt p1.toInt p2.toInt p3.toInt p4.toInt) 0 (((G.1 (F a 2) 2).toInt)).toNat) (vw (G.2.1 (F (F a 3) 0))) (vw (G125.2.1 (F (F a 3) 0))) (rput3 (vw (G.2.1 (F (F a 3) 0))) p0.toInt p1.toInt p2.toInt p3.toInt p4.toInt) (qL G F (F a 8)) (qL G125 F (F a 8)) (gaL G (G.2.2.1 (F (F a 2) 1)) (vw (G.2.1 (F (F a 4) 0))) (rput3 (vw (G.2.1 (F (F a 3) 0))) p0.toInt p1.toInt p2.toInt p3.toInt p4.toInt) 1 (((G.1 (F a 2) 2).toInt)).toNat)) := by
  have hd : ∀ p, p ∈ [(F a 11, 3), (F a 9, 6), (F a 14, 1), (F a 14, 2), (F a 14, 3), (F a 10, 6), (F a 8, 6)] → K p.1 ≠ 9 := (List.forall_mem_cons.mpr ⟨(show K (F a 11) ≠ 9 by omega), List.forall_mem_cons.mpr ⟨(show K (F a 9) ≠ 9 by omega), List.forall_mem_cons.mpr ⟨(show K (F a 14) ≠ 9 by omega), List.forall_mem_cons.mpr ⟨(show K (F a 14) ≠ 9 by omega), List.forall_mem_cons.mpr ⟨(show K (F a 14) ≠ 9 by omega), List.forall_mem_cons.mpr ⟨(show K (F a 10) ≠ 9 by omega), List.forall_mem_cons.mpr ⟨(show K (F a 8) ≠ 9 by omega), fun _ h => by cases h⟩⟩⟩⟩⟩⟩⟩)
  have hd2 : ∀ p, p ∈ [(F a 11, 3), (F a 9, 6), (F a 14, 1), (F a 14, 2), (F a 14, 3), (F a 10, 6), (F a 8, 6)] → K p.1 ≠ 9 := (List.forall_mem_cons.mpr ⟨(show K (F a 11) ≠ 9 by omega), List.forall_mem_cons.mpr ⟨(show K (F a 9) ≠ 9 by omega), List.forall_mem_cons.mpr ⟨(show K (F a 14) ≠ 9 by omega), List.forall_mem_cons.mpr ⟨(show K (F a 14) ≠ 9 by omega), List.forall_mem_cons.mpr ⟨(show K (F a 14) ≠ 9 by omega), List.forall_mem_cons.mpr ⟨(show K (F a 10) ≠ 9 by omega), List.forall_mem_cons.mpr ⟨(show K (F a 8) ≠ 9 by omega), fun _ h => by cases h⟩⟩⟩⟩⟩⟩⟩)
  have hc : ∀ (i q : Nat), i < ((G.1 (F a 2) 2).toInt).toNat → G.2.2.1 (F (F a 2) 1) i = some q → G121.1 q = G.1 q := fun i q hi hq => by
    have hk := (bko i q (by omega) hq).1
    exact (hF125.rule hd2 hk).symm.trans (hfr.rule hd hk)
  have eq8 : qL G121 F (F a 8) = qL G F (F a 8) := qL_cg d_G121_F_a_8_6 c_G121_F_F_a_8_0 c_G121_F_F_a_8_1 c_G121_F_F_a_8_2 c_G121_F_F_a_8_3 c_G121_F_F_a_8_4 c_G121_F_F_a_8_5
  have ep := put3 (by omega) (by omega) oq77 oq86 oq97 oq109 oq121
  rw [ep, r_G121_F_F_a_2_1, gaL_cg hc, gaL_cg hc, eq8] at oq125
  exact Or.inr (Or.inr ⟨⟨by omega, by omega, by omega, by omega, by omega⟩, by omega, oq125⟩)
theorem v_X10_put_128_21 {F : Nat → Nat → Nat} (a : Nat) (G125 : XG)
    (oq125a : RO (vw (G125.2.1 (F (F a 3) 0))) (aI (G125.2.1 (F (F a 3) 1)))) :
    RO (vw (G125.2.1 (F (F a 3) 0))) (aI (G125.2.1 (F (F a 3) 1))) := by
  exact oq125a
theorem v_X10_put_68_22 {K : Nat → Nat} {F : Nat → Nat → Nat} (a : Nat) (G : XG) (G65 : XG) (G4 : XG) (x8 : Int32) (p0 : Int32) (x15 : Int32) (p1 : Int32) (x22 : Int32) (p2 : Int32) (x30 : Int32) (p3 : Int32) (x38 : Int32) (p4 : Int32) (x56 : Int32)
    (ha : K a = 12)
    (hk9999 : K (F a 11) = 3)
    (hj9999 : F (F a 11) 99 = 0)
    (hk9999a : K (F a 9) = 6)
    (hj9999a : F (F a 9) 99 = 1)
    (hk9999b : K (F a 14) = 11)
    (hj9999b : F (F a 14) 99 = 0)
    (hk9999c : K (F a 10) = 6)
    (hj9999c : F (F a 10) 99 = 2)
    (hk9999d : K (F a 8) = 6)
    (hj9999d : F (F a 8) 99 = 0)
    (hk9999e : K (F (F a 11) 0) = 21)
    (hj9999e : F (F (F a 11) 0) 99 = 100)
    (hk9999f : K (F (F a 11) 1) = 21)
    (hj9999f : F (F (F a 11) 1) 99 = 101)
    (hk9999g : K (F (F a 11) 2) = 24)
    (hj9999g : F (F (F a 11) 2) 99 = 4)
    (hk9999h : K (F (F a 9) 0) = 22)
    (hj9999i : F (F (F a 9) 0) 99 = 10 * 1 + 0)
    (hk9999i : K (F (F a 9) 1) = 22)
    (hj9999k : F (F (F a 9) 1) 99 = 10 * 1 + 1)
    (hk9999j : K (F (F a 9) 2) = 22)
    (hj9999m : F (F (F a 9) 2) 99 = 10 * 1 + 2)
    (hk9999k : K (F (F a 9) 3) = 22)
    (hj9999o : F (F (F a 9) 3) 99 = 10 * 1 + 3)
    (hk9999l : K (F (F a 9) 4) = 23)
    (hj9999q : F (F (F a 9) 4) 99 = 10 * 1 + 4)
    (hk9999m : K (F (F a 9) 5) = 23)
    (hj9999s : F (F (F a 9) 5) 99 = 10 * 1 + 5)
    (hk9999n : K (F a 16) = 27)
    (hj9999t : F (F a 16) 99 = 0)
    (hk9999o : K (F a 15) = 26)
    (hj9999u : F (F a 15) 99 = 0)
    (hk9999p : K (F (F a 10) 0) = 22)
    (hj9999w : F (F (F a 10) 0) 99 = 10 * 2 + 0)
    (hk9999q : K (F (F a 10) 1) = 22)
    (hj9999z25 : F (F (F a 10) 1) 99 = 10 * 2 + 1)
    (hk9999r : K (F (F a 10) 2) = 22)
    (hj9999z27 : F (F (F a 10) 2) 99 = 10 * 2 + 2)
    (hk9999s : K (F (F a 10) 3) = 22)
    (hj9999z29 : F (F (F a 10) 3) 99 = 10 * 2 + 3)
    (hk9999t : K (F (F a 10) 4) = 23)
    (hj9999z31 : F (F (F a 10) 4) 99 = 10 * 2 + 4)
    (hk9999u : K (F (F a 10) 5) = 23)
    (hj9999z33 : F (F (F a 10) 5) 99 = 10 * 2 + 5)
    (hk9999v : K (F a 3) = 8)
    (hj9999z34 : F (F a 3) 99 = 0)
    (hk9999w : K (F (F a 3) 0) = 20)
    (hj9999z36 : F (F (F a 3) 0) 99 = 0)
    (hk9999y : K (F (F a 3) 1) = 21)
    (hj9999z38 : F (F (F a 3) 1) 99 = 0)
    (hk9999z25 : K (F (F a 8) 0) = 22)
    (hj9999z40 : F (F (F a 8) 0) 99 = 10 * 0 + 0)
    (hk9999z26 : K (F (F a 8) 1) = 22)
    (hj9999z42 : F (F (F a 8) 1) 99 = 10 * 0 + 1)
    (hk9999z27 : K (F (F a 8) 2) = 22)
    (hj9999z44 : F (F (F a 8) 2) 99 = 10 * 0 + 2)
    (hk9999z28 : K (F (F a 8) 3) = 22)
    (hj9999z46 : F (F (F a 8) 3) 99 = 10 * 0 + 3)
    (hk9999z29 : K (F (F a 8) 4) = 23)
    (hj9999z48 : F (F (F a 8) 4) 99 = 10 * 0 + 4)
    (hk9999z30 : K (F (F a 8) 5) = 23)
    (hj9999z50 : F (F (F a 8) 5) 99 = 10 * 0 + 5)
    (hk9999z31 : K (F a 5) = 8)
    (hj9999z51 : F (F a 5) 99 = 2)
    (hk9999z32 : K (F (F a 5) 0) = 20)
    (hj9999z53 : F (F (F a 5) 0) 99 = 2)
    (hk9999z33 : K (F (F a 5) 1) = 21)
    (hj9999z55 : F (F (F a 5) 1) 99 = 2)
    (hk9999z34 : K (F a 2) = 2)
    (hj9999z56 : F (F a 2) 99 = 0)
    (hk9999z35 : K (F (F a 2) 1) = 15)
    (hj9999z57 : F (F (F a 2) 1) 99 = 1)
    (hk9999z36 : K (F (F a 2) 0) = 15)
    (hj9999z58 : F (F (F a 2) 0) 99 = 0)
    (hk9999z37 : K (F a 4) = 8)
    (hj9999z59 : F (F a 4) 99 = 1)
    (hk9999z38 : K (F (F a 4) 0) = 20)
    (hj9999z61 : F (F (F a 4) 0) 99 = 1)
    (hk9999z39 : K (F (F a 4) 1) = 21)
    (hj9999z63 : F (F (F a 4) 1) 99 = 1)
    (sb : 0 ≤ ((G.1 (F a 2) 2).toInt) ∧ ((G.1 (F a 2) 2).toInt) ≤ 12)
    (sw : 0 ≤ ((G.1 (F a 8) 6).toInt) ∧ ((G.1 (F a 8) 6).toInt) ≤ 1080)
    (t4 : ((G4.1 (F a 14) 1).toInt) = 0)
    (t8 : (x8.toInt = 1 ∧ 0 ≤ p0.toInt ∧ p0.toInt < 3) ∨ (x8.toInt = 0 ∧ (p0.toInt < 0 ∨ 3 ≤ p0.toInt)))
    (c11 : ¬ (x8.toInt = 0))
    (t15 : (x15.toInt = 1 ∧ 0 ≤ p1.toInt ∧ p1.toInt < 30) ∨ (x15.toInt = 0 ∧ (p1.toInt < 0 ∨ 30 ≤ p1.toInt)))
    (c18 : ¬ (x15.toInt = 0))
    (t22 : (x22.toInt = 1 ∧ (p2.toInt = -1000 ∨ (-99 ≤ p2.toInt ∧ p2.toInt < 100))) ∨ (x22.toInt = 0 ∧ p2.toInt ≠ -1000 ∧ (p2.toInt < -99 ∨ 100 ≤ p2.toInt)))
    (c25 : ¬ (x22.toInt = 0))
    (t30 : (x30.toInt = 1 ∧ (p3.toInt = -1000 ∨ (-99 ≤ p3.toInt ∧ p3.toInt < 100))) ∨ (x30.toInt = 0 ∧ p3.toInt ≠ -1000 ∧ (p3.toInt < -99 ∨ 100 ≤ p3.toInt)))
    (c33 : ¬ (x30.toInt = 0))
    (t38 : (x38.toInt = 1 ∧ (p4.toInt = -1000 ∨ (-99 ≤ p4.toInt ∧ p4.toInt < 100))) ∨ (x38.toInt = 0 ∧ p4.toInt ≠ -1000 ∧ (p4.toInt < -99 ∨ 100 ≤ p4.toInt)))
    (c41 : x38.toInt ≠ 0)
    (t56 : (x56.toInt = 1 ∧ (cel (vw (G.2.1 (F (F a 3) 0))) (p0.toInt) (p1.toInt) 0) ≠ -2000) ∨ (x56.toInt = 0 ∧ (cel (vw (G.2.1 (F (F a 3) 0))) (p0.toInt) (p1.toInt) 0) = -2000))
    (c59 : ¬ (x56.toInt = 0))
    (c_G65_F_F_a_3_0 : G65.2.1 (F (F a 3) 0) = G.2.1 (F (F a 3) 0))
    (c_G65_F_F_a_8_0 : G65.2.1 (F (F a 8) 0) = G.2.1 (F (F a 8) 0))
    (c_G65_F_F_a_8_1 : G65.2.1 (F (F a 8) 1) = G.2.1 (F (F a 8) 1))
    (c_G65_F_F_a_8_2 : G65.2.1 (F (F a 8) 2) = G.2.1 (F (F a 8) 2))
    (c_G65_F_F_a_8_3 : G65.2.1 (F (F a 8) 3) = G.2.1 (F (F a 8) 3))
    (c_G65_F_F_a_8_4 : G65.2.1 (F (F a 8) 4) = G.2.1 (F (F a 8) 4))
    (c_G65_F_F_a_8_5 : G65.2.1 (F (F a 8) 5) = G.2.1 (F (F a 8) 5))
    (d_G65_F_a_8_6 : G65.1 (F a 8) 6 = G.1 (F a 8) 6) :
    ((-4 : Int) = -1 ∧ ¬ ((0 ≤ p0.toInt ∧ p0.toInt < 3) ∧ (0 ≤ p1.toInt ∧ p1.toInt < 30) ∧ (p2.toInt = -1000 ∨ (-99 ≤ p2.toInt ∧ p2.toInt ≤ 99)) ∧ (p3.toInt = -1000 ∨ (-99 ≤ p3.toInt ∧ p3.toInt ≤ 99)) ∧ (p4.toInt = -1000 ∨ (-99 ≤ p4.toInt ∧ p4.toInt ≤ 99))) ∧ ((vw (G65.2.1 (F (F a 3) 0))) = (vw (G.2.1 (F (F a 3) 0))) ∧ qL G65 F (F a 8) = qL G F (F a 8))) ∨ (((0 ≤ p0.toInt ∧ p0.toInt < 3) ∧ (0 ≤ p1.toInt ∧ p1.toInt < 30) ∧ (p2.toInt = -1000 ∨ (-99 ≤ p2.toInt ∧ p2.toInt ≤ 99)) ∧ (p3.toInt = -1000 ∨ (-99 ≤ p3.toInt ∧ p3.toInt ≤ 99)) ∧ (p4.toInt = -1000 ∨ (-99 ≤ p4.toInt ∧ p4.toInt ≤ 99))) ∧ (-4 : Int) = -4 ∧ cel (vw (G.2.1 (F (F a 3) 0))) p0.toInt p1.toInt 0 ≠ -2000 ∧ ((vw (G65.2.1 (F (F a 3) 0))) = (vw (G.2.1 (F (F a 3) 0))) ∧ qL G65 F (F a 8) = qL G F (F a 8))) ∨ (((0 ≤ p0.toInt ∧ p0.toInt < 3) ∧ (0 ≤ p1.toInt ∧ p1.toInt < 30) ∧ (p2.toInt = -1000 ∨ (-99 ≤ p2.toInt ∧ p2.toInt ≤ 99)) ∧ (p3.toInt = -1000 ∨ (-99 ≤ p3.toInt ∧ p3.toInt ≤ 99)) ∧ (p4.toInt = -1000 ∨ (-99 ≤ p4.toInt ∧ p4.toInt ≤ 99))) ∧ cel (vw (G.2.1 (F (F a 3) 0))) p0.toInt p1.toInt 0 = -2000 ∧ ActR ((G.1 a 18).toInt) (-4 : Int) (gaL G (G.2.2.1 (F (F a 2) 1)) (vw (G.2.1 (F (F a 3) 0))) (rput3 (vw (G.2.1 (F (F a 3) 0))) p0.toInt p1.toInt p2.toInt p3.toInt p4.toInt) 0 (((G.1 (F a 2) 2).toInt)).toNat) (vw (G.2.1 (F (F a 3) 0))) (vw (G65.2.1 (F (F a 3) 0))) (rput3 (vw (G.2.1 (F (F a 3) 0))) p0.toInt p1.toInt p2.toInt p3.toInt p4.toInt) (qL G F (F a 8)) (qL G65 F (F a 8)) (gaL G (G.2.2.1 (F (F a 2) 1)) (vw (G.2.1 (F (F a 4) 0))) (rput3 (vw (G.2.1 (F (F a 3) 0))) p0.toInt p1.toInt p2.toInt p3.toInt p4.toInt) 1 (((G.1 (F a 2) 2).toInt)).toNat)) := by
  exact Or.inr (Or.inl ⟨⟨by omega, by omega, by omega, by omega, by omega⟩, rfl, by omega, by rw [c_G65_F_F_a_3_0], qL_cg d_G65_F_a_8_6 c_G65_F_F_a_8_0 c_G65_F_F_a_8_1 c_G65_F_F_a_8_2 c_G65_F_F_a_8_3 c_G65_F_F_a_8_4 c_G65_F_F_a_8_5⟩)
theorem v_X10_put_68_23 {F : Nat → Nat → Nat} (a : Nat) (G : XG) (G65 : XG)
    (ron : RO (vw (G.2.1 (F (F a 3) 0))) (aI (G.2.1 (F (F a 3) 1))))
    (c_G65_F_F_a_3_0 : G65.2.1 (F (F a 3) 0) = G.2.1 (F (F a 3) 0))
    (c_G65_F_F_a_3_1 : G65.2.1 (F (F a 3) 1) = G.2.1 (F (F a 3) 1)) :
    RO (vw (G65.2.1 (F (F a 3) 0))) (aI (G65.2.1 (F (F a 3) 1))) := by
  rw [c_G65_F_F_a_3_0, c_G65_F_F_a_3_1]; exact ron
theorem v_X10_put_49_24 {K : Nat → Nat} {F : Nat → Nat → Nat} (a : Nat) (G : XG) (G46 : XG) (G4 : XG) (x8 : Int32) (p0 : Int32) (x15 : Int32) (p1 : Int32) (x22 : Int32) (p2 : Int32) (x30 : Int32) (p3 : Int32) (x38 : Int32) (p4 : Int32)
    (ha : K a = 12)
    (hk9999 : K (F a 11) = 3)
    (hj9999 : F (F a 11) 99 = 0)
    (hk9999a : K (F a 9) = 6)
    (hj9999a : F (F a 9) 99 = 1)
    (hk9999b : K (F a 14) = 11)
    (hj9999b : F (F a 14) 99 = 0)
    (hk9999c : K (F a 10) = 6)
    (hj9999c : F (F a 10) 99 = 2)
    (hk9999d : K (F a 8) = 6)
    (hj9999d : F (F a 8) 99 = 0)
    (hk9999e : K (F (F a 11) 0) = 21)
    (hj9999e : F (F (F a 11) 0) 99 = 100)
    (hk9999f : K (F (F a 11) 1) = 21)
    (hj9999f : F (F (F a 11) 1) 99 = 101)
    (hk9999g : K (F (F a 11) 2) = 24)
    (hj9999g : F (F (F a 11) 2) 99 = 4)
    (hk9999h : K (F (F a 9) 0) = 22)
    (hj9999i : F (F (F a 9) 0) 99 = 10 * 1 + 0)
    (hk9999i : K (F (F a 9) 1) = 22)
    (hj9999k : F (F (F a 9) 1) 99 = 10 * 1 + 1)
    (hk9999j : K (F (F a 9) 2) = 22)
    (hj9999m : F (F (F a 9) 2) 99 = 10 * 1 + 2)
    (hk9999k : K (F (F a 9) 3) = 22)
    (hj9999o : F (F (F a 9) 3) 99 = 10 * 1 + 3)
    (hk9999l : K (F (F a 9) 4) = 23)
    (hj9999q : F (F (F a 9) 4) 99 = 10 * 1 + 4)
    (hk9999m : K (F (F a 9) 5) = 23)
    (hj9999s : F (F (F a 9) 5) 99 = 10 * 1 + 5)
    (hk9999n : K (F a 16) = 27)
    (hj9999t : F (F a 16) 99 = 0)
    (hk9999o : K (F a 15) = 26)
    (hj9999u : F (F a 15) 99 = 0)
    (hk9999p : K (F (F a 10) 0) = 22)
    (hj9999w : F (F (F a 10) 0) 99 = 10 * 2 + 0)
    (hk9999q : K (F (F a 10) 1) = 22)
    (hj9999z25 : F (F (F a 10) 1) 99 = 10 * 2 + 1)
    (hk9999r : K (F (F a 10) 2) = 22)
    (hj9999z27 : F (F (F a 10) 2) 99 = 10 * 2 + 2)
    (hk9999s : K (F (F a 10) 3) = 22)
    (hj9999z29 : F (F (F a 10) 3) 99 = 10 * 2 + 3)
    (hk9999t : K (F (F a 10) 4) = 23)
    (hj9999z31 : F (F (F a 10) 4) 99 = 10 * 2 + 4)
    (hk9999u : K (F (F a 10) 5) = 23)
    (hj9999z33 : F (F (F a 10) 5) 99 = 10 * 2 + 5)
    (hk9999v : K (F a 3) = 8)
    (hj9999z34 : F (F a 3) 99 = 0)
    (hk9999w : K (F (F a 3) 0) = 20)
    (hj9999z36 : F (F (F a 3) 0) 99 = 0)
    (hk9999y : K (F (F a 3) 1) = 21)
    (hj9999z38 : F (F (F a 3) 1) 99 = 0)
    (hk9999z25 : K (F (F a 8) 0) = 22)
    (hj9999z40 : F (F (F a 8) 0) 99 = 10 * 0 + 0)
    (hk9999z26 : K (F (F a 8) 1) = 22)
    (hj9999z42 : F (F (F a 8) 1) 99 = 10 * 0 + 1)
    (hk9999z27 : K (F (F a 8) 2) = 22)
    (hj9999z44 : F (F (F a 8) 2) 99 = 10 * 0 + 2)
    (hk9999z28 : K (F (F a 8) 3) = 22)
    (hj9999z46 : F (F (F a 8) 3) 99 = 10 * 0 + 3)
    (hk9999z29 : K (F (F a 8) 4) = 23)
    (hj9999z48 : F (F (F a 8) 4) 99 = 10 * 0 + 4)
    (hk9999z30 : K (F (F a 8) 5) = 23)
    (hj9999z50 : F (F (F a 8) 5) 99 = 10 * 0 + 5)
    (hk9999z31 : K (F a 5) = 8)
    (hj9999z51 : F (F a 5) 99 = 2)
    (hk9999z32 : K (F (F a 5) 0) = 20)
    (hj9999z53 : F (F (F a 5) 0) 99 = 2)
    (hk9999z33 : K (F (F a 5) 1) = 21)
    (hj9999z55 : F (F (F a 5) 1) 99 = 2)
    (hk9999z34 : K (F a 2) = 2)
    (hj9999z56 : F (F a 2) 99 = 0)
    (hk9999z35 : K (F (F a 2) 1) = 15)
    (hj9999z57 : F (F (F a 2) 1) 99 = 1)
    (hk9999z36 : K (F (F a 2) 0) = 15)
    (hj9999z58 : F (F (F a 2) 0) 99 = 0)
    (hk9999z37 : K (F a 4) = 8)
    (hj9999z59 : F (F a 4) 99 = 1)
    (hk9999z38 : K (F (F a 4) 0) = 20)
    (hj9999z61 : F (F (F a 4) 0) 99 = 1)
    (hk9999z39 : K (F (F a 4) 1) = 21)
    (hj9999z63 : F (F (F a 4) 1) 99 = 1)
    (sb : 0 ≤ ((G.1 (F a 2) 2).toInt) ∧ ((G.1 (F a 2) 2).toInt) ≤ 12)
    (sw : 0 ≤ ((G.1 (F a 8) 6).toInt) ∧ ((G.1 (F a 8) 6).toInt) ≤ 1080)
    (t4 : ((G4.1 (F a 14) 1).toInt) = 0)
    (t8 : (x8.toInt = 1 ∧ 0 ≤ p0.toInt ∧ p0.toInt < 3) ∨ (x8.toInt = 0 ∧ (p0.toInt < 0 ∨ 3 ≤ p0.toInt)))
    (c11 : ¬ (x8.toInt = 0))
    (t15 : (x15.toInt = 1 ∧ 0 ≤ p1.toInt ∧ p1.toInt < 30) ∨ (x15.toInt = 0 ∧ (p1.toInt < 0 ∨ 30 ≤ p1.toInt)))
    (c18 : ¬ (x15.toInt = 0))
    (t22 : (x22.toInt = 1 ∧ (p2.toInt = -1000 ∨ (-99 ≤ p2.toInt ∧ p2.toInt < 100))) ∨ (x22.toInt = 0 ∧ p2.toInt ≠ -1000 ∧ (p2.toInt < -99 ∨ 100 ≤ p2.toInt)))
    (c25 : ¬ (x22.toInt = 0))
    (t30 : (x30.toInt = 1 ∧ (p3.toInt = -1000 ∨ (-99 ≤ p3.toInt ∧ p3.toInt < 100))) ∨ (x30.toInt = 0 ∧ p3.toInt ≠ -1000 ∧ (p3.toInt < -99 ∨ 100 ≤ p3.toInt)))
    (c33 : ¬ (x30.toInt = 0))
    (t38 : (x38.toInt = 1 ∧ (p4.toInt = -1000 ∨ (-99 ≤ p4.toInt ∧ p4.toInt < 100))) ∨ (x38.toInt = 0 ∧ p4.toInt ≠ -1000 ∧ (p4.toInt < -99 ∨ 100 ≤ p4.toInt)))
    (c41 : ¬ (x38.toInt ≠ 0))
    (c_G46_F_F_a_3_0 : G46.2.1 (F (F a 3) 0) = G.2.1 (F (F a 3) 0))
    (c_G46_F_F_a_8_0 : G46.2.1 (F (F a 8) 0) = G.2.1 (F (F a 8) 0))
    (c_G46_F_F_a_8_1 : G46.2.1 (F (F a 8) 1) = G.2.1 (F (F a 8) 1))
    (c_G46_F_F_a_8_2 : G46.2.1 (F (F a 8) 2) = G.2.1 (F (F a 8) 2))
    (c_G46_F_F_a_8_3 : G46.2.1 (F (F a 8) 3) = G.2.1 (F (F a 8) 3))
    (c_G46_F_F_a_8_4 : G46.2.1 (F (F a 8) 4) = G.2.1 (F (F a 8) 4))
    (c_G46_F_F_a_8_5 : G46.2.1 (F (F a 8) 5) = G.2.1 (F (F a 8) 5))
    (d_G46_F_a_8_6 : G46.1 (F a 8) 6 = G.1 (F a 8) 6) :
    ((-1 : Int) = -1 ∧ ¬ ((0 ≤ p0.toInt ∧ p0.toInt < 3) ∧ (0 ≤ p1.toInt ∧ p1.toInt < 30) ∧ (p2.toInt = -1000 ∨ (-99 ≤ p2.toInt ∧ p2.toInt ≤ 99)) ∧ (p3.toInt = -1000 ∨ (-99 ≤ p3.toInt ∧ p3.toInt ≤ 99)) ∧ (p4.toInt = -1000 ∨ (-99 ≤ p4.toInt ∧ p4.toInt ≤ 99))) ∧ ((vw (G46.2.1 (F (F a 3) 0))) = (vw (G.2.1 (F (F a 3) 0))) ∧ qL G46 F (F a 8) = qL G F (F a 8))) ∨ (((0 ≤ p0.toInt ∧ p0.toInt < 3) ∧ (0 ≤ p1.toInt ∧ p1.toInt < 30) ∧ (p2.toInt = -1000 ∨ (-99 ≤ p2.toInt ∧ p2.toInt ≤ 99)) ∧ (p3.toInt = -1000 ∨ (-99 ≤ p3.toInt ∧ p3.toInt ≤ 99)) ∧ (p4.toInt = -1000 ∨ (-99 ≤ p4.toInt ∧ p4.toInt ≤ 99))) ∧ (-1 : Int) = -4 ∧ cel (vw (G.2.1 (F (F a 3) 0))) p0.toInt p1.toInt 0 ≠ -2000 ∧ ((vw (G46.2.1 (F (F a 3) 0))) = (vw (G.2.1 (F (F a 3) 0))) ∧ qL G46 F (F a 8) = qL G F (F a 8))) ∨ (((0 ≤ p0.toInt ∧ p0.toInt < 3) ∧ (0 ≤ p1.toInt ∧ p1.toInt < 30) ∧ (p2.toInt = -1000 ∨ (-99 ≤ p2.toInt ∧ p2.toInt ≤ 99)) ∧ (p3.toInt = -1000 ∨ (-99 ≤ p3.toInt ∧ p3.toInt ≤ 99)) ∧ (p4.toInt = -1000 ∨ (-99 ≤ p4.toInt ∧ p4.toInt ≤ 99))) ∧ cel (vw (G.2.1 (F (F a 3) 0))) p0.toInt p1.toInt 0 = -2000 ∧ ActR ((G.1 a 18).toInt) (-1 : Int) (gaL G (G.2.2.1 (F (F a 2) 1)) (vw (G.2.1 (F (F a 3) 0))) (rput3 (vw (G.2.1 (F (F a 3) 0))) p0.toInt p1.toInt p2.toInt p3.toInt p4.toInt) 0 (((G.1 (F a 2) 2).toInt)).toNat) (vw (G.2.1 (F (F a 3) 0))) (vw (G46.2.1 (F (F a 3) 0))) (rput3 (vw (G.2.1 (F (F a 3) 0))) p0.toInt p1.toInt p2.toInt p3.toInt p4.toInt) (qL G F (F a 8)) (qL G46 F (F a 8)) (gaL G (G.2.2.1 (F (F a 2) 1)) (vw (G.2.1 (F (F a 4) 0))) (rput3 (vw (G.2.1 (F (F a 3) 0))) p0.toInt p1.toInt p2.toInt p3.toInt p4.toInt) 1 (((G.1 (F a 2) 2).toInt)).toNat)) := by
  exact Or.inl ⟨rfl, fun h => by omega, by rw [c_G46_F_F_a_3_0], qL_cg d_G46_F_a_8_6 c_G46_F_F_a_8_0 c_G46_F_F_a_8_1 c_G46_F_F_a_8_2 c_G46_F_F_a_8_3 c_G46_F_F_a_8_4 c_G46_F_F_a_8_5⟩
theorem v_X10_put_49_25 {F : Nat → Nat → Nat} (a : Nat) (G : XG) (G46 : XG)
    (ron : RO (vw (G.2.1 (F (F a 3) 0))) (aI (G.2.1 (F (F a 3) 1))))
    (c_G46_F_F_a_3_0 : G46.2.1 (F (F a 3) 0) = G.2.1 (F (F a 3) 0))
    (c_G46_F_F_a_3_1 : G46.2.1 (F (F a 3) 1) = G.2.1 (F (F a 3) 1)) :
    RO (vw (G46.2.1 (F (F a 3) 0))) (aI (G46.2.1 (F (F a 3) 1))) := by
  rw [c_G46_F_F_a_3_0, c_G46_F_F_a_3_1]; exact ron
theorem v_X10_abort_26_1 {F : Nat → Nat → Nat} (a : Nat) (G : XG)
    (rob : RO (vw (G.2.1 (F (F a 4) 0))) (aI (G.2.1 (F (F a 4) 1)))) :
    RO (vw (G.2.1 (F (F a 4) 0))) (aI (G.2.1 (F (F a 4) 1))) := by exact rob
theorem v_X10_abort_44_2 {K : Nat → Nat} {F : Nat → Nat → Nat} (a : Nat) (G : XG) (G26 : XG) (G30 : XG) (G42 : XG)
    (ha : K a = 12)
    (oq26 : (vw (G26.2.1 (F (F a 3) 0))) = (vw (G.2.1 (F (F a 4) 0))))
    (f26 : ((G.1 a 18).toInt) = 0 ∨ ((G.1 a 18).toInt) = 1)
    (c4 : ((G.1 a 18).toInt) ≠ 0)
    (t30 : ((G30.1 a 18).toInt) = 0 ∧ ((G30.1 a 17).toInt) = 0 ∧ ((G30.1 (F a 8) 6).toInt) = 0)
    (c_G42_F_F_a_3_0 : G42.2.1 (F (F a 3) 0) = G26.2.1 (F (F a 3) 0)) :
    (((G.1 a 18).toInt) = 0 → (vw (G42.2.1 (F (F a 3) 0))) = (vw (G.2.1 (F (F a 3) 0)))) ∧ (((G.1 a 18).toInt) ≠ 0 → (vw (G42.2.1 (F (F a 3) 0))) = (vw (G.2.1 (F (F a 4) 0)))) := by
  exact ⟨fun h => absurd h (by omega), fun _ => by rw [c_G42_F_F_a_3_0]; exact oq26⟩
theorem v_X10_abort_44_3 {F : Nat → Nat → Nat} (a : Nat) (G26 : XG) (G42 : XG)
    (oq26a : RO (vw (G26.2.1 (F (F a 3) 0))) (aI (G26.2.1 (F (F a 3) 1))))
    (c_G42_F_F_a_3_0 : G42.2.1 (F (F a 3) 0) = G26.2.1 (F (F a 3) 0))
    (c_G42_F_F_a_3_1 : G42.2.1 (F (F a 3) 1) = G26.2.1 (F (F a 3) 1)) :
    RO (vw (G42.2.1 (F (F a 3) 0))) (aI (G42.2.1 (F (F a 3) 1))) := by
  rw [c_G42_F_F_a_3_0, c_G42_F_F_a_3_1]; exact oq26a
theorem v_X10_abort_9_4 {K : Nat → Nat} {F : Nat → Nat → Nat} (a : Nat) (G : XG)
    (ha : K a = 12)
    (f19 : ((G.1 a 18).toInt) = 0 ∨ ((G.1 a 18).toInt) = 1)
    (c4 : ¬ (((G.1 a 18).toInt) ≠ 0)) :
    (((G.1 a 18).toInt) = 0 → (vw (G.2.1 (F (F a 3) 0))) = (vw (G.2.1 (F (F a 3) 0)))) ∧ (((G.1 a 18).toInt) ≠ 0 → (vw (G.2.1 (F (F a 3) 0))) = (vw (G.2.1 (F (F a 4) 0)))) := by
  exact ⟨fun _ => rfl, fun h => absurd h (by omega)⟩
theorem v_X10_abort_9_5 {F : Nat → Nat → Nat} (a : Nat) (G : XG)
    (ron : RO (vw (G.2.1 (F (F a 3) 0))) (aI (G.2.1 (F (F a 3) 1)))) :
    RO (vw (G.2.1 (F (F a 3) 0))) (aI (G.2.1 (F (F a 3) 1))) := by
  exact ron
theorem z_X10_put_5 (a0 : Int) (a1 : Int) (a2 : Int) (a3 : Int) (h0 : (a3 = 1 ∧ 0 ≤ a0 ∧ a0 < 3) ∨ (a3 = 0 ∧ (a0 < 0 ∨ 3 ≤ a0))) (h1 : ¬ (a3 = 0)) (h2 : (a2 = 1 ∧ 0 ≤ a1 ∧ a1 < 30) ∨ (a2 = 0 ∧ (a1 < 0 ∨ 30 ≤ a1))) (h3 : ¬ (a2 = 0)) : 0 ≤ a0 ∧ a0 < 3 ∧ 0 ≤ a1 ∧ a1 < 30 := by omega
theorem z_X10_put_6 (a0 : Int) (a1 : Int) (h0 : (a1 = 1 ∧ (a0 = -1000 ∨ (-99 ≤ a0 ∧ a0 < 100))) ∨ (a1 = 0 ∧ a0 ≠ -1000 ∧ (a0 < -99 ∨ 100 ≤ a0))) (h1 : ¬ (a1 = 0)) : a0 = -1000 ∨ (-99 ≤ a0 ∧ a0 ≤ 99) := by omega
theorem z_X10_put_8 (a0 : Int) (a1 : Int) (h0 : (a1 = 1 ∧ (a0 = -1000 ∨ (-99 ≤ a0 ∧ a0 < 100))) ∨ (a1 = 0 ∧ a0 ≠ -1000 ∧ (a0 < -99 ∨ 100 ≤ a0))) (h1 : a1 ≠ 0) : a0 = -1000 ∨ (-99 ≤ a0 ∧ a0 ≤ 99) := by omega
abbrev rm_X10_put : Room := { frames := 10, cells := 15, slots := 1500, locals := 236 }
set_option maxHeartbeats 4000000 in
set_option maxRecDepth 100000 in
theorem c_X10_put (l : Launch) (E : XE) (K : Nat → Nat) (F : Nat → Nat → Nat) (G : XG) (a : Nat) (p0 : Int32) (p1 : Int32) (p2 : Int32) (p3 : Int32) (p4 : Int32) (ha : K a = 12) (sb : 0 ≤ ((G.1 (F a 2) 2).toInt) ∧ ((G.1 (F a 2) 2).toInt) ≤ 12) (sw : 0 ≤ ((G.1 (F a 8) 6).toInt) ∧ ((G.1 (F a 8) 6).toInt) ≤ 1080) (ron : RO (vw (G.2.1 (F (F a 3) 0))) (aI (G.2.1 (F (F a 3) 1)))) (rob : RO (vw (G.2.1 (F (F a 4) 0))) (aI (G.2.1 (F (F a 4) 1)))) (bko : BKr K G (G.2.2.1 (F (F a 2) 1))) (bkn : BKr K G (G.2.2.1 (F (F a 2) 0))) : Met l yX10_put (xw yX10_put cX10_put 6 (some .int)) rm_X10_put (va_Pc [.ref a, .int p0, .int p1, .int p2, .int p3, .int p4] (XP E K F G)) (XQ E (fun v (u : XG) => ∃ r : Int32, v = .int r ∧ XFr [(F a 11, 3), (F a 9, 6), (F a 14, 1), (F a 14, 2), (F a 14, 3), (F a 10, 6), (F a 8, 6)] [F (F a 11) 0, F (F a 11) 1, F (F a 11) 2, F (F a 9) 0, F (F a 9) 1, F (F a 9) 2, F (F a 9) 3, F (F a 9) 4, F (F a 9) 5, F a 16, F a 15, F (F a 10) 0, F (F a 10) 1, F (F a 10) 2, F (F a 10) 3, F (F a 10) 4, F (F a 10) 5, F (F a 3) 0, F (F a 3) 1, F (F a 8) 0, F (F a 8) 1, F (F a 8) 2, F (F a 8) 3, F (F a 8) 4, F (F a 8) 5, F (F a 5) 0, F (F a 5) 1] [] G u ∧ (0 ≤ ((u.1 (F a 8) 6).toInt) ∧ ((u.1 (F a 8) 6).toInt) ≤ 1080) ∧ ((r.toInt = -1 ∧ ¬ ((0 ≤ p0.toInt ∧ p0.toInt < 3) ∧ (0 ≤ p1.toInt ∧ p1.toInt < 30) ∧ (p2.toInt = -1000 ∨ (-99 ≤ p2.toInt ∧ p2.toInt ≤ 99)) ∧ (p3.toInt = -1000 ∨ (-99 ≤ p3.toInt ∧ p3.toInt ≤ 99)) ∧ (p4.toInt = -1000 ∨ (-99 ≤ p4.toInt ∧ p4.toInt ≤ 99))) ∧ ((vw (u.2.1 (F (F a 3) 0))) = (vw (G.2.1 (F (F a 3) 0))) ∧ qL u F (F a 8) = qL G F (F a 8))) ∨ (((0 ≤ p0.toInt ∧ p0.toInt < 3) ∧ (0 ≤ p1.toInt ∧ p1.toInt < 30) ∧ (p2.toInt = -1000 ∨ (-99 ≤ p2.toInt ∧ p2.toInt ≤ 99)) ∧ (p3.toInt = -1000 ∨ (-99 ≤ p3.toInt ∧ p3.toInt ≤ 99)) ∧ (p4.toInt = -1000 ∨ (-99 ≤ p4.toInt ∧ p4.toInt ≤ 99))) ∧ r.toInt = -4 ∧ cel (vw (G.2.1 (F (F a 3) 0))) p0.toInt p1.toInt 0 ≠ -2000 ∧ ((vw (u.2.1 (F (F a 3) 0))) = (vw (G.2.1 (F (F a 3) 0))) ∧ qL u F (F a 8) = qL G F (F a 8))) ∨ (((0 ≤ p0.toInt ∧ p0.toInt < 3) ∧ (0 ≤ p1.toInt ∧ p1.toInt < 30) ∧ (p2.toInt = -1000 ∨ (-99 ≤ p2.toInt ∧ p2.toInt ≤ 99)) ∧ (p3.toInt = -1000 ∨ (-99 ≤ p3.toInt ∧ p3.toInt ≤ 99)) ∧ (p4.toInt = -1000 ∨ (-99 ≤ p4.toInt ∧ p4.toInt ≤ 99))) ∧ cel (vw (G.2.1 (F (F a 3) 0))) p0.toInt p1.toInt 0 = -2000 ∧ ActR ((G.1 a 18).toInt) r.toInt (gaL G (G.2.2.1 (F (F a 2) 1)) (vw (G.2.1 (F (F a 3) 0))) (rput3 (vw (G.2.1 (F (F a 3) 0))) p0.toInt p1.toInt p2.toInt p3.toInt p4.toInt) 0 (((G.1 (F a 2) 2).toInt)).toNat) (vw (G.2.1 (F (F a 3) 0))) (vw (u.2.1 (F (F a 3) 0))) (rput3 (vw (G.2.1 (F (F a 3) 0))) p0.toInt p1.toInt p2.toInt p3.toInt p4.toInt) (qL G F (F a 8)) (qL u F (F a 8)) (gaL G (G.2.2.1 (F (F a 2) 1)) (vw (G.2.1 (F (F a 4) 0))) (rput3 (vw (G.2.1 (F (F a 3) 0))) p0.toInt p1.toInt p2.toInt p3.toInt p4.toInt) 1 (((G.1 (F a 2) 2).toInt)).toNat))) ∧ (RO (vw (u.2.1 (F (F a 3) 0))) (aI (u.2.1 (F (F a 3) 1))))) (fun u H => TW E K F u H)) 15 1500 (xA E) := by
  refine x_enter (by decide) (Nat.le_of_ble_eq_true rfl) ?_
  intro p e s m args below meth c Q S hr hlk hnm hQ hP ls hl
  obtain ⟨hz, hK, hT⟩ := hP
  obtain ⟨hx, hb, -, -, -⟩ := id S
  obtain ⟨H, hT, hS, hgo⟩ : ∃ H : Heap, TW E K F G H ∧ va_S (xA E) s.heap H [] ∧ H = s.heap := ⟨_, hT, va_S.rf, rfl⟩
  rw [← hgo]
  have hl : lv_has ls 6 [(0, .ref a), (1, .int p0), (2, .int p1), (3, .int p2), (4, .int p3), (5, .int p4)] := hl
  obtain ⟨hk9999, hj9999⟩ := fkX10_11 hT ha
  obtain ⟨hk9999a, hj9999a⟩ := fkX10_9 hT ha
  obtain ⟨hk9999b, hj9999b⟩ := fkX10_14 hT ha
  obtain ⟨hk9999c, hj9999c⟩ := fkX10_10 hT ha
  obtain ⟨hk9999d, hj9999d⟩ := fkX10_8 hT ha
  obtain ⟨hk9999e, hj9999e⟩ := fkX1_0 hT hk9999
  obtain ⟨hk9999f, hj9999f⟩ := fkX1_1 hT hk9999
  obtain ⟨hk9999g, hj9999g⟩ := fkX1_2 hT hk9999
  obtain ⟨hk9999h, hj9999h⟩ := fkX4_0 hT hk9999a
  have hj9999i : F (F (F a 9) 0) 99 = 10 * 1 + 0 := by rw [hj9999h, hj9999a]
  obtain ⟨hk9999i, hj9999j⟩ := fkX4_1 hT hk9999a
  have hj9999k : F (F (F a 9) 1) 99 = 10 * 1 + 1 := by rw [hj9999j, hj9999a]
  obtain ⟨hk9999j, hj9999l⟩ := fkX4_2 hT hk9999a
  have hj9999m : F (F (F a 9) 2) 99 = 10 * 1 + 2 := by rw [hj9999l, hj9999a]
  obtain ⟨hk9999k, hj9999n⟩ := fkX4_3 hT hk9999a
  have hj9999o : F (F (F a 9) 3) 99 = 10 * 1 + 3 := by rw [hj9999n, hj9999a]
  obtain ⟨hk9999l, hj9999p⟩ := fkX4_4 hT hk9999a
  have hj9999q : F (F (F a 9) 4) 99 = 10 * 1 + 4 := by rw [hj9999p, hj9999a]
  obtain ⟨hk9999m, hj9999r⟩ := fkX4_5 hT hk9999a
  have hj9999s : F (F (F a 9) 5) 99 = 10 * 1 + 5 := by rw [hj9999r, hj9999a]
  obtain ⟨hk9999n, hj9999t⟩ := fkX10_16 hT ha
  obtain ⟨hk9999o, hj9999u⟩ := fkX10_15 hT ha
  obtain ⟨hk9999p, hj9999v⟩ := fkX4_0 hT hk9999c
  have hj9999w : F (F (F a 10) 0) 99 = 10 * 2 + 0 := by rw [hj9999v, hj9999c]
  obtain ⟨hk9999q, hj9999y⟩ := fkX4_1 hT hk9999c
  have hj9999z25 : F (F (F a 10) 1) 99 = 10 * 2 + 1 := by rw [hj9999y, hj9999c]
  obtain ⟨hk9999r, hj9999z26⟩ := fkX4_2 hT hk9999c
  have hj9999z27 : F (F (F a 10) 2) 99 = 10 * 2 + 2 := by rw [hj9999z26, hj9999c]
  obtain ⟨hk9999s, hj9999z28⟩ := fkX4_3 hT hk9999c
  have hj9999z29 : F (F (F a 10) 3) 99 = 10 * 2 + 3 := by rw [hj9999z28, hj9999c]
  obtain ⟨hk9999t, hj9999z30⟩ := fkX4_4 hT hk9999c
  have hj9999z31 : F (F (F a 10) 4) 99 = 10 * 2 + 4 := by rw [hj9999z30, hj9999c]
  obtain ⟨hk9999u, hj9999z32⟩ := fkX4_5 hT hk9999c
  have hj9999z33 : F (F (F a 10) 5) 99 = 10 * 2 + 5 := by rw [hj9999z32, hj9999c]
  obtain ⟨hk9999v, hj9999z34⟩ := fkX10_3 hT ha
  obtain ⟨hk9999w, hj9999z35⟩ := fkX6_0 hT hk9999v
  have hj9999z36 : F (F (F a 3) 0) 99 = 0 := by rw [hj9999z35, hj9999z34]
  obtain ⟨hk9999y, hj9999z37⟩ := fkX6_1 hT hk9999v
  have hj9999z38 : F (F (F a 3) 1) 99 = 0 := by rw [hj9999z37, hj9999z34]
  obtain ⟨hk9999z25, hj9999z39⟩ := fkX4_0 hT hk9999d
  have hj9999z40 : F (F (F a 8) 0) 99 = 10 * 0 + 0 := by rw [hj9999z39, hj9999d]
  obtain ⟨hk9999z26, hj9999z41⟩ := fkX4_1 hT hk9999d
  have hj9999z42 : F (F (F a 8) 1) 99 = 10 * 0 + 1 := by rw [hj9999z41, hj9999d]
  obtain ⟨hk9999z27, hj9999z43⟩ := fkX4_2 hT hk9999d
  have hj9999z44 : F (F (F a 8) 2) 99 = 10 * 0 + 2 := by rw [hj9999z43, hj9999d]
  obtain ⟨hk9999z28, hj9999z45⟩ := fkX4_3 hT hk9999d
  have hj9999z46 : F (F (F a 8) 3) 99 = 10 * 0 + 3 := by rw [hj9999z45, hj9999d]
  obtain ⟨hk9999z29, hj9999z47⟩ := fkX4_4 hT hk9999d
  have hj9999z48 : F (F (F a 8) 4) 99 = 10 * 0 + 4 := by rw [hj9999z47, hj9999d]
  obtain ⟨hk9999z30, hj9999z49⟩ := fkX4_5 hT hk9999d
  have hj9999z50 : F (F (F a 8) 5) 99 = 10 * 0 + 5 := by rw [hj9999z49, hj9999d]
  obtain ⟨hk9999z31, hj9999z51⟩ := fkX10_5 hT ha
  obtain ⟨hk9999z32, hj9999z52⟩ := fkX6_0 hT hk9999z31
  have hj9999z53 : F (F (F a 5) 0) 99 = 2 := by rw [hj9999z52, hj9999z51]
  obtain ⟨hk9999z33, hj9999z54⟩ := fkX6_1 hT hk9999z31
  have hj9999z55 : F (F (F a 5) 1) 99 = 2 := by rw [hj9999z54, hj9999z51]
  obtain ⟨hk9999z34, hj9999z56⟩ := fkX10_2 hT ha
  obtain ⟨hk9999z35, hj9999z57⟩ := fkX0_1 hT hk9999z34
  obtain ⟨hk9999z36, hj9999z58⟩ := fkX0_0 hT hk9999z34
  obtain ⟨hk9999z37, hj9999z59⟩ := fkX10_4 hT ha
  obtain ⟨hk9999z38, hj9999z60⟩ := fkX6_0 hT hk9999z37
  have hj9999z61 : F (F (F a 4) 0) 99 = 1 := by rw [hj9999z60, hj9999z59]
  obtain ⟨hk9999z39, hj9999z62⟩ := fkX6_1 hT hk9999z37
  have hj9999z63 : F (F (F a 4) 1) 99 = 1 := by rw [hj9999z62, hj9999z59]
  refine lv_aload_n hx hb dX10_put_0 rfl (lv_at hl 0 rfl) ?_
  refine gX10_14 S hK hT ha kf_X10_91 dX10_put_1 (fun _ _ => ?_)
  refine x_cv (x_runV (b := (F a 14)) (As := []) (rest := []) S (c_X9_clear l E K F G (F a 14) hk9999b) mv_X9_clear km_X10_113 rfl rfl ⟨Nat.le_of_ble_eq_true rfl, Nat.le_of_ble_eq_true rfl⟩ (rc_11 hK hT hk9999b) hK (fun _ => XP.blind) (fun U hU hW => XP.at hK hz hS hT hU hW) rfl hl.1 (Nat.le_of_ble_eq_true rfl) dX10_put_4 ⟨Nat.le_of_ble_eq_true rfl, Nat.le_of_ble_eq_true rfl⟩) hS ?_
  rintro G4 H locs ⟨hF4, t4⟩ hT hS
  have t4 : ((G4.1 (F a 14) 1).toInt) = 0 := t4
  refine lv_iload_n hx hb dX10_put_7 rfl (lv_at hl 1 rfl) ?_
  refine x_clp (x_runS (As := [.int p0]) (rest := []) S (c_X10_isTable l E K F G4 H p0) ms_X10_isTable km_X10_179 rfl rfl ⟨Nat.le_of_ble_eq_true rfl, Nat.le_of_ble_eq_true rfl⟩ hK (fun _ => XPh.blind) (fun U hU hW => XPh.at hK hz hS hT hU hW) rfl hl.1 (Nat.le_of_ble_eq_true rfl) dX10_put_8 ⟨Nat.le_of_ble_eq_true rfl, Nat.le_of_ble_eq_true rfl⟩) hS ?_
  rintro _ _ locs ⟨x8, rfl, b8, t8⟩ hS
  have t8 : (x8.toInt = 1 ∧ 0 ≤ p0.toInt ∧ p0.toInt < 3) ∨ (x8.toInt = 0 ∧ (p0.toInt < 0 ∨ 3 ≤ p0.toInt)) := t8
  refine xi_zeq (tgt := 44) hx hb (rfl : Int32.toInt x8 = x8.toInt) dX10_put_11 (by decide) (fun c11 => ?_) (fun c11 => ?_)
  · refine lv_aload_n hx hb dX10_put_44 rfl (lv_at hl 0 rfl) ?_
    refine lv_iconst (v := (-1)) hx hb dX10_put_45 (by decide) ?_
    refine x_cl0 (x_runV (b := a) (As := [.int (-1)]) (rest := []) S (c_X10_refuseAct l E K F G4 a (-1) ha) mv_X10_refuseAct km_X10_188 rfl rfl ⟨Nat.le_of_ble_eq_true rfl, Nat.le_of_ble_eq_true rfl⟩ (rc_12 hK hT ha) hK (fun _ => XP.blind) (fun U hU hW => XP.at hK hz hS hT hU hW) rfl hl.1 (Nat.le_of_ble_eq_true rfl) dX10_put_46 ⟨Nat.le_of_ble_eq_true rfl, Nat.le_of_ble_eq_true rfl⟩) hS ?_
    rintro _ G46 H locs ⟨x46, rfl, hF46, t46⟩ hT hS
    have t46 : x46.toInt = (-1 : Int) := by rw [((by decide) : Int32.toInt (-1) = (-1 : Int))] at t46; exact t46
    exact x_ri hx hb hr hlk hQ (Nat.le_of_ble_eq_true rfl) (Nat.le_of_ble_eq_true rfl) hS dX10_put_49 G46 ⟨_, rfl, (XFr.call (XFr.call XFr.rf hF4 (xm1 2 rfl xm0) xm0 xm0) hF46 xm0 (xm1 10 rfl xm0) xm0), (by rw [(show (G46.1 (F a 8) 6).toInt = ((G.1 (F a 8) 6).toInt) from (congrArg Int32.toInt ((hF46.1 _ _ xn0).trans (hF4.1 _ _ (xnj (by decide) xn0)))).trans (rfl : Int32.toInt (G.1 (F a 8) 6) = ((G.1 (F a 8) 6).toInt)))] <;> exact (sw)), (by rw [(t46 : Int32.toInt x46 = (-1 : Int))] <;> exact (v_X10_put_49_1 (K := K) (F := F) a G G46 G4 x8 p0 p1 p2 p3 p4 ha hk9999 hj9999 hk9999a hj9999a hk9999b hj9999b hk9999c hj9999c hk9999d hj9999d hk9999e hj9999e hk9999f hj9999f hk9999g hj9999g hk9999h hj9999i hk9999i hj9999k hk9999j hj9999m hk9999k hj9999o hk9999l hj9999q hk9999m hj9999s hk9999n hj9999t hk9999o hj9999u hk9999p hj9999w hk9999q hj9999z25 hk9999r hj9999z27 hk9999s hj9999z29 hk9999t hj9999z31 hk9999u hj9999z33 hk9999v hj9999z34 hk9999w hj9999z36 hk9999y hj9999z38 hk9999z25 hj9999z40 hk9999z26 hj9999z42 hk9999z27 hj9999z44 hk9999z28 hj9999z46 hk9999z29 hj9999z48 hk9999z30 hj9999z50 hk9999z31 hj9999z51 hk9999z32 hj9999z53 hk9999z33 hj9999z55 hk9999z34 hj9999z56 hk9999z35 hj9999z57 hk9999z36 hj9999z58 hk9999z37 hj9999z59 hk9999z38 hj9999z61 hk9999z39 hj9999z63 sb sw t4 t8 c11 ((hF46.2.1 _ (xn1 (xne_k hk9999w hk9999o (by decide)) xn0)).trans (hF4.2.1 _ xn0)) ((hF46.2.1 _ (xn1 (xne_k hk9999z25 hk9999o (by decide)) xn0)).trans (hF4.2.1 _ xn0)) ((hF46.2.1 _ (xn1 (xne_k hk9999z26 hk9999o (by decide)) xn0)).trans (hF4.2.1 _ xn0)) ((hF46.2.1 _ (xn1 (xne_k hk9999z27 hk9999o (by decide)) xn0)).trans (hF4.2.1 _ xn0)) ((hF46.2.1 _ (xn1 (xne_k hk9999z28 hk9999o (by decide)) xn0)).trans (hF4.2.1 _ xn0)) ((hF46.2.1 _ (xn1 (xne_k hk9999z29 hk9999o (by decide)) xn0)).trans (hF4.2.1 _ xn0)) ((hF46.2.1 _ (xn1 (xne_k hk9999z30 hk9999o (by decide)) xn0)).trans (hF4.2.1 _ xn0)) ((hF46.1 _ _ xn0).trans (hF4.1 _ _ (xnj (by decide) xn0))))), (v_X10_put_49_2 (F := F) a G G46 ron ((hF46.2.1 _ (xn1 (xne_k hk9999w hk9999o (by decide)) xn0)).trans (hF4.2.1 _ xn0)) ((hF46.2.1 _ (xn1 (xne_k hk9999y hk9999o (by decide)) xn0)).trans (hF4.2.1 _ xn0)))⟩ hT
  · refine lv_iload_n hx hb dX10_put_14 rfl (lv_at hl 2 rfl) ?_
    refine x_clp (x_runS (As := [.int p1]) (rest := []) S (c_X10_isKey l E K F G4 H p1) ms_X10_isKey km_X10_182 rfl rfl ⟨Nat.le_of_ble_eq_true rfl, Nat.le_of_ble_eq_true rfl⟩ hK (fun _ => XPh.blind) (fun U hU hW => XPh.at hK hz hS hT hU hW) rfl hl.1 (Nat.le_of_ble_eq_true rfl) dX10_put_15 ⟨Nat.le_of_ble_eq_true rfl, Nat.le_of_ble_eq_true rfl⟩) hS ?_
    rintro _ _ locs ⟨x15, rfl, b15, t15⟩ hS
    have t15 : (x15.toInt = 1 ∧ 0 ≤ p1.toInt ∧ p1.toInt < 30) ∨ (x15.toInt = 0 ∧ (p1.toInt < 0 ∨ 30 ≤ p1.toInt)) := t15
    refine xi_zeq (tgt := 44) hx hb (rfl : Int32.toInt x15 = x15.toInt) dX10_put_18 (by decide) (fun c18 => ?_) (fun c18 => ?_)
    · refine lv_aload_n hx hb dX10_put_44 rfl (lv_at hl 0 rfl) ?_
      refine lv_iconst (v := (-1)) hx hb dX10_put_45 (by decide) ?_
      refine x_cl0 (x_runV (b := a) (As := [.int (-1)]) (rest := []) S (c_X10_refuseAct l E K F G4 a (-1) ha) mv_X10_refuseAct km_X10_188 rfl rfl ⟨Nat.le_of_ble_eq_true rfl, Nat.le_of_ble_eq_true rfl⟩ (rc_12 hK hT ha) hK (fun _ => XP.blind) (fun U hU hW => XP.at hK hz hS hT hU hW) rfl hl.1 (Nat.le_of_ble_eq_true rfl) dX10_put_46 ⟨Nat.le_of_ble_eq_true rfl, Nat.le_of_ble_eq_true rfl⟩) hS ?_
      rintro _ G46 H locs ⟨x46, rfl, hF46, t46⟩ hT hS
      have t46 : x46.toInt = (-1 : Int) := by rw [((by decide) : Int32.toInt (-1) = (-1 : Int))] at t46; exact t46
      exact x_ri hx hb hr hlk hQ (Nat.le_of_ble_eq_true rfl) (Nat.le_of_ble_eq_true rfl) hS dX10_put_49 G46 ⟨_, rfl, (XFr.call (XFr.call XFr.rf hF4 (xm1 2 rfl xm0) xm0 xm0) hF46 xm0 (xm1 10 rfl xm0) xm0), (by rw [(show (G46.1 (F a 8) 6).toInt = ((G.1 (F a 8) 6).toInt) from (congrArg Int32.toInt ((hF46.1 _ _ xn0).trans (hF4.1 _ _ (xnj (by decide) xn0)))).trans (rfl : Int32.toInt (G.1 (F a 8) 6) = ((G.1 (F a 8) 6).toInt)))] <;> exact (sw)), (by rw [(t46 : Int32.toInt x46 = (-1 : Int))] <;> exact (v_X10_put_49_3 (K := K) (F := F) a G G46 G4 x8 p0 x15 p1 p2 p3 p4 ha hk9999 hj9999 hk9999a hj9999a hk9999b hj9999b hk9999c hj9999c hk9999d hj9999d hk9999e hj9999e hk9999f hj9999f hk9999g hj9999g hk9999h hj9999i hk9999i hj9999k hk9999j hj9999m hk9999k hj9999o hk9999l hj9999q hk9999m hj9999s hk9999n hj9999t hk9999o hj9999u hk9999p hj9999w hk9999q hj9999z25 hk9999r hj9999z27 hk9999s hj9999z29 hk9999t hj9999z31 hk9999u hj9999z33 hk9999v hj9999z34 hk9999w hj9999z36 hk9999y hj9999z38 hk9999z25 hj9999z40 hk9999z26 hj9999z42 hk9999z27 hj9999z44 hk9999z28 hj9999z46 hk9999z29 hj9999z48 hk9999z30 hj9999z50 hk9999z31 hj9999z51 hk9999z32 hj9999z53 hk9999z33 hj9999z55 hk9999z34 hj9999z56 hk9999z35 hj9999z57 hk9999z36 hj9999z58 hk9999z37 hj9999z59 hk9999z38 hj9999z61 hk9999z39 hj9999z63 sb sw t4 t8 c11 t15 c18 ((hF46.2.1 _ (xn1 (xne_k hk9999w hk9999o (by decide)) xn0)).trans (hF4.2.1 _ xn0)) ((hF46.2.1 _ (xn1 (xne_k hk9999z25 hk9999o (by decide)) xn0)).trans (hF4.2.1 _ xn0)) ((hF46.2.1 _ (xn1 (xne_k hk9999z26 hk9999o (by decide)) xn0)).trans (hF4.2.1 _ xn0)) ((hF46.2.1 _ (xn1 (xne_k hk9999z27 hk9999o (by decide)) xn0)).trans (hF4.2.1 _ xn0)) ((hF46.2.1 _ (xn1 (xne_k hk9999z28 hk9999o (by decide)) xn0)).trans (hF4.2.1 _ xn0)) ((hF46.2.1 _ (xn1 (xne_k hk9999z29 hk9999o (by decide)) xn0)).trans (hF4.2.1 _ xn0)) ((hF46.2.1 _ (xn1 (xne_k hk9999z30 hk9999o (by decide)) xn0)).trans (hF4.2.1 _ xn0)) ((hF46.1 _ _ xn0).trans (hF4.1 _ _ (xnj (by decide) xn0))))), (v_X10_put_49_4 (F := F) a G G46 ron ((hF46.2.1 _ (xn1 (xne_k hk9999w hk9999o (by decide)) xn0)).trans (hF4.2.1 _ xn0)) ((hF46.2.1 _ (xn1 (xne_k hk9999y hk9999o (by decide)) xn0)).trans (hF4.2.1 _ xn0)))⟩ hT
    · refine lv_iload_n hx hb dX10_put_21 rfl (lv_at hl 3 rfl) ?_
      refine x_clp (x_runS (As := [.int p2]) (rest := []) S (c_X10_isValue l E K F G4 H p2) ms_X10_isValue km_X10_185 rfl rfl ⟨Nat.le_of_ble_eq_true rfl, Nat.le_of_ble_eq_true rfl⟩ hK (fun _ => XPh.blind) (fun U hU hW => XPh.at hK hz hS hT hU hW) rfl hl.1 (Nat.le_of_ble_eq_true rfl) dX10_put_22 ⟨Nat.le_of_ble_eq_true rfl, Nat.le_of_ble_eq_true rfl⟩) hS ?_
      rintro _ _ locs ⟨x22, rfl, b22, t22⟩ hS
      have t22 : (x22.toInt = 1 ∧ (p2.toInt = -1000 ∨ (-99 ≤ p2.toInt ∧ p2.toInt < 100))) ∨ (x22.toInt = 0 ∧ p2.toInt ≠ -1000 ∧ (p2.toInt < -99 ∨ 100 ≤ p2.toInt)) := t22
      refine xi_zeq (tgt := 44) hx hb (rfl : Int32.toInt x22 = x22.toInt) dX10_put_25 (by decide) (fun c25 => ?_) (fun c25 => ?_)
      · refine lv_aload_n hx hb dX10_put_44 rfl (lv_at hl 0 rfl) ?_
        refine lv_iconst (v := (-1)) hx hb dX10_put_45 (by decide) ?_
        refine x_cl0 (x_runV (b := a) (As := [.int (-1)]) (rest := []) S (c_X10_refuseAct l E K F G4 a (-1) ha) mv_X10_refuseAct km_X10_188 rfl rfl ⟨Nat.le_of_ble_eq_true rfl, Nat.le_of_ble_eq_true rfl⟩ (rc_12 hK hT ha) hK (fun _ => XP.blind) (fun U hU hW => XP.at hK hz hS hT hU hW) rfl hl.1 (Nat.le_of_ble_eq_true rfl) dX10_put_46 ⟨Nat.le_of_ble_eq_true rfl, Nat.le_of_ble_eq_true rfl⟩) hS ?_
        rintro _ G46 H locs ⟨x46, rfl, hF46, t46⟩ hT hS
        have t46 : x46.toInt = (-1 : Int) := by rw [((by decide) : Int32.toInt (-1) = (-1 : Int))] at t46; exact t46
        exact x_ri hx hb hr hlk hQ (Nat.le_of_ble_eq_true rfl) (Nat.le_of_ble_eq_true rfl) hS dX10_put_49 G46 ⟨_, rfl, (XFr.call (XFr.call XFr.rf hF4 (xm1 2 rfl xm0) xm0 xm0) hF46 xm0 (xm1 10 rfl xm0) xm0), (by rw [(show (G46.1 (F a 8) 6).toInt = ((G.1 (F a 8) 6).toInt) from (congrArg Int32.toInt ((hF46.1 _ _ xn0).trans (hF4.1 _ _ (xnj (by decide) xn0)))).trans (rfl : Int32.toInt (G.1 (F a 8) 6) = ((G.1 (F a 8) 6).toInt)))] <;> exact (sw)), (by rw [(t46 : Int32.toInt x46 = (-1 : Int))] <;> exact (v_X10_put_49_5 (K := K) (F := F) a G G46 G4 x8 p0 x15 p1 x22 p2 p3 p4 ha hk9999 hj9999 hk9999a hj9999a hk9999b hj9999b hk9999c hj9999c hk9999d hj9999d hk9999e hj9999e hk9999f hj9999f hk9999g hj9999g hk9999h hj9999i hk9999i hj9999k hk9999j hj9999m hk9999k hj9999o hk9999l hj9999q hk9999m hj9999s hk9999n hj9999t hk9999o hj9999u hk9999p hj9999w hk9999q hj9999z25 hk9999r hj9999z27 hk9999s hj9999z29 hk9999t hj9999z31 hk9999u hj9999z33 hk9999v hj9999z34 hk9999w hj9999z36 hk9999y hj9999z38 hk9999z25 hj9999z40 hk9999z26 hj9999z42 hk9999z27 hj9999z44 hk9999z28 hj9999z46 hk9999z29 hj9999z48 hk9999z30 hj9999z50 hk9999z31 hj9999z51 hk9999z32 hj9999z53 hk9999z33 hj9999z55 hk9999z34 hj9999z56 hk9999z35 hj9999z57 hk9999z36 hj9999z58 hk9999z37 hj9999z59 hk9999z38 hj9999z61 hk9999z39 hj9999z63 sb sw t4 t8 c11 t15 c18 t22 c25 ((hF46.2.1 _ (xn1 (xne_k hk9999w hk9999o (by decide)) xn0)).trans (hF4.2.1 _ xn0)) ((hF46.2.1 _ (xn1 (xne_k hk9999z25 hk9999o (by decide)) xn0)).trans (hF4.2.1 _ xn0)) ((hF46.2.1 _ (xn1 (xne_k hk9999z26 hk9999o (by decide)) xn0)).trans (hF4.2.1 _ xn0)) ((hF46.2.1 _ (xn1 (xne_k hk9999z27 hk9999o (by decide)) xn0)).trans (hF4.2.1 _ xn0)) ((hF46.2.1 _ (xn1 (xne_k hk9999z28 hk9999o (by decide)) xn0)).trans (hF4.2.1 _ xn0)) ((hF46.2.1 _ (xn1 (xne_k hk9999z29 hk9999o (by decide)) xn0)).trans (hF4.2.1 _ xn0)) ((hF46.2.1 _ (xn1 (xne_k hk9999z30 hk9999o (by decide)) xn0)).trans (hF4.2.1 _ xn0)) ((hF46.1 _ _ xn0).trans (hF4.1 _ _ (xnj (by decide) xn0))))), (v_X10_put_49_6 (F := F) a G G46 ron ((hF46.2.1 _ (xn1 (xne_k hk9999w hk9999o (by decide)) xn0)).trans (hF4.2.1 _ xn0)) ((hF46.2.1 _ (xn1 (xne_k hk9999y hk9999o (by decide)) xn0)).trans (hF4.2.1 _ xn0)))⟩ hT
      · refine lv_iload hx hb dX10_put_28 (lv_at hl 4 rfl) ?_
        refine x_clp (x_runS (As := [.int p3]) (rest := []) S (c_X10_isValue l E K F G4 H p3) ms_X10_isValue km_X10_185 rfl rfl ⟨Nat.le_of_ble_eq_true rfl, Nat.le_of_ble_eq_true rfl⟩ hK (fun _ => XPh.blind) (fun U hU hW => XPh.at hK hz hS hT hU hW) rfl hl.1 (Nat.le_of_ble_eq_true rfl) dX10_put_30 ⟨Nat.le_of_ble_eq_true rfl, Nat.le_of_ble_eq_true rfl⟩) hS ?_
        rintro _ _ locs ⟨x30, rfl, b30, t30⟩ hS
        have t30 : (x30.toInt = 1 ∧ (p3.toInt = -1000 ∨ (-99 ≤ p3.toInt ∧ p3.toInt < 100))) ∨ (x30.toInt = 0 ∧ p3.toInt ≠ -1000 ∧ (p3.toInt < -99 ∨ 100 ≤ p3.toInt)) := t30
        refine xi_zeq (tgt := 44) hx hb (rfl : Int32.toInt x30 = x30.toInt) dX10_put_33 (by decide) (fun c33 => ?_) (fun c33 => ?_)
        · refine lv_aload_n hx hb dX10_put_44 rfl (lv_at hl 0 rfl) ?_
          refine lv_iconst (v := (-1)) hx hb dX10_put_45 (by decide) ?_
          refine x_cl0 (x_runV (b := a) (As := [.int (-1)]) (rest := []) S (c_X10_refuseAct l E K F G4 a (-1) ha) mv_X10_refuseAct km_X10_188 rfl rfl ⟨Nat.le_of_ble_eq_true rfl, Nat.le_of_ble_eq_true rfl⟩ (rc_12 hK hT ha) hK (fun _ => XP.blind) (fun U hU hW => XP.at hK hz hS hT hU hW) rfl hl.1 (Nat.le_of_ble_eq_true rfl) dX10_put_46 ⟨Nat.le_of_ble_eq_true rfl, Nat.le_of_ble_eq_true rfl⟩) hS ?_
          rintro _ G46 H locs ⟨x46, rfl, hF46, t46⟩ hT hS
          have t46 : x46.toInt = (-1 : Int) := by rw [((by decide) : Int32.toInt (-1) = (-1 : Int))] at t46; exact t46
          exact x_ri hx hb hr hlk hQ (Nat.le_of_ble_eq_true rfl) (Nat.le_of_ble_eq_true rfl) hS dX10_put_49 G46 ⟨_, rfl, (XFr.call (XFr.call XFr.rf hF4 (xm1 2 rfl xm0) xm0 xm0) hF46 xm0 (xm1 10 rfl xm0) xm0), (by rw [(show (G46.1 (F a 8) 6).toInt = ((G.1 (F a 8) 6).toInt) from (congrArg Int32.toInt ((hF46.1 _ _ xn0).trans (hF4.1 _ _ (xnj (by decide) xn0)))).trans (rfl : Int32.toInt (G.1 (F a 8) 6) = ((G.1 (F a 8) 6).toInt)))] <;> exact (sw)), (by rw [(t46 : Int32.toInt x46 = (-1 : Int))] <;> exact (v_X10_put_49_7 (K := K) (F := F) a G G46 G4 x8 p0 x15 p1 x22 p2 x30 p3 p4 ha hk9999 hj9999 hk9999a hj9999a hk9999b hj9999b hk9999c hj9999c hk9999d hj9999d hk9999e hj9999e hk9999f hj9999f hk9999g hj9999g hk9999h hj9999i hk9999i hj9999k hk9999j hj9999m hk9999k hj9999o hk9999l hj9999q hk9999m hj9999s hk9999n hj9999t hk9999o hj9999u hk9999p hj9999w hk9999q hj9999z25 hk9999r hj9999z27 hk9999s hj9999z29 hk9999t hj9999z31 hk9999u hj9999z33 hk9999v hj9999z34 hk9999w hj9999z36 hk9999y hj9999z38 hk9999z25 hj9999z40 hk9999z26 hj9999z42 hk9999z27 hj9999z44 hk9999z28 hj9999z46 hk9999z29 hj9999z48 hk9999z30 hj9999z50 hk9999z31 hj9999z51 hk9999z32 hj9999z53 hk9999z33 hj9999z55 hk9999z34 hj9999z56 hk9999z35 hj9999z57 hk9999z36 hj9999z58 hk9999z37 hj9999z59 hk9999z38 hj9999z61 hk9999z39 hj9999z63 sb sw t4 t8 c11 t15 c18 t22 c25 t30 c33 ((hF46.2.1 _ (xn1 (xne_k hk9999w hk9999o (by decide)) xn0)).trans (hF4.2.1 _ xn0)) ((hF46.2.1 _ (xn1 (xne_k hk9999z25 hk9999o (by decide)) xn0)).trans (hF4.2.1 _ xn0)) ((hF46.2.1 _ (xn1 (xne_k hk9999z26 hk9999o (by decide)) xn0)).trans (hF4.2.1 _ xn0)) ((hF46.2.1 _ (xn1 (xne_k hk9999z27 hk9999o (by decide)) xn0)).trans (hF4.2.1 _ xn0)) ((hF46.2.1 _ (xn1 (xne_k hk9999z28 hk9999o (by decide)) xn0)).trans (hF4.2.1 _ xn0)) ((hF46.2.1 _ (xn1 (xne_k hk9999z29 hk9999o (by decide)) xn0)).trans (hF4.2.1 _ xn0)) ((hF46.2.1 _ (xn1 (xne_k hk9999z30 hk9999o (by decide)) xn0)).trans (hF4.2.1 _ xn0)) ((hF46.1 _ _ xn0).trans (hF4.1 _ _ (xnj (by decide) xn0))))), (v_X10_put_49_8 (F := F) a G G46 ron ((hF46.2.1 _ (xn1 (xne_k hk9999w hk9999o (by decide)) xn0)).trans (hF4.2.1 _ xn0)) ((hF46.2.1 _ (xn1 (xne_k hk9999y hk9999o (by decide)) xn0)).trans (hF4.2.1 _ xn0)))⟩ hT
        · refine lv_iload hx hb dX10_put_36 (lv_at hl 5 rfl) ?_
          refine x_clp (x_runS (As := [.int p4]) (rest := []) S (c_X10_isValue l E K F G4 H p4) ms_X10_isValue km_X10_185 rfl rfl ⟨Nat.le_of_ble_eq_true rfl, Nat.le_of_ble_eq_true rfl⟩ hK (fun _ => XPh.blind) (fun U hU hW => XPh.at hK hz hS hT hU hW) rfl hl.1 (Nat.le_of_ble_eq_true rfl) dX10_put_38 ⟨Nat.le_of_ble_eq_true rfl, Nat.le_of_ble_eq_true rfl⟩) hS ?_
          rintro _ _ locs ⟨x38, rfl, b38, t38⟩ hS
          have t38 : (x38.toInt = 1 ∧ (p4.toInt = -1000 ∨ (-99 ≤ p4.toInt ∧ p4.toInt < 100))) ∨ (x38.toInt = 0 ∧ p4.toInt ≠ -1000 ∧ (p4.toInt < -99 ∨ 100 ≤ p4.toInt)) := t38
          refine xi_zne (tgt := 50) hx hb (rfl : Int32.toInt x38 = x38.toInt) dX10_put_41 (by decide) (fun c41 => ?_) (fun c41 => ?_)
          · refine lv_aload_n hx hb dX10_put_50 rfl (lv_at hl 0 rfl) ?_
            refine gX10_3 S hK hT ha kf_X10_37 dX10_put_51 (fun _ _ => ?_)
            refine lv_iload_n hx hb dX10_put_54 rfl (lv_at hl 1 rfl) ?_
            refine lv_iload_n hx hb dX10_put_55 rfl (lv_at hl 2 rfl) ?_
            refine x_clp (x_runV (b := (F a 3)) (As := [.int p0, .int p1]) (rest := []) S (c_X6_has l E K F G4 H (F a 3) p0 p1 hk9999v (v_X10_put_56_9 (F := F) a G G4 ron rob (hF4.2.1 _ xn0) (hF4.2.1 _ xn0))) mv_X6_has km_X10_191 rfl rfl ⟨Nat.le_of_ble_eq_true rfl, Nat.le_of_ble_eq_true rfl⟩ (rc_8 hK hT hk9999v) hK (fun _ => XPh.blind) (fun U hU hW => XPh.at hK hz hS hT hU hW) rfl hl.1 (Nat.le_of_ble_eq_true rfl) dX10_put_56 ⟨Nat.le_of_ble_eq_true rfl, Nat.le_of_ble_eq_true rfl⟩) hS ?_
            rintro _ _ locs ⟨x56, rfl, b56, t56⟩ hS
            have t56 : (x56.toInt = 1 ∧ (cel (vw (G.2.1 (F (F a 3) 0))) (p0.toInt) (p1.toInt) 0) ≠ -2000) ∨ (x56.toInt = 0 ∧ (cel (vw (G.2.1 (F (F a 3) 0))) (p0.toInt) (p1.toInt) 0) = -2000) := by rw [(show G4.2.1 (F (F a 3) 0) = G.2.1 (F (F a 3) 0) from (hF4.2.1 _ xn0))] at t56; exact t56
            refine xi_zeq (tgt := 69) hx hb (rfl : Int32.toInt x56 = x56.toInt) dX10_put_59 (by decide) (fun c59 => ?_) (fun c59 => ?_)
            · refine lv_aload_n hx hb dX10_put_69 rfl (lv_at hl 0 rfl) ?_
              refine gX10_5 S hK hT ha kf_X10_44 dX10_put_70 (fun _ _ => ?_)
              refine lv_aload_n hx hb dX10_put_73 rfl (lv_at hl 0 rfl) ?_
              refine gX10_3 S hK hT ha kf_X10_37 dX10_put_74 (fun _ _ => ?_)
              refine x_cv0 (x_runV (b := (F a 5)) (As := [.ref (F a 3)]) (rest := []) S (c_X6_copy l E K F G4 (F a 5) (F a 3) hk9999z31 hk9999v (v_X10_put_77_10 (F := F) a G G4 ron rob (hF4.2.1 _ xn0) (hF4.2.1 _ xn0))) mv_X6_copy km_X10_195 rfl rfl ⟨Nat.le_of_ble_eq_true rfl, Nat.le_of_ble_eq_true rfl⟩ (rc_8 hK hT hk9999z31) hK (fun _ => XP.blind) (fun U hU hW => XP.at hK hz hS hT hU hW) rfl hl.1 (Nat.le_of_ble_eq_true rfl) dX10_put_77 ⟨Nat.le_of_ble_eq_true rfl, Nat.le_of_ble_eq_true rfl⟩) hS ?_
              rintro G77 H locs ⟨hF77, oq77, oq77a⟩ hT hS
              have oq77 : (vw (G77.2.1 (F (F a 5) 0))) = (vw (G.2.1 (F (F a 3) 0))) := by simp only [(show G4.2.1 (F (F a 3) 0) = G.2.1 (F (F a 3) 0) from (hF4.2.1 _ xn0))] at oq77; exact oq77
              refine lv_aload_n hx hb dX10_put_80 rfl (lv_at hl 0 rfl) ?_
              refine gX10_5 S hK hT ha kf_X10_44 dX10_put_81 (fun _ _ => ?_)
              refine lv_iload_n hx hb dX10_put_84 rfl (lv_at hl 1 rfl) ?_
              refine lv_iload_n hx hb dX10_put_85 rfl (lv_at hl 2 rfl) ?_
              refine x_cv0 (x_runV (b := (F a 5)) (As := [.int p0, .int p1]) (rest := []) S (c_X6_add l E K F G77 (F a 5) p0 p1 hk9999z31 (z_X10_put_5 p0.toInt p1.toInt x15.toInt x8.toInt t8 c11 t15 c18) (v_X10_put_86_11 (F := F) a G77 oq77a)) mv_X6_add km_X10_199 rfl rfl ⟨Nat.le_of_ble_eq_true rfl, Nat.le_of_ble_eq_true rfl⟩ (rc_8 hK hT hk9999z31) hK (fun _ => XP.blind) (fun U hU hW => XP.at hK hz hS hT hU hW) rfl hl.1 (Nat.le_of_ble_eq_true rfl) dX10_put_86 ⟨Nat.le_of_ble_eq_true rfl, Nat.le_of_ble_eq_true rfl⟩) hS ?_
              rintro G86 H locs ⟨hF86, oq86, oq86a⟩ hT hS
              refine lv_aload_n hx hb dX10_put_89 rfl (lv_at hl 0 rfl) ?_
              refine gX10_5 S hK hT ha kf_X10_44 dX10_put_90 (fun _ _ => ?_)
              refine lv_iload_n hx hb dX10_put_93 rfl (lv_at hl 1 rfl) ?_
              refine lv_iload_n hx hb dX10_put_94 rfl (lv_at hl 2 rfl) ?_
              refine lv_iconst (v := 0) hx hb dX10_put_95 (by decide) ?_
              refine lv_iload_n hx hb dX10_put_96 rfl (lv_at hl 3 rfl) ?_
              refine x_cv0 (x_runV (b := (F a 5)) (As := [.int p0, .int p1, .int 0, .int p2]) (rest := []) S (c_X6_change l E K F G86 (F a 5) p0 p1 0 p2 hk9999z31 (by decide) (z_X10_put_6 p2.toInt x22.toInt t22 c25) (v_X10_put_97_12 (F := F) a G86 oq86a)) mv_X6_change km_X10_203 rfl rfl ⟨Nat.le_of_ble_eq_true rfl, Nat.le_of_ble_eq_true rfl⟩ (rc_8 hK hT hk9999z31) hK (fun _ => XP.blind) (fun U hU hW => XP.at hK hz hS hT hU hW) rfl hl.1 (Nat.le_of_ble_eq_true rfl) dX10_put_97 ⟨Nat.le_of_ble_eq_true rfl, Nat.le_of_ble_eq_true rfl⟩) hS ?_
              rintro G97 H locs ⟨hF97, oq97, oq97a⟩ hT hS
              refine lv_aload_n hx hb dX10_put_100 rfl (lv_at hl 0 rfl) ?_
              refine gX10_5 S hK hT ha kf_X10_44 dX10_put_101 (fun _ _ => ?_)
              refine lv_iload_n hx hb dX10_put_104 rfl (lv_at hl 1 rfl) ?_
              refine lv_iload_n hx hb dX10_put_105 rfl (lv_at hl 2 rfl) ?_
              refine lv_iconst (v := 1) hx hb dX10_put_106 (by decide) ?_
              refine lv_iload hx hb dX10_put_107 (lv_at hl 4 rfl) ?_
              refine x_cv0 (x_runV (b := (F a 5)) (As := [.int p0, .int p1, .int 1, .int p3]) (rest := []) S (c_X6_change l E K F G97 (F a 5) p0 p1 1 p3 hk9999z31 (by decide) (z_X10_put_6 p3.toInt x30.toInt t30 c33) (v_X10_put_109_13 (F := F) a G97 oq97a)) mv_X6_change km_X10_203 rfl rfl ⟨Nat.le_of_ble_eq_true rfl, Nat.le_of_ble_eq_true rfl⟩ (rc_8 hK hT hk9999z31) hK (fun _ => XP.blind) (fun U hU hW => XP.at hK hz hS hT hU hW) rfl hl.1 (Nat.le_of_ble_eq_true rfl) dX10_put_109 ⟨Nat.le_of_ble_eq_true rfl, Nat.le_of_ble_eq_true rfl⟩) hS ?_
              rintro G109 H locs ⟨hF109, oq109, oq109a⟩ hT hS
              refine lv_aload_n hx hb dX10_put_112 rfl (lv_at hl 0 rfl) ?_
              refine gX10_5 S hK hT ha kf_X10_44 dX10_put_113 (fun _ _ => ?_)
              refine lv_iload_n hx hb dX10_put_116 rfl (lv_at hl 1 rfl) ?_
              refine lv_iload_n hx hb dX10_put_117 rfl (lv_at hl 2 rfl) ?_
              refine lv_iconst (v := 2) hx hb dX10_put_118 (by decide) ?_
              refine lv_iload hx hb dX10_put_119 (lv_at hl 5 rfl) ?_
              refine x_cv0 (x_runV (b := (F a 5)) (As := [.int p0, .int p1, .int 2, .int p4]) (rest := []) S (c_X6_change l E K F G109 (F a 5) p0 p1 2 p4 hk9999z31 (by decide) (z_X10_put_8 p4.toInt x38.toInt t38 c41) (v_X10_put_121_14 (F := F) a G109 oq109a)) mv_X6_change km_X10_203 rfl rfl ⟨Nat.le_of_ble_eq_true rfl, Nat.le_of_ble_eq_true rfl⟩ (rc_8 hK hT hk9999z31) hK (fun _ => XP.blind) (fun U hU hW => XP.at hK hz hS hT hU hW) rfl hl.1 (Nat.le_of_ble_eq_true rfl) dX10_put_121 ⟨Nat.le_of_ble_eq_true rfl, Nat.le_of_ble_eq_true rfl⟩) hS ?_
              rintro G121 H locs ⟨hF121, oq121, oq121a⟩ hT hS
              refine lv_aload_n hx hb dX10_put_124 rfl (lv_at hl 0 rfl) ?_
              refine x_cl (x_runV (b := a) (As := []) (rest := []) S (c_X10_actAsOnPaper l E K F G121 a ha (by rw [(show (G121.1 (F a 2) 2).toInt = ((G.1 (F a 2) 2).toInt) from (congrArg Int32.toInt ((hF121.1 _ _ xn0).trans ((hF109.1 _ _ xn0).trans ((hF97.1 _ _ xn0).trans ((hF86.1 _ _ xn0).trans ((hF77.1 _ _ xn0).trans (hF4.1 _ _ (xnj (by decide) xn0)))))))).trans (rfl : Int32.toInt (G.1 (F a 2) 2) = ((G.1 (F a 2) 2).toInt)))] <;> exact (sb)) (by rw [(show (G121.1 (F a 8) 6).toInt = ((G.1 (F a 8) 6).toInt) from (congrArg Int32.toInt ((hF121.1 _ _ xn0).trans ((hF109.1 _ _ xn0).trans ((hF97.1 _ _ xn0).trans ((hF86.1 _ _ xn0).trans ((hF77.1 _ _ xn0).trans (hF4.1 _ _ (xnj (by decide) xn0)))))))).trans (rfl : Int32.toInt (G.1 (F a 8) 6) = ((G.1 (F a 8) 6).toInt)))] <;> exact (sw)) (v_X10_put_125_15 (F := F) a G G121 G77 G86 G97 G109 ron rob oq77a oq86a oq97a oq109a oq121a ((hF121.2.1 _ (xn1 (xne_j hj9999z36 hj9999z53 (by first | decide | omega)) xn0)).trans ((hF109.2.1 _ (xn1 (xne_j hj9999z36 hj9999z53 (by first | decide | omega)) xn0)).trans ((hF97.2.1 _ (xn1 (xne_j hj9999z36 hj9999z53 (by first | decide | omega)) xn0)).trans ((hF86.2.1 _ (xn1 (xne_j hj9999z36 hj9999z53 (by first | decide | omega)) (xn1 (xne_k hk9999w hk9999z33 (by decide)) xn0))).trans ((hF77.2.1 _ (xn1 (xne_j hj9999z36 hj9999z53 (by first | decide | omega)) (xn1 (xne_k hk9999w hk9999z33 (by decide)) xn0))).trans (hF4.2.1 _ xn0)))))) ((hF121.2.1 _ (xn1 (xne_k hk9999y hk9999z32 (by decide)) xn0)).trans ((hF109.2.1 _ (xn1 (xne_k hk9999y hk9999z32 (by decide)) xn0)).trans ((hF97.2.1 _ (xn1 (xne_k hk9999y hk9999z32 (by decide)) xn0)).trans ((hF86.2.1 _ (xn1 (xne_k hk9999y hk9999z32 (by decide)) (xn1 (xne_j hj9999z38 hj9999z55 (by first | decide | omega)) xn0))).trans ((hF77.2.1 _ (xn1 (xne_k hk9999y hk9999z32 (by decide)) (xn1 (xne_j hj9999z38 hj9999z55 (by first | decide | omega)) xn0))).trans (hF4.2.1 _ xn0))))))) (v_X10_put_125_16 (F := F) a G121 oq121a) (v_X10_put_125_17 (F := F) a G G121 G77 G86 G97 G109 ron rob oq77a oq86a oq97a oq109a oq121a ((hF121.2.1 _ (xn1 (xne_j hj9999z61 hj9999z53 (by first | decide | omega)) xn0)).trans ((hF109.2.1 _ (xn1 (xne_j hj9999z61 hj9999z53 (by first | decide | omega)) xn0)).trans ((hF97.2.1 _ (xn1 (xne_j hj9999z61 hj9999z53 (by first | decide | omega)) xn0)).trans ((hF86.2.1 _ (xn1 (xne_j hj9999z61 hj9999z53 (by first | decide | omega)) (xn1 (xne_k hk9999z38 hk9999z33 (by decide)) xn0))).trans ((hF77.2.1 _ (xn1 (xne_j hj9999z61 hj9999z53 (by first | decide | omega)) (xn1 (xne_k hk9999z38 hk9999z33 (by decide)) xn0))).trans (hF4.2.1 _ xn0)))))) ((hF121.2.1 _ (xn1 (xne_k hk9999z39 hk9999z32 (by decide)) xn0)).trans ((hF109.2.1 _ (xn1 (xne_k hk9999z39 hk9999z32 (by decide)) xn0)).trans ((hF97.2.1 _ (xn1 (xne_k hk9999z39 hk9999z32 (by decide)) xn0)).trans ((hF86.2.1 _ (xn1 (xne_k hk9999z39 hk9999z32 (by decide)) (xn1 (xne_j hj9999z63 hj9999z55 (by first | decide | omega)) xn0))).trans ((hF77.2.1 _ (xn1 (xne_k hk9999z39 hk9999z32 (by decide)) (xn1 (xne_j hj9999z63 hj9999z55 (by first | decide | omega)) xn0))).trans (hF4.2.1 _ xn0))))))) (v_X10_put_125_18 (K := K) (F := F) a G G121 G4 G77 G86 G97 G109 p0 p1 p2 p3 p4 x8 x15 x22 x30 x38 x56 ha hk9999 hj9999 hk9999a hj9999a hk9999b hj9999b hk9999c hj9999c hk9999d hj9999d hk9999e hj9999e hk9999f hj9999f hk9999g hj9999g hk9999h hj9999i hk9999i hj9999k hk9999j hj9999m hk9999k hj9999o hk9999l hj9999q hk9999m hj9999s hk9999n hj9999t hk9999o hj9999u hk9999p hj9999w hk9999q hj9999z25 hk9999r hj9999z27 hk9999s hj9999z29 hk9999t hj9999z31 hk9999u hj9999z33 hk9999v hj9999z34 hk9999w hj9999z36 hk9999y hj9999z38 hk9999z25 hj9999z40 hk9999z26 hj9999z42 hk9999z27 hj9999z44 hk9999z28 hj9999z46 hk9999z29 hj9999z48 hk9999z30 hj9999z50 hk9999z31 hj9999z51 hk9999z32 hj9999z53 hk9999z33 hj9999z55 hk9999z34 hj9999z56 hk9999z35 hj9999z57 hk9999z36 hj9999z58 hk9999z37 hj9999z59 hk9999z38 hj9999z61 hk9999z39 hj9999z63 (XFr.call (XFr.call (XFr.call (XFr.call (XFr.call (XFr.call XFr.rf hF4 (xm1 2 rfl xm0) xm0 xm0) hF77 xm0 (xm1 25 rfl (xm1 26 rfl xm0)) xm0) hF86 xm0 (xm1 25 rfl (xm1 26 rfl xm0)) xm0) hF97 xm0 (xm1 25 rfl xm0) xm0) hF109 xm0 (xm1 25 rfl xm0) xm0) hF121 xm0 (xm1 25 rfl xm0) xm0) hF4 hF77 hF86 hF97 hF109 hF121 ron rob bko bkn oq77 oq77a oq86 oq86a oq97 oq97a oq109 oq109a oq121 oq121a sb sw t4 t8 c11 t15 c18 t22 c25 t30 c33 t38 c41 t56 c59 ((hF109.2.1 _ (xn1 (xne_k hk9999z33 hk9999z32 (by decide)) xn0)).trans (hF97.2.1 _ (xn1 (xne_k hk9999z33 hk9999z32 (by decide)) xn0))) ((hF121.2.1 _ (xn1 (xne_k hk9999p hk9999z32 (by decide)) xn0)).trans ((hF109.2.1 _ (xn1 (xne_k hk9999p hk9999z32 (by decide)) xn0)).trans ((hF97.2.1 _ (xn1 (xne_k hk9999p hk9999z32 (by decide)) xn0)).trans ((hF86.2.1 _ (xn1 (xne_k hk9999p hk9999z32 (by decide)) (xn1 (xne_k hk9999p hk9999z33 (by decide)) xn0))).trans ((hF77.2.1 _ (xn1 (xne_k hk9999p hk9999z32 (by decide)) (xn1 (xne_k hk9999p hk9999z33 (by decide)) xn0))).trans (hF4.2.1 _ xn0)))))) ((hF121.2.1 _ (xn1 (xne_k hk9999q hk9999z32 (by decide)) xn0)).trans ((hF109.2.1 _ (xn1 (xne_k hk9999q hk9999z32 (by decide)) xn0)).trans ((hF97.2.1 _ (xn1 (xne_k hk9999q hk9999z32 (by decide)) xn0)).trans ((hF86.2.1 _ (xn1 (xne_k hk9999q hk9999z32 (by decide)) (xn1 (xne_k hk9999q hk9999z33 (by decide)) xn0))).trans ((hF77.2.1 _ (xn1 (xne_k hk9999q hk9999z32 (by decide)) (xn1 (xne_k hk9999q hk9999z33 (by decide)) xn0))).trans (hF4.2.1 _ xn0)))))) ((hF121.2.1 _ (xn1 (xne_k hk9999r hk9999z32 (by decide)) xn0)).trans ((hF109.2.1 _ (xn1 (xne_k hk9999r hk9999z32 (by decide)) xn0)).trans ((hF97.2.1 _ (xn1 (xne_k hk9999r hk9999z32 (by decide)) xn0)).trans ((hF86.2.1 _ (xn1 (xne_k hk9999r hk9999z32 (by decide)) (xn1 (xne_k hk9999r hk9999z33 (by decide)) xn0))).trans ((hF77.2.1 _ (xn1 (xne_k hk9999r hk9999z32 (by decide)) (xn1 (xne_k hk9999r hk9999z33 (by decide)) xn0))).trans (hF4.2.1 _ xn0)))))) ((hF121.2.1 _ (xn1 (xne_k hk9999s hk9999z32 (by decide)) xn0)).trans ((hF109.2.1 _ (xn1 (xne_k hk9999s hk9999z32 (by decide)) xn0)).trans ((hF97.2.1 _ (xn1 (xne_k hk9999s hk9999z32 (by decide)) xn0)).trans ((hF86.2.1 _ (xn1 (xne_k hk9999s hk9999z32 (by decide)) (xn1 (xne_k hk9999s hk9999z33 (by decide)) xn0))).trans ((hF77.2.1 _ (xn1 (xne_k hk9999s hk9999z32 (by decide)) (xn1 (xne_k hk9999s hk9999z33 (by decide)) xn0))).trans (hF4.2.1 _ xn0)))))) ((hF121.2.1 _ (xn1 (xne_k hk9999t hk9999z32 (by decide)) xn0)).trans ((hF109.2.1 _ (xn1 (xne_k hk9999t hk9999z32 (by decide)) xn0)).trans ((hF97.2.1 _ (xn1 (xne_k hk9999t hk9999z32 (by decide)) xn0)).trans ((hF86.2.1 _ (xn1 (xne_k hk9999t hk9999z32 (by decide)) (xn1 (xne_k hk9999t hk9999z33 (by decide)) xn0))).trans ((hF77.2.1 _ (xn1 (xne_k hk9999t hk9999z32 (by decide)) (xn1 (xne_k hk9999t hk9999z33 (by decide)) xn0))).trans (hF4.2.1 _ xn0)))))) ((hF121.2.1 _ (xn1 (xne_k hk9999u hk9999z32 (by decide)) xn0)).trans ((hF109.2.1 _ (xn1 (xne_k hk9999u hk9999z32 (by decide)) xn0)).trans ((hF97.2.1 _ (xn1 (xne_k hk9999u hk9999z32 (by decide)) xn0)).trans ((hF86.2.1 _ (xn1 (xne_k hk9999u hk9999z32 (by decide)) (xn1 (xne_k hk9999u hk9999z33 (by decide)) xn0))).trans ((hF77.2.1 _ (xn1 (xne_k hk9999u hk9999z32 (by decide)) (xn1 (xne_k hk9999u hk9999z33 (by decide)) xn0))).trans (hF4.2.1 _ xn0)))))) ((hF121.2.1 _ (xn1 (xne_k hk9999e hk9999z32 (by decide)) xn0)).trans ((hF109.2.1 _ (xn1 (xne_k hk9999e hk9999z32 (by decide)) xn0)).trans ((hF97.2.1 _ (xn1 (xne_k hk9999e hk9999z32 (by decide)) xn0)).trans ((hF86.2.1 _ (xn1 (xne_k hk9999e hk9999z32 (by decide)) (xn1 (xne_j hj9999e hj9999z55 (by first | decide | omega)) xn0))).trans ((hF77.2.1 _ (xn1 (xne_k hk9999e hk9999z32 (by decide)) (xn1 (xne_j hj9999e hj9999z55 (by first | decide | omega)) xn0))).trans (hF4.2.1 _ xn0)))))) ((hF121.2.1 _ (xn1 (xne_k hk9999f hk9999z32 (by decide)) xn0)).trans ((hF109.2.1 _ (xn1 (xne_k hk9999f hk9999z32 (by decide)) xn0)).trans ((hF97.2.1 _ (xn1 (xne_k hk9999f hk9999z32 (by decide)) xn0)).trans ((hF86.2.1 _ (xn1 (xne_k hk9999f hk9999z32 (by decide)) (xn1 (xne_j hj9999f hj9999z55 (by first | decide | omega)) xn0))).trans ((hF77.2.1 _ (xn1 (xne_k hk9999f hk9999z32 (by decide)) (xn1 (xne_j hj9999f hj9999z55 (by first | decide | omega)) xn0))).trans (hF4.2.1 _ xn0)))))) ((hF121.2.1 _ (xn1 (xne_k hk9999g hk9999z32 (by decide)) xn0)).trans ((hF109.2.1 _ (xn1 (xne_k hk9999g hk9999z32 (by decide)) xn0)).trans ((hF97.2.1 _ (xn1 (xne_k hk9999g hk9999z32 (by decide)) xn0)).trans ((hF86.2.1 _ (xn1 (xne_k hk9999g hk9999z32 (by decide)) (xn1 (xne_k hk9999g hk9999z33 (by decide)) xn0))).trans ((hF77.2.1 _ (xn1 (xne_k hk9999g hk9999z32 (by decide)) (xn1 (xne_k hk9999g hk9999z33 (by decide)) xn0))).trans (hF4.2.1 _ xn0)))))) ((hF121.2.1 _ (xn1 (xne_j hj9999z36 hj9999z53 (by first | decide | omega)) xn0)).trans ((hF109.2.1 _ (xn1 (xne_j hj9999z36 hj9999z53 (by first | decide | omega)) xn0)).trans ((hF97.2.1 _ (xn1 (xne_j hj9999z36 hj9999z53 (by first | decide | omega)) xn0)).trans ((hF86.2.1 _ (xn1 (xne_j hj9999z36 hj9999z53 (by first | decide | omega)) (xn1 (xne_k hk9999w hk9999z33 (by decide)) xn0))).trans ((hF77.2.1 _ (xn1 (xne_j hj9999z36 hj9999z53 (by first | decide | omega)) (xn1 (xne_k hk9999w hk9999z33 (by decide)) xn0))).trans (hF4.2.1 _ xn0)))))) ((hF121.2.1 _ (xn1 (xne_k hk9999y hk9999z32 (by decide)) xn0)).trans ((hF109.2.1 _ (xn1 (xne_k hk9999y hk9999z32 (by decide)) xn0)).trans ((hF97.2.1 _ (xn1 (xne_k hk9999y hk9999z32 (by decide)) xn0)).trans ((hF86.2.1 _ (xn1 (xne_k hk9999y hk9999z32 (by decide)) (xn1 (xne_j hj9999z38 hj9999z55 (by first | decide | omega)) xn0))).trans ((hF77.2.1 _ (xn1 (xne_k hk9999y hk9999z32 (by decide)) (xn1 (xne_j hj9999z38 hj9999z55 (by first | decide | omega)) xn0))).trans (hF4.2.1 _ xn0)))))) ((hF121.2.1 _ (xn1 (xne_k hk9999z33 hk9999z32 (by decide)) xn0)).trans ((hF109.2.1 _ (xn1 (xne_k hk9999z33 hk9999z32 (by decide)) xn0)).trans (hF97.2.1 _ (xn1 (xne_k hk9999z33 hk9999z32 (by decide)) xn0)))) ((hF121.2.1 _ (xn1 (xne_k hk9999z25 hk9999z32 (by decide)) xn0)).trans ((hF109.2.1 _ (xn1 (xne_k hk9999z25 hk9999z32 (by decide)) xn0)).trans ((hF97.2.1 _ (xn1 (xne_k hk9999z25 hk9999z32 (by decide)) xn0)).trans ((hF86.2.1 _ (xn1 (xne_k hk9999z25 hk9999z32 (by decide)) (xn1 (xne_k hk9999z25 hk9999z33 (by decide)) xn0))).trans ((hF77.2.1 _ (xn1 (xne_k hk9999z25 hk9999z32 (by decide)) (xn1 (xne_k hk9999z25 hk9999z33 (by decide)) xn0))).trans (hF4.2.1 _ xn0)))))) ((hF121.2.1 _ (xn1 (xne_k hk9999z26 hk9999z32 (by decide)) xn0)).trans ((hF109.2.1 _ (xn1 (xne_k hk9999z26 hk9999z32 (by decide)) xn0)).trans ((hF97.2.1 _ (xn1 (xne_k hk9999z26 hk9999z32 (by decide)) xn0)).trans ((hF86.2.1 _ (xn1 (xne_k hk9999z26 hk9999z32 (by decide)) (xn1 (xne_k hk9999z26 hk9999z33 (by decide)) xn0))).trans ((hF77.2.1 _ (xn1 (xne_k hk9999z26 hk9999z32 (by decide)) (xn1 (xne_k hk9999z26 hk9999z33 (by decide)) xn0))).trans (hF4.2.1 _ xn0)))))) ((hF121.2.1 _ (xn1 (xne_k hk9999z27 hk9999z32 (by decide)) xn0)).trans ((hF109.2.1 _ (xn1 (xne_k hk9999z27 hk9999z32 (by decide)) xn0)).trans ((hF97.2.1 _ (xn1 (xne_k hk9999z27 hk9999z32 (by decide)) xn0)).trans ((hF86.2.1 _ (xn1 (xne_k hk9999z27 hk9999z32 (by decide)) (xn1 (xne_k hk9999z27 hk9999z33 (by decide)) xn0))).trans ((hF77.2.1 _ (xn1 (xne_k hk9999z27 hk9999z32 (by decide)) (xn1 (xne_k hk9999z27 hk9999z33 (by decide)) xn0))).trans (hF4.2.1 _ xn0)))))) ((hF121.2.1 _ (xn1 (xne_k hk9999z28 hk9999z32 (by decide)) xn0)).trans ((hF109.2.1 _ (xn1 (xne_k hk9999z28 hk9999z32 (by decide)) xn0)).trans ((hF97.2.1 _ (xn1 (xne_k hk9999z28 hk9999z32 (by decide)) xn0)).trans ((hF86.2.1 _ (xn1 (xne_k hk9999z28 hk9999z32 (by decide)) (xn1 (xne_k hk9999z28 hk9999z33 (by decide)) xn0))).trans ((hF77.2.1 _ (xn1 (xne_k hk9999z28 hk9999z32 (by decide)) (xn1 (xne_k hk9999z28 hk9999z33 (by decide)) xn0))).trans (hF4.2.1 _ xn0)))))) ((hF121.2.1 _ (xn1 (xne_k hk9999z29 hk9999z32 (by decide)) xn0)).trans ((hF109.2.1 _ (xn1 (xne_k hk9999z29 hk9999z32 (by decide)) xn0)).trans ((hF97.2.1 _ (xn1 (xne_k hk9999z29 hk9999z32 (by decide)) xn0)).trans ((hF86.2.1 _ (xn1 (xne_k hk9999z29 hk9999z32 (by decide)) (xn1 (xne_k hk9999z29 hk9999z33 (by decide)) xn0))).trans ((hF77.2.1 _ (xn1 (xne_k hk9999z29 hk9999z32 (by decide)) (xn1 (xne_k hk9999z29 hk9999z33 (by decide)) xn0))).trans (hF4.2.1 _ xn0)))))) ((hF121.2.1 _ (xn1 (xne_k hk9999z30 hk9999z32 (by decide)) xn0)).trans ((hF109.2.1 _ (xn1 (xne_k hk9999z30 hk9999z32 (by decide)) xn0)).trans ((hF97.2.1 _ (xn1 (xne_k hk9999z30 hk9999z32 (by decide)) xn0)).trans ((hF86.2.1 _ (xn1 (xne_k hk9999z30 hk9999z32 (by decide)) (xn1 (xne_k hk9999z30 hk9999z33 (by decide)) xn0))).trans ((hF77.2.1 _ (xn1 (xne_k hk9999z30 hk9999z32 (by decide)) (xn1 (xne_k hk9999z30 hk9999z33 (by decide)) xn0))).trans (hF4.2.1 _ xn0)))))) ((hF121.2.1 _ (xn1 (xne_k hk9999h hk9999z32 (by decide)) xn0)).trans ((hF109.2.1 _ (xn1 (xne_k hk9999h hk9999z32 (by decide)) xn0)).trans ((hF97.2.1 _ (xn1 (xne_k hk9999h hk9999z32 (by decide)) xn0)).trans ((hF86.2.1 _ (xn1 (xne_k hk9999h hk9999z32 (by decide)) (xn1 (xne_k hk9999h hk9999z33 (by decide)) xn0))).trans ((hF77.2.1 _ (xn1 (xne_k hk9999h hk9999z32 (by decide)) (xn1 (xne_k hk9999h hk9999z33 (by decide)) xn0))).trans (hF4.2.1 _ xn0)))))) ((hF121.2.1 _ (xn1 (xne_k hk9999i hk9999z32 (by decide)) xn0)).trans ((hF109.2.1 _ (xn1 (xne_k hk9999i hk9999z32 (by decide)) xn0)).trans ((hF97.2.1 _ (xn1 (xne_k hk9999i hk9999z32 (by decide)) xn0)).trans ((hF86.2.1 _ (xn1 (xne_k hk9999i hk9999z32 (by decide)) (xn1 (xne_k hk9999i hk9999z33 (by decide)) xn0))).trans ((hF77.2.1 _ (xn1 (xne_k hk9999i hk9999z32 (by decide)) (xn1 (xne_k hk9999i hk9999z33 (by decide)) xn0))).trans (hF4.2.1 _ xn0)))))) ((hF121.2.1 _ (xn1 (xne_k hk9999j hk9999z32 (by decide)) xn0)).trans ((hF109.2.1 _ (xn1 (xne_k hk9999j hk9999z32 (by decide)) xn0)).trans ((hF97.2.1 _ (xn1 (xne_k hk9999j hk9999z32 (by decide)) xn0)).trans ((hF86.2.1 _ (xn1 (xne_k hk9999j hk9999z32 (by decide)) (xn1 (xne_k hk9999j hk9999z33 (by decide)) xn0))).trans ((hF77.2.1 _ (xn1 (xne_k hk9999j hk9999z32 (by decide)) (xn1 (xne_k hk9999j hk9999z33 (by decide)) xn0))).trans (hF4.2.1 _ xn0)))))) ((hF121.2.1 _ (xn1 (xne_k hk9999k hk9999z32 (by decide)) xn0)).trans ((hF109.2.1 _ (xn1 (xne_k hk9999k hk9999z32 (by decide)) xn0)).trans ((hF97.2.1 _ (xn1 (xne_k hk9999k hk9999z32 (by decide)) xn0)).trans ((hF86.2.1 _ (xn1 (xne_k hk9999k hk9999z32 (by decide)) (xn1 (xne_k hk9999k hk9999z33 (by decide)) xn0))).trans ((hF77.2.1 _ (xn1 (xne_k hk9999k hk9999z32 (by decide)) (xn1 (xne_k hk9999k hk9999z33 (by decide)) xn0))).trans (hF4.2.1 _ xn0)))))) ((hF121.2.1 _ (xn1 (xne_k hk9999l hk9999z32 (by decide)) xn0)).trans ((hF109.2.1 _ (xn1 (xne_k hk9999l hk9999z32 (by decide)) xn0)).trans ((hF97.2.1 _ (xn1 (xne_k hk9999l hk9999z32 (by decide)) xn0)).trans ((hF86.2.1 _ (xn1 (xne_k hk9999l hk9999z32 (by decide)) (xn1 (xne_k hk9999l hk9999z33 (by decide)) xn0))).trans ((hF77.2.1 _ (xn1 (xne_k hk9999l hk9999z32 (by decide)) (xn1 (xne_k hk9999l hk9999z33 (by decide)) xn0))).trans (hF4.2.1 _ xn0)))))) ((hF121.2.1 _ (xn1 (xne_k hk9999m hk9999z32 (by decide)) xn0)).trans ((hF109.2.1 _ (xn1 (xne_k hk9999m hk9999z32 (by decide)) xn0)).trans ((hF97.2.1 _ (xn1 (xne_k hk9999m hk9999z32 (by decide)) xn0)).trans ((hF86.2.1 _ (xn1 (xne_k hk9999m hk9999z32 (by decide)) (xn1 (xne_k hk9999m hk9999z33 (by decide)) xn0))).trans ((hF77.2.1 _ (xn1 (xne_k hk9999m hk9999z32 (by decide)) (xn1 (xne_k hk9999m hk9999z33 (by decide)) xn0))).trans (hF4.2.1 _ xn0)))))) ((hF121.2.1 _ (xn1 (xne_k hk9999o hk9999z32 (by decide)) xn0)).trans ((hF109.2.1 _ (xn1 (xne_k hk9999o hk9999z32 (by decide)) xn0)).trans ((hF97.2.1 _ (xn1 (xne_k hk9999o hk9999z32 (by decide)) xn0)).trans ((hF86.2.1 _ (xn1 (xne_k hk9999o hk9999z32 (by decide)) (xn1 (xne_k hk9999o hk9999z33 (by decide)) xn0))).trans ((hF77.2.1 _ (xn1 (xne_k hk9999o hk9999z32 (by decide)) (xn1 (xne_k hk9999o hk9999z33 (by decide)) xn0))).trans (hF4.2.1 _ xn0)))))) ((hF121.2.1 _ (xn1 (xne_k hk9999n hk9999z32 (by decide)) xn0)).trans ((hF109.2.1 _ (xn1 (xne_k hk9999n hk9999z32 (by decide)) xn0)).trans ((hF97.2.1 _ (xn1 (xne_k hk9999n hk9999z32 (by decide)) xn0)).trans ((hF86.2.1 _ (xn1 (xne_k hk9999n hk9999z32 (by decide)) (xn1 (xne_k hk9999n hk9999z33 (by decide)) xn0))).trans ((hF77.2.1 _ (xn1 (xne_k hk9999n hk9999z32 (by decide)) (xn1 (xne_k hk9999n hk9999z33 (by decide)) xn0))).trans (hF4.2.1 _ xn0)))))) (hF97.2.1 _ (xn1 (xne_k hk9999z33 hk9999z32 (by decide)) xn0)) ((hF121.2.2 _ xn0).trans ((hF109.2.2 _ xn0).trans ((hF97.2.2 _ xn0).trans ((hF86.2.2 _ xn0).trans ((hF77.2.2 _ xn0).trans (hF4.2.2 _ xn0)))))) ((hF121.1 _ _ xn0).trans ((hF109.1 _ _ xn0).trans ((hF97.1 _ _ xn0).trans ((hF86.1 _ _ xn0).trans ((hF77.1 _ _ xn0).trans (hF4.1 _ _ (xnj (by decide) xn0))))))) ((hF121.1 _ _ xn0).trans ((hF109.1 _ _ xn0).trans ((hF97.1 _ _ xn0).trans ((hF86.1 _ _ xn0).trans ((hF77.1 _ _ xn0).trans (hF4.1 _ _ (xnj (by decide) xn0))))))) ((hF121.1 _ _ xn0).trans ((hF109.1 _ _ xn0).trans ((hF97.1 _ _ xn0).trans ((hF86.1 _ _ xn0).trans (hF77.1 _ _ xn0))))) ((hF121.1 _ _ xn0).trans ((hF109.1 _ _ xn0).trans ((hF97.1 _ _ xn0).trans ((hF86.1 _ _ xn0).trans ((hF77.1 _ _ xn0).trans (hF4.1 _ _ (xnj (by decide) xn0))))))) ((hF121.1 _ _ xn0).trans ((hF109.1 _ _ xn0).trans ((hF97.1 _ _ xn0).trans ((hF86.1 _ _ xn0).trans ((hF77.1 _ _ xn0).trans (hF4.1 _ _ (xnj (by decide) xn0))))))) ((hF121.1 _ _ xn0).trans ((hF109.1 _ _ xn0).trans ((hF97.1 _ _ xn0).trans ((hF86.1 _ _ xn0).trans ((hF77.1 _ _ xn0).trans (hF4.1 _ _ (xnj (by decide) xn0))))))) ((hF121.1 _ _ xn0).trans ((hF109.1 _ _ xn0).trans ((hF97.1 _ _ xn0).trans ((hF86.1 _ _ xn0).trans ((hF77.1 _ _ xn0).trans (hF4.1 _ _ (xnj (by decide) xn0)))))))) (v_X10_put_125_19 (K := K) (F := F) a G G121 G4 G77 G86 G97 G109 p0 p1 p2 p3 p4 x8 x15 x22 x30 x38 x56 ha hk9999 hj9999 hk9999a hj9999a hk9999b hj9999b hk9999c hj9999c hk9999d hj9999d hk9999e hj9999e hk9999f hj9999f hk9999g hj9999g hk9999h hj9999i hk9999i hj9999k hk9999j hj9999m hk9999k hj9999o hk9999l hj9999q hk9999m hj9999s hk9999n hj9999t hk9999o hj9999u hk9999p hj9999w hk9999q hj9999z25 hk9999r hj9999z27 hk9999s hj9999z29 hk9999t hj9999z31 hk9999u hj9999z33 hk9999v hj9999z34 hk9999w hj9999z36 hk9999y hj9999z38 hk9999z25 hj9999z40 hk9999z26 hj9999z42 hk9999z27 hj9999z44 hk9999z28 hj9999z46 hk9999z29 hj9999z48 hk9999z30 hj9999z50 hk9999z31 hj9999z51 hk9999z32 hj9999z53 hk9999z33 hj9999z55 hk9999z34 hj9999z56 hk9999z35 hj9999z57 hk9999z36 hj9999z58 hk9999z37 hj9999z59 hk9999z38 hj9999z61 hk9999z39 hj9999z63 (XFr.call (XFr.call (XFr.call (XFr.call (XFr.call (XFr.call XFr.rf hF4 (xm1 2 rfl xm0) xm0 xm0) hF77 xm0 (xm1 25 rfl (xm1 26 rfl xm0)) xm0) hF86 xm0 (xm1 25 rfl (xm1 26 rfl xm0)) xm0) hF97 xm0 (xm1 25 rfl xm0) xm0) hF109 xm0 (xm1 25 rfl xm0) xm0) hF121 xm0 (xm1 25 rfl xm0) xm0) hF4 hF77 hF86 hF97 hF109 hF121 ron rob bko bkn oq77 oq77a oq86 oq86a oq97 oq97a oq109 oq109a oq121 oq121a sb sw t4 t8 c11 t15 c18 t22 c25 t30 c33 t38 c41 t56 c59 ((hF109.2.1 _ (xn1 (xne_k hk9999z33 hk9999z32 (by decide)) xn0)).trans (hF97.2.1 _ (xn1 (xne_k hk9999z33 hk9999z32 (by decide)) xn0))) ((hF121.2.1 _ (xn1 (xne_k hk9999p hk9999z32 (by decide)) xn0)).trans ((hF109.2.1 _ (xn1 (xne_k hk9999p hk9999z32 (by decide)) xn0)).trans ((hF97.2.1 _ (xn1 (xne_k hk9999p hk9999z32 (by decide)) xn0)).trans ((hF86.2.1 _ (xn1 (xne_k hk9999p hk9999z32 (by decide)) (xn1 (xne_k hk9999p hk9999z33 (by decide)) xn0))).trans ((hF77.2.1 _ (xn1 (xne_k hk9999p hk9999z32 (by decide)) (xn1 (xne_k hk9999p hk9999z33 (by decide)) xn0))).trans (hF4.2.1 _ xn0)))))) ((hF121.2.1 _ (xn1 (xne_k hk9999q hk9999z32 (by decide)) xn0)).trans ((hF109.2.1 _ (xn1 (xne_k hk9999q hk9999z32 (by decide)) xn0)).trans ((hF97.2.1 _ (xn1 (xne_k hk9999q hk9999z32 (by decide)) xn0)).trans ((hF86.2.1 _ (xn1 (xne_k hk9999q hk9999z32 (by decide)) (xn1 (xne_k hk9999q hk9999z33 (by decide)) xn0))).trans ((hF77.2.1 _ (xn1 (xne_k hk9999q hk9999z32 (by decide)) (xn1 (xne_k hk9999q hk9999z33 (by decide)) xn0))).trans (hF4.2.1 _ xn0)))))) ((hF121.2.1 _ (xn1 (xne_k hk9999r hk9999z32 (by decide)) xn0)).trans ((hF109.2.1 _ (xn1 (xne_k hk9999r hk9999z32 (by decide)) xn0)).trans ((hF97.2.1 _ (xn1 (xne_k hk9999r hk9999z32 (by decide)) xn0)).trans ((hF86.2.1 _ (xn1 (xne_k hk9999r hk9999z32 (by decide)) (xn1 (xne_k hk9999r hk9999z33 (by decide)) xn0))).trans ((hF77.2.1 _ (xn1 (xne_k hk9999r hk9999z32 (by decide)) (xn1 (xne_k hk9999r hk9999z33 (by decide)) xn0))).trans (hF4.2.1 _ xn0)))))) ((hF121.2.1 _ (xn1 (xne_k hk9999s hk9999z32 (by decide)) xn0)).trans ((hF109.2.1 _ (xn1 (xne_k hk9999s hk9999z32 (by decide)) xn0)).trans ((hF97.2.1 _ (xn1 (xne_k hk9999s hk9999z32 (by decide)) xn0)).trans ((hF86.2.1 _ (xn1 (xne_k hk9999s hk9999z32 (by decide)) (xn1 (xne_k hk9999s hk9999z33 (by decide)) xn0))).trans ((hF77.2.1 _ (xn1 (xne_k hk9999s hk9999z32 (by decide)) (xn1 (xne_k hk9999s hk9999z33 (by decide)) xn0))).trans (hF4.2.1 _ xn0)))))) ((hF121.2.1 _ (xn1 (xne_k hk9999t hk9999z32 (by decide)) xn0)).trans ((hF109.2.1 _ (xn1 (xne_k hk9999t hk9999z32 (by decide)) xn0)).trans ((hF97.2.1 _ (xn1 (xne_k hk9999t hk9999z32 (by decide)) xn0)).trans ((hF86.2.1 _ (xn1 (xne_k hk9999t hk9999z32 (by decide)) (xn1 (xne_k hk9999t hk9999z33 (by decide)) xn0))).trans ((hF77.2.1 _ (xn1 (xne_k hk9999t hk9999z32 (by decide)) (xn1 (xne_k hk9999t hk9999z33 (by decide)) xn0))).trans (hF4.2.1 _ xn0)))))) ((hF121.2.1 _ (xn1 (xne_k hk9999u hk9999z32 (by decide)) xn0)).trans ((hF109.2.1 _ (xn1 (xne_k hk9999u hk9999z32 (by decide)) xn0)).trans ((hF97.2.1 _ (xn1 (xne_k hk9999u hk9999z32 (by decide)) xn0)).trans ((hF86.2.1 _ (xn1 (xne_k hk9999u hk9999z32 (by decide)) (xn1 (xne_k hk9999u hk9999z33 (by decide)) xn0))).trans ((hF77.2.1 _ (xn1 (xne_k hk9999u hk9999z32 (by decide)) (xn1 (xne_k hk9999u hk9999z33 (by decide)) xn0))).trans (hF4.2.1 _ xn0)))))) ((hF121.2.1 _ (xn1 (xne_k hk9999e hk9999z32 (by decide)) xn0)).trans ((hF109.2.1 _ (xn1 (xne_k hk9999e hk9999z32 (by decide)) xn0)).trans ((hF97.2.1 _ (xn1 (xne_k hk9999e hk9999z32 (by decide)) xn0)).trans ((hF86.2.1 _ (xn1 (xne_k hk9999e hk9999z32 (by decide)) (xn1 (xne_j hj9999e hj9999z55 (by first | decide | omega)) xn0))).trans ((hF77.2.1 _ (xn1 (xne_k hk9999e hk9999z32 (by decide)) (xn1 (xne_j hj9999e hj9999z55 (by first | decide | omega)) xn0))).trans (hF4.2.1 _ xn0)))))) ((hF121.2.1 _ (xn1 (xne_k hk9999f hk9999z32 (by decide)) xn0)).trans ((hF109.2.1 _ (xn1 (xne_k hk9999f hk9999z32 (by decide)) xn0)).trans ((hF97.2.1 _ (xn1 (xne_k hk9999f hk9999z32 (by decide)) xn0)).trans ((hF86.2.1 _ (xn1 (xne_k hk9999f hk9999z32 (by decide)) (xn1 (xne_j hj9999f hj9999z55 (by first | decide | omega)) xn0))).trans ((hF77.2.1 _ (xn1 (xne_k hk9999f hk9999z32 (by decide)) (xn1 (xne_j hj9999f hj9999z55 (by first | decide | omega)) xn0))).trans (hF4.2.1 _ xn0)))))) ((hF121.2.1 _ (xn1 (xne_k hk9999g hk9999z32 (by decide)) xn0)).trans ((hF109.2.1 _ (xn1 (xne_k hk9999g hk9999z32 (by decide)) xn0)).trans ((hF97.2.1 _ (xn1 (xne_k hk9999g hk9999z32 (by decide)) xn0)).trans ((hF86.2.1 _ (xn1 (xne_k hk9999g hk9999z32 (by decide)) (xn1 (xne_k hk9999g hk9999z33 (by decide)) xn0))).trans ((hF77.2.1 _ (xn1 (xne_k hk9999g hk9999z32 (by decide)) (xn1 (xne_k hk9999g hk9999z33 (by decide)) xn0))).trans (hF4.2.1 _ xn0)))))) ((hF121.2.1 _ (xn1 (xne_j hj9999z36 hj9999z53 (by first | decide | omega)) xn0)).trans ((hF109.2.1 _ (xn1 (xne_j hj9999z36 hj9999z53 (by first | decide | omega)) xn0)).trans ((hF97.2.1 _ (xn1 (xne_j hj9999z36 hj9999z53 (by first | decide | omega)) xn0)).trans ((hF86.2.1 _ (xn1 (xne_j hj9999z36 hj9999z53 (by first | decide | omega)) (xn1 (xne_k hk9999w hk9999z33 (by decide)) xn0))).trans ((hF77.2.1 _ (xn1 (xne_j hj9999z36 hj9999z53 (by first | decide | omega)) (xn1 (xne_k hk9999w hk9999z33 (by decide)) xn0))).trans (hF4.2.1 _ xn0)))))) ((hF121.2.1 _ (xn1 (xne_k hk9999y hk9999z32 (by decide)) xn0)).trans ((hF109.2.1 _ (xn1 (xne_k hk9999y hk9999z32 (by decide)) xn0)).trans ((hF97.2.1 _ (xn1 (xne_k hk9999y hk9999z32 (by decide)) xn0)).trans ((hF86.2.1 _ (xn1 (xne_k hk9999y hk9999z32 (by decide)) (xn1 (xne_j hj9999z38 hj9999z55 (by first | decide | omega)) xn0))).trans ((hF77.2.1 _ (xn1 (xne_k hk9999y hk9999z32 (by decide)) (xn1 (xne_j hj9999z38 hj9999z55 (by first | decide | omega)) xn0))).trans (hF4.2.1 _ xn0)))))) ((hF121.2.1 _ (xn1 (xne_k hk9999z33 hk9999z32 (by decide)) xn0)).trans ((hF109.2.1 _ (xn1 (xne_k hk9999z33 hk9999z32 (by decide)) xn0)).trans (hF97.2.1 _ (xn1 (xne_k hk9999z33 hk9999z32 (by decide)) xn0)))) ((hF121.2.1 _ (xn1 (xne_k hk9999z25 hk9999z32 (by decide)) xn0)).trans ((hF109.2.1 _ (xn1 (xne_k hk9999z25 hk9999z32 (by decide)) xn0)).trans ((hF97.2.1 _ (xn1 (xne_k hk9999z25 hk9999z32 (by decide)) xn0)).trans ((hF86.2.1 _ (xn1 (xne_k hk9999z25 hk9999z32 (by decide)) (xn1 (xne_k hk9999z25 hk9999z33 (by decide)) xn0))).trans ((hF77.2.1 _ (xn1 (xne_k hk9999z25 hk9999z32 (by decide)) (xn1 (xne_k hk9999z25 hk9999z33 (by decide)) xn0))).trans (hF4.2.1 _ xn0)))))) ((hF121.2.1 _ (xn1 (xne_k hk9999z26 hk9999z32 (by decide)) xn0)).trans ((hF109.2.1 _ (xn1 (xne_k hk9999z26 hk9999z32 (by decide)) xn0)).trans ((hF97.2.1 _ (xn1 (xne_k hk9999z26 hk9999z32 (by decide)) xn0)).trans ((hF86.2.1 _ (xn1 (xne_k hk9999z26 hk9999z32 (by decide)) (xn1 (xne_k hk9999z26 hk9999z33 (by decide)) xn0))).trans ((hF77.2.1 _ (xn1 (xne_k hk9999z26 hk9999z32 (by decide)) (xn1 (xne_k hk9999z26 hk9999z33 (by decide)) xn0))).trans (hF4.2.1 _ xn0)))))) ((hF121.2.1 _ (xn1 (xne_k hk9999z27 hk9999z32 (by decide)) xn0)).trans ((hF109.2.1 _ (xn1 (xne_k hk9999z27 hk9999z32 (by decide)) xn0)).trans ((hF97.2.1 _ (xn1 (xne_k hk9999z27 hk9999z32 (by decide)) xn0)).trans ((hF86.2.1 _ (xn1 (xne_k hk9999z27 hk9999z32 (by decide)) (xn1 (xne_k hk9999z27 hk9999z33 (by decide)) xn0))).trans ((hF77.2.1 _ (xn1 (xne_k hk9999z27 hk9999z32 (by decide)) (xn1 (xne_k hk9999z27 hk9999z33 (by decide)) xn0))).trans (hF4.2.1 _ xn0)))))) ((hF121.2.1 _ (xn1 (xne_k hk9999z28 hk9999z32 (by decide)) xn0)).trans ((hF109.2.1 _ (xn1 (xne_k hk9999z28 hk9999z32 (by decide)) xn0)).trans ((hF97.2.1 _ (xn1 (xne_k hk9999z28 hk9999z32 (by decide)) xn0)).trans ((hF86.2.1 _ (xn1 (xne_k hk9999z28 hk9999z32 (by decide)) (xn1 (xne_k hk9999z28 hk9999z33 (by decide)) xn0))).trans ((hF77.2.1 _ (xn1 (xne_k hk9999z28 hk9999z32 (by decide)) (xn1 (xne_k hk9999z28 hk9999z33 (by decide)) xn0))).trans (hF4.2.1 _ xn0)))))) ((hF121.2.1 _ (xn1 (xne_k hk9999z29 hk9999z32 (by decide)) xn0)).trans ((hF109.2.1 _ (xn1 (xne_k hk9999z29 hk9999z32 (by decide)) xn0)).trans ((hF97.2.1 _ (xn1 (xne_k hk9999z29 hk9999z32 (by decide)) xn0)).trans ((hF86.2.1 _ (xn1 (xne_k hk9999z29 hk9999z32 (by decide)) (xn1 (xne_k hk9999z29 hk9999z33 (by decide)) xn0))).trans ((hF77.2.1 _ (xn1 (xne_k hk9999z29 hk9999z32 (by decide)) (xn1 (xne_k hk9999z29 hk9999z33 (by decide)) xn0))).trans (hF4.2.1 _ xn0)))))) ((hF121.2.1 _ (xn1 (xne_k hk9999z30 hk9999z32 (by decide)) xn0)).trans ((hF109.2.1 _ (xn1 (xne_k hk9999z30 hk9999z32 (by decide)) xn0)).trans ((hF97.2.1 _ (xn1 (xne_k hk9999z30 hk9999z32 (by decide)) xn0)).trans ((hF86.2.1 _ (xn1 (xne_k hk9999z30 hk9999z32 (by decide)) (xn1 (xne_k hk9999z30 hk9999z33 (by decide)) xn0))).trans ((hF77.2.1 _ (xn1 (xne_k hk9999z30 hk9999z32 (by decide)) (xn1 (xne_k hk9999z30 hk9999z33 (by decide)) xn0))).trans (hF4.2.1 _ xn0)))))) ((hF121.2.1 _ (xn1 (xne_k hk9999h hk9999z32 (by decide)) xn0)).trans ((hF109.2.1 _ (xn1 (xne_k hk9999h hk9999z32 (by decide)) xn0)).trans ((hF97.2.1 _ (xn1 (xne_k hk9999h hk9999z32 (by decide)) xn0)).trans ((hF86.2.1 _ (xn1 (xne_k hk9999h hk9999z32 (by decide)) (xn1 (xne_k hk9999h hk9999z33 (by decide)) xn0))).trans ((hF77.2.1 _ (xn1 (xne_k hk9999h hk9999z32 (by decide)) (xn1 (xne_k hk9999h hk9999z33 (by decide)) xn0))).trans (hF4.2.1 _ xn0)))))) ((hF121.2.1 _ (xn1 (xne_k hk9999i hk9999z32 (by decide)) xn0)).trans ((hF109.2.1 _ (xn1 (xne_k hk9999i hk9999z32 (by decide)) xn0)).trans ((hF97.2.1 _ (xn1 (xne_k hk9999i hk9999z32 (by decide)) xn0)).trans ((hF86.2.1 _ (xn1 (xne_k hk9999i hk9999z32 (by decide)) (xn1 (xne_k hk9999i hk9999z33 (by decide)) xn0))).trans ((hF77.2.1 _ (xn1 (xne_k hk9999i hk9999z32 (by decide)) (xn1 (xne_k hk9999i hk9999z33 (by decide)) xn0))).trans (hF4.2.1 _ xn0)))))) ((hF121.2.1 _ (xn1 (xne_k hk9999j hk9999z32 (by decide)) xn0)).trans ((hF109.2.1 _ (xn1 (xne_k hk9999j hk9999z32 (by decide)) xn0)).trans ((hF97.2.1 _ (xn1 (xne_k hk9999j hk9999z32 (by decide)) xn0)).trans ((hF86.2.1 _ (xn1 (xne_k hk9999j hk9999z32 (by decide)) (xn1 (xne_k hk9999j hk9999z33 (by decide)) xn0))).trans ((hF77.2.1 _ (xn1 (xne_k hk9999j hk9999z32 (by decide)) (xn1 (xne_k hk9999j hk9999z33 (by decide)) xn0))).trans (hF4.2.1 _ xn0)))))) ((hF121.2.1 _ (xn1 (xne_k hk9999k hk9999z32 (by decide)) xn0)).trans ((hF109.2.1 _ (xn1 (xne_k hk9999k hk9999z32 (by decide)) xn0)).trans ((hF97.2.1 _ (xn1 (xne_k hk9999k hk9999z32 (by decide)) xn0)).trans ((hF86.2.1 _ (xn1 (xne_k hk9999k hk9999z32 (by decide)) (xn1 (xne_k hk9999k hk9999z33 (by decide)) xn0))).trans ((hF77.2.1 _ (xn1 (xne_k hk9999k hk9999z32 (by decide)) (xn1 (xne_k hk9999k hk9999z33 (by decide)) xn0))).trans (hF4.2.1 _ xn0)))))) ((hF121.2.1 _ (xn1 (xne_k hk9999l hk9999z32 (by decide)) xn0)).trans ((hF109.2.1 _ (xn1 (xne_k hk9999l hk9999z32 (by decide)) xn0)).trans ((hF97.2.1 _ (xn1 (xne_k hk9999l hk9999z32 (by decide)) xn0)).trans ((hF86.2.1 _ (xn1 (xne_k hk9999l hk9999z32 (by decide)) (xn1 (xne_k hk9999l hk9999z33 (by decide)) xn0))).trans ((hF77.2.1 _ (xn1 (xne_k hk9999l hk9999z32 (by decide)) (xn1 (xne_k hk9999l hk9999z33 (by decide)) xn0))).trans (hF4.2.1 _ xn0)))))) ((hF121.2.1 _ (xn1 (xne_k hk9999m hk9999z32 (by decide)) xn0)).trans ((hF109.2.1 _ (xn1 (xne_k hk9999m hk9999z32 (by decide)) xn0)).trans ((hF97.2.1 _ (xn1 (xne_k hk9999m hk9999z32 (by decide)) xn0)).trans ((hF86.2.1 _ (xn1 (xne_k hk9999m hk9999z32 (by decide)) (xn1 (xne_k hk9999m hk9999z33 (by decide)) xn0))).trans ((hF77.2.1 _ (xn1 (xne_k hk9999m hk9999z32 (by decide)) (xn1 (xne_k hk9999m hk9999z33 (by decide)) xn0))).trans (hF4.2.1 _ xn0)))))) ((hF121.2.1 _ (xn1 (xne_k hk9999o hk9999z32 (by decide)) xn0)).trans ((hF109.2.1 _ (xn1 (xne_k hk9999o hk9999z32 (by decide)) xn0)).trans ((hF97.2.1 _ (xn1 (xne_k hk9999o hk9999z32 (by decide)) xn0)).trans ((hF86.2.1 _ (xn1 (xne_k hk9999o hk9999z32 (by decide)) (xn1 (xne_k hk9999o hk9999z33 (by decide)) xn0))).trans ((hF77.2.1 _ (xn1 (xne_k hk9999o hk9999z32 (by decide)) (xn1 (xne_k hk9999o hk9999z33 (by decide)) xn0))).trans (hF4.2.1 _ xn0)))))) ((hF121.2.1 _ (xn1 (xne_k hk9999n hk9999z32 (by decide)) xn0)).trans ((hF109.2.1 _ (xn1 (xne_k hk9999n hk9999z32 (by decide)) xn0)).trans ((hF97.2.1 _ (xn1 (xne_k hk9999n hk9999z32 (by decide)) xn0)).trans ((hF86.2.1 _ (xn1 (xne_k hk9999n hk9999z32 (by decide)) (xn1 (xne_k hk9999n hk9999z33 (by decide)) xn0))).trans ((hF77.2.1 _ (xn1 (xne_k hk9999n hk9999z32 (by decide)) (xn1 (xne_k hk9999n hk9999z33 (by decide)) xn0))).trans (hF4.2.1 _ xn0)))))) (hF97.2.1 _ (xn1 (xne_k hk9999z33 hk9999z32 (by decide)) xn0)) ((hF121.2.2 _ xn0).trans ((hF109.2.2 _ xn0).trans ((hF97.2.2 _ xn0).trans ((hF86.2.2 _ xn0).trans ((hF77.2.2 _ xn0).trans (hF4.2.2 _ xn0)))))) ((hF121.2.2 _ xn0).trans ((hF109.2.2 _ xn0).trans ((hF97.2.2 _ xn0).trans ((hF86.2.2 _ xn0).trans ((hF77.2.2 _ xn0).trans (hF4.2.2 _ xn0)))))) ((hF121.1 _ _ xn0).trans ((hF109.1 _ _ xn0).trans ((hF97.1 _ _ xn0).trans ((hF86.1 _ _ xn0).trans ((hF77.1 _ _ xn0).trans (hF4.1 _ _ (xnj (by decide) xn0))))))) ((hF121.1 _ _ xn0).trans ((hF109.1 _ _ xn0).trans ((hF97.1 _ _ xn0).trans ((hF86.1 _ _ xn0).trans ((hF77.1 _ _ xn0).trans (hF4.1 _ _ (xnj (by decide) xn0))))))) ((hF121.1 _ _ xn0).trans ((hF109.1 _ _ xn0).trans ((hF97.1 _ _ xn0).trans ((hF86.1 _ _ xn0).trans (hF77.1 _ _ xn0))))) ((hF121.1 _ _ xn0).trans ((hF109.1 _ _ xn0).trans ((hF97.1 _ _ xn0).trans ((hF86.1 _ _ xn0).trans ((hF77.1 _ _ xn0).trans (hF4.1 _ _ (xnj (by decide) xn0))))))) ((hF121.1 _ _ xn0).trans ((hF109.1 _ _ xn0).trans ((hF97.1 _ _ xn0).trans ((hF86.1 _ _ xn0).trans ((hF77.1 _ _ xn0).trans (hF4.1 _ _ (xnj (by decide) xn0))))))) ((hF121.1 _ _ xn0).trans ((hF109.1 _ _ xn0).trans ((hF97.1 _ _ xn0).trans ((hF86.1 _ _ xn0).trans ((hF77.1 _ _ xn0).trans (hF4.1 _ _ (xnj (by decide) xn0))))))) ((hF121.1 _ _ xn0).trans ((hF109.1 _ _ xn0).trans ((hF97.1 _ _ xn0).trans ((hF86.1 _ _ xn0).trans ((hF77.1 _ _ xn0).trans (hF4.1 _ _ (xnj (by decide) xn0))))))))) mv_X10_actAsOnPaper km_X10_207 rfl rfl ⟨Nat.le_of_ble_eq_true rfl, Nat.le_of_ble_eq_true rfl⟩ (rc_12 hK hT ha) hK (fun _ => XP.blind) (fun U hU hW => XP.at hK hz hS hT hU hW) rfl hl.1 (Nat.le_of_ble_eq_true rfl) dX10_put_125 ⟨Nat.le_of_ble_eq_true rfl, Nat.le_of_ble_eq_true rfl⟩) hS ?_
              rintro _ G125 H locs ⟨x125, rfl, hF125, t125, oq125, oq125a⟩ hT hS
              have t125 : 0 ≤ ((G125.1 (F a 8) 6).toInt) ∧ ((G125.1 (F a 8) 6).toInt) ≤ 1080 := t125
              have oq125 : ActR ((G.1 a 18).toInt) x125.toInt (gaL G121 (G121.2.2.1 (F (F a 2) 1)) (vw (G.2.1 (F (F a 3) 0))) (vw (G121.2.1 (F (F a 5) 0))) 0 (((G.1 (F a 2) 2).toInt)).toNat) (vw (G.2.1 (F (F a 3) 0))) (vw (G125.2.1 (F (F a 3) 0))) (vw (G121.2.1 (F (F a 5) 0))) (qL G121 F (F a 8)) (qL G125 F (F a 8)) (gaL G121 (G121.2.2.1 (F (F a 2) 1)) (vw (G.2.1 (F (F a 4) 0))) (vw (G121.2.1 (F (F a 5) 0))) 1 (((G.1 (F a 2) 2).toInt)).toNat) := by simp only [(show G121.1 a 18 = G.1 a 18 from ((hF121.1 _ _ xn0).trans ((hF109.1 _ _ xn0).trans ((hF97.1 _ _ xn0).trans ((hF86.1 _ _ xn0).trans ((hF77.1 _ _ xn0).trans (hF4.1 _ _ (xnj (by decide) xn0)))))))), (show G121.2.1 (F (F a 3) 0) = G.2.1 (F (F a 3) 0) from ((hF121.2.1 _ (xn1 (xne_j hj9999z36 hj9999z53 (by first | decide | omega)) xn0)).trans ((hF109.2.1 _ (xn1 (xne_j hj9999z36 hj9999z53 (by first | decide | omega)) xn0)).trans ((hF97.2.1 _ (xn1 (xne_j hj9999z36 hj9999z53 (by first | decide | omega)) xn0)).trans ((hF86.2.1 _ (xn1 (xne_j hj9999z36 hj9999z53 (by first | decide | omega)) (xn1 (xne_k hk9999w hk9999z33 (by decide)) xn0))).trans ((hF77.2.1 _ (xn1 (xne_j hj9999z36 hj9999z53 (by first | decide | omega)) (xn1 (xne_k hk9999w hk9999z33 (by decide)) xn0))).trans (hF4.2.1 _ xn0))))))), (show G121.1 (F a 2) 2 = G.1 (F a 2) 2 from ((hF121.1 _ _ xn0).trans ((hF109.1 _ _ xn0).trans ((hF97.1 _ _ xn0).trans ((hF86.1 _ _ xn0).trans ((hF77.1 _ _ xn0).trans (hF4.1 _ _ (xnj (by decide) xn0)))))))), (show G121.2.1 (F (F a 4) 0) = G.2.1 (F (F a 4) 0) from ((hF121.2.1 _ (xn1 (xne_j hj9999z61 hj9999z53 (by first | decide | omega)) xn0)).trans ((hF109.2.1 _ (xn1 (xne_j hj9999z61 hj9999z53 (by first | decide | omega)) xn0)).trans ((hF97.2.1 _ (xn1 (xne_j hj9999z61 hj9999z53 (by first | decide | omega)) xn0)).trans ((hF86.2.1 _ (xn1 (xne_j hj9999z61 hj9999z53 (by first | decide | omega)) (xn1 (xne_k hk9999z38 hk9999z33 (by decide)) xn0))).trans ((hF77.2.1 _ (xn1 (xne_j hj9999z61 hj9999z53 (by first | decide | omega)) (xn1 (xne_k hk9999z38 hk9999z33 (by decide)) xn0))).trans (hF4.2.1 _ xn0)))))))] at oq125; exact oq125
              exact x_ri hx hb hr hlk hQ (Nat.le_of_ble_eq_true rfl) (Nat.le_of_ble_eq_true rfl) hS dX10_put_128 G125 ⟨_, rfl, (XFr.call (XFr.call (XFr.call (XFr.call (XFr.call (XFr.call (XFr.call XFr.rf hF4 (xm1 2 rfl xm0) xm0 xm0) hF77 xm0 (xm1 25 rfl (xm1 26 rfl xm0)) xm0) hF86 xm0 (xm1 25 rfl (xm1 26 rfl xm0)) xm0) hF97 xm0 (xm1 25 rfl xm0) xm0) hF109 xm0 (xm1 25 rfl xm0) xm0) hF121 xm0 (xm1 25 rfl xm0) xm0) hF125 (xm1 0 rfl (xm1 1 rfl (xm1 2 rfl (xm1 3 rfl (xm1 4 rfl (xm1 5 rfl (xm1 6 rfl xm0))))))) (xm1 0 rfl (xm1 1 rfl (xm1 2 rfl (xm1 3 rfl (xm1 4 rfl (xm1 5 rfl (xm1 6 rfl (xm1 7 rfl (xm1 8 rfl (xm1 9 rfl (xm1 10 rfl (xm1 11 rfl (xm1 12 rfl (xm1 13 rfl (xm1 14 rfl (xm1 15 rfl (xm1 16 rfl (xm1 17 rfl (xm1 18 rfl (xm1 19 rfl (xm1 20 rfl (xm1 21 rfl (xm1 22 rfl (xm1 23 rfl (xm1 24 rfl xm0))))))))))))))))))))))))) xm0), (t125), (v_X10_put_128_20 (K := K) (F := F) a G G125 G4 G77 G86 G97 G109 G121 p0 p1 p2 p3 p4 x125 x8 x15 x22 x30 x38 x56 ha hk9999 hj9999 hk9999a hj9999a hk9999b hj9999b hk9999c hj9999c hk9999d hj9999d hk9999e hj9999e hk9999f hj9999f hk9999g hj9999g hk9999h hj9999i hk9999i hj9999k hk9999j hj9999m hk9999k hj9999o hk9999l hj9999q hk9999m hj9999s hk9999n hj9999t hk9999o hj9999u hk9999p hj9999w hk9999q hj9999z25 hk9999r hj9999z27 hk9999s hj9999z29 hk9999t hj9999z31 hk9999u hj9999z33 hk9999v hj9999z34 hk9999w hj9999z36 hk9999y hj9999z38 hk9999z25 hj9999z40 hk9999z26 hj9999z42 hk9999z27 hj9999z44 hk9999z28 hj9999z46 hk9999z29 hj9999z48 hk9999z30 hj9999z50 hk9999z31 hj9999z51 hk9999z32 hj9999z53 hk9999z33 hj9999z55 hk9999z34 hj9999z56 hk9999z35 hj9999z57 hk9999z36 hj9999z58 hk9999z37 hj9999z59 hk9999z38 hj9999z61 hk9999z39 hj9999z63 (XFr.call (XFr.call (XFr.call (XFr.call (XFr.call (XFr.call (XFr.call XFr.rf hF4 (xm1 2 rfl xm0) xm0 xm0) hF77 xm0 (xm1 25 rfl (xm1 26 rfl xm0)) xm0) hF86 xm0 (xm1 25 rfl (xm1 26 rfl xm0)) xm0) hF97 xm0 (xm1 25 rfl xm0) xm0) hF109 xm0 (xm1 25 rfl xm0) xm0) hF121 xm0 (xm1 25 rfl xm0) xm0) hF125 (xm1 0 rfl (xm1 1 rfl (xm1 2 rfl (xm1 3 rfl (xm1 4 rfl (xm1 5 rfl (xm1 6 rfl xm0))))))) (xm1 0 rfl (xm1 1 rfl (xm1 2 rfl (xm1 3 rfl (xm1 4 rfl (xm1 5 rfl (xm1 6 rfl (xm1 7 rfl (xm1 8 rfl (xm1 9 rfl (xm1 10 rfl (xm1 11 rfl (xm1 12 rfl (xm1 13 rfl (xm1 14 rfl (xm1 15 rfl (xm1 16 rfl (xm1 17 rfl (xm1 18 rfl (xm1 19 rfl (xm1 20 rfl (xm1 21 rfl (xm1 22 rfl (xm1 23 rfl (xm1 24 rfl xm0))))))))))))))))))))))))) xm0) hF125 bko oq77 oq86 oq97 oq109 oq121 oq125 sb sw t4 t8 c11 t15 c18 t22 c25 t30 c33 t38 c41 t56 c59 t125 ((hF121.2.1 _ (xn1 (xne_k hk9999z25 hk9999z32 (by decide)) xn0)).trans ((hF109.2.1 _ (xn1 (xne_k hk9999z25 hk9999z32 (by decide)) xn0)).trans ((hF97.2.1 _ (xn1 (xne_k hk9999z25 hk9999z32 (by decide)) xn0)).trans ((hF86.2.1 _ (xn1 (xne_k hk9999z25 hk9999z32 (by decide)) (xn1 (xne_k hk9999z25 hk9999z33 (by decide)) xn0))).trans ((hF77.2.1 _ (xn1 (xne_k hk9999z25 hk9999z32 (by decide)) (xn1 (xne_k hk9999z25 hk9999z33 (by decide)) xn0))).trans (hF4.2.1 _ xn0)))))) ((hF121.2.1 _ (xn1 (xne_k hk9999z26 hk9999z32 (by decide)) xn0)).trans ((hF109.2.1 _ (xn1 (xne_k hk9999z26 hk9999z32 (by decide)) xn0)).trans ((hF97.2.1 _ (xn1 (xne_k hk9999z26 hk9999z32 (by decide)) xn0)).trans ((hF86.2.1 _ (xn1 (xne_k hk9999z26 hk9999z32 (by decide)) (xn1 (xne_k hk9999z26 hk9999z33 (by decide)) xn0))).trans ((hF77.2.1 _ (xn1 (xne_k hk9999z26 hk9999z32 (by decide)) (xn1 (xne_k hk9999z26 hk9999z33 (by decide)) xn0))).trans (hF4.2.1 _ xn0)))))) ((hF121.2.1 _ (xn1 (xne_k hk9999z27 hk9999z32 (by decide)) xn0)).trans ((hF109.2.1 _ (xn1 (xne_k hk9999z27 hk9999z32 (by decide)) xn0)).trans ((hF97.2.1 _ (xn1 (xne_k hk9999z27 hk9999z32 (by decide)) xn0)).trans ((hF86.2.1 _ (xn1 (xne_k hk9999z27 hk9999z32 (by decide)) (xn1 (xne_k hk9999z27 hk9999z33 (by decide)) xn0))).trans ((hF77.2.1 _ (xn1 (xne_k hk9999z27 hk9999z32 (by decide)) (xn1 (xne_k hk9999z27 hk9999z33 (by decide)) xn0))).trans (hF4.2.1 _ xn0)))))) ((hF121.2.1 _ (xn1 (xne_k hk9999z28 hk9999z32 (by decide)) xn0)).trans ((hF109.2.1 _ (xn1 (xne_k hk9999z28 hk9999z32 (by decide)) xn0)).trans ((hF97.2.1 _ (xn1 (xne_k hk9999z28 hk9999z32 (by decide)) xn0)).trans ((hF86.2.1 _ (xn1 (xne_k hk9999z28 hk9999z32 (by decide)) (xn1 (xne_k hk9999z28 hk9999z33 (by decide)) xn0))).trans ((hF77.2.1 _ (xn1 (xne_k hk9999z28 hk9999z32 (by decide)) (xn1 (xne_k hk9999z28 hk9999z33 (by decide)) xn0))).trans (hF4.2.1 _ xn0)))))) ((hF121.2.1 _ (xn1 (xne_k hk9999z29 hk9999z32 (by decide)) xn0)).trans ((hF109.2.1 _ (xn1 (xne_k hk9999z29 hk9999z32 (by decide)) xn0)).trans ((hF97.2.1 _ (xn1 (xne_k hk9999z29 hk9999z32 (by decide)) xn0)).trans ((hF86.2.1 _ (xn1 (xne_k hk9999z29 hk9999z32 (by decide)) (xn1 (xne_k hk9999z29 hk9999z33 (by decide)) xn0))).trans ((hF77.2.1 _ (xn1 (xne_k hk9999z29 hk9999z32 (by decide)) (xn1 (xne_k hk9999z29 hk9999z33 (by decide)) xn0))).trans (hF4.2.1 _ xn0)))))) ((hF121.2.1 _ (xn1 (xne_k hk9999z30 hk9999z32 (by decide)) xn0)).trans ((hF109.2.1 _ (xn1 (xne_k hk9999z30 hk9999z32 (by decide)) xn0)).trans ((hF97.2.1 _ (xn1 (xne_k hk9999z30 hk9999z32 (by decide)) xn0)).trans ((hF86.2.1 _ (xn1 (xne_k hk9999z30 hk9999z32 (by decide)) (xn1 (xne_k hk9999z30 hk9999z33 (by decide)) xn0))).trans ((hF77.2.1 _ (xn1 (xne_k hk9999z30 hk9999z32 (by decide)) (xn1 (xne_k hk9999z30 hk9999z33 (by decide)) xn0))).trans (hF4.2.1 _ xn0)))))) ((hF121.2.2 _ xn0).trans ((hF109.2.2 _ xn0).trans ((hF97.2.2 _ xn0).trans ((hF86.2.2 _ xn0).trans ((hF77.2.2 _ xn0).trans (hF4.2.2 _ xn0)))))) ((hF121.1 _ _ xn0).trans ((hF109.1 _ _ xn0).trans ((hF97.1 _ _ xn0).trans ((hF86.1 _ _ xn0).trans ((hF77.1 _ _ xn0).trans (hF4.1 _ _ (xnj (by decide) xn0)))))))), (v_X10_put_128_21 (F := F) a G125 oq125a)⟩ hT
            · refine lv_aload_n hx hb dX10_put_62 rfl (lv_at hl 0 rfl) ?_
              refine lv_bipush (v := (-4)) hx hb dX10_put_63 (by decide) ?_
              refine x_cl0 (x_runV (b := a) (As := [.int (-4)]) (rest := []) S (c_X10_refuseAct l E K F G4 a (-4) ha) mv_X10_refuseAct km_X10_188 rfl rfl ⟨Nat.le_of_ble_eq_true rfl, Nat.le_of_ble_eq_true rfl⟩ (rc_12 hK hT ha) hK (fun _ => XP.blind) (fun U hU hW => XP.at hK hz hS hT hU hW) rfl hl.1 (Nat.le_of_ble_eq_true rfl) dX10_put_65 ⟨Nat.le_of_ble_eq_true rfl, Nat.le_of_ble_eq_true rfl⟩) hS ?_
              rintro _ G65 H locs ⟨x65, rfl, hF65, t65⟩ hT hS
              have t65 : x65.toInt = (-4 : Int) := by rw [((by decide) : Int32.toInt (-4) = (-4 : Int))] at t65; exact t65
              exact x_ri hx hb hr hlk hQ (Nat.le_of_ble_eq_true rfl) (Nat.le_of_ble_eq_true rfl) hS dX10_put_68 G65 ⟨_, rfl, (XFr.call (XFr.call XFr.rf hF4 (xm1 2 rfl xm0) xm0 xm0) hF65 xm0 (xm1 10 rfl xm0) xm0), (by rw [(show (G65.1 (F a 8) 6).toInt = ((G.1 (F a 8) 6).toInt) from (congrArg Int32.toInt ((hF65.1 _ _ xn0).trans (hF4.1 _ _ (xnj (by decide) xn0)))).trans (rfl : Int32.toInt (G.1 (F a 8) 6) = ((G.1 (F a 8) 6).toInt)))] <;> exact (sw)), (by rw [(t65 : Int32.toInt x65 = (-4 : Int))] <;> exact (v_X10_put_68_22 (K := K) (F := F) a G G65 G4 x8 p0 x15 p1 x22 p2 x30 p3 x38 p4 x56 ha hk9999 hj9999 hk9999a hj9999a hk9999b hj9999b hk9999c hj9999c hk9999d hj9999d hk9999e hj9999e hk9999f hj9999f hk9999g hj9999g hk9999h hj9999i hk9999i hj9999k hk9999j hj9999m hk9999k hj9999o hk9999l hj9999q hk9999m hj9999s hk9999n hj9999t hk9999o hj9999u hk9999p hj9999w hk9999q hj9999z25 hk9999r hj9999z27 hk9999s hj9999z29 hk9999t hj9999z31 hk9999u hj9999z33 hk9999v hj9999z34 hk9999w hj9999z36 hk9999y hj9999z38 hk9999z25 hj9999z40 hk9999z26 hj9999z42 hk9999z27 hj9999z44 hk9999z28 hj9999z46 hk9999z29 hj9999z48 hk9999z30 hj9999z50 hk9999z31 hj9999z51 hk9999z32 hj9999z53 hk9999z33 hj9999z55 hk9999z34 hj9999z56 hk9999z35 hj9999z57 hk9999z36 hj9999z58 hk9999z37 hj9999z59 hk9999z38 hj9999z61 hk9999z39 hj9999z63 sb sw t4 t8 c11 t15 c18 t22 c25 t30 c33 t38 c41 t56 c59 ((hF65.2.1 _ (xn1 (xne_k hk9999w hk9999o (by decide)) xn0)).trans (hF4.2.1 _ xn0)) ((hF65.2.1 _ (xn1 (xne_k hk9999z25 hk9999o (by decide)) xn0)).trans (hF4.2.1 _ xn0)) ((hF65.2.1 _ (xn1 (xne_k hk9999z26 hk9999o (by decide)) xn0)).trans (hF4.2.1 _ xn0)) ((hF65.2.1 _ (xn1 (xne_k hk9999z27 hk9999o (by decide)) xn0)).trans (hF4.2.1 _ xn0)) ((hF65.2.1 _ (xn1 (xne_k hk9999z28 hk9999o (by decide)) xn0)).trans (hF4.2.1 _ xn0)) ((hF65.2.1 _ (xn1 (xne_k hk9999z29 hk9999o (by decide)) xn0)).trans (hF4.2.1 _ xn0)) ((hF65.2.1 _ (xn1 (xne_k hk9999z30 hk9999o (by decide)) xn0)).trans (hF4.2.1 _ xn0)) ((hF65.1 _ _ xn0).trans (hF4.1 _ _ (xnj (by decide) xn0))))), (v_X10_put_68_23 (F := F) a G G65 ron ((hF65.2.1 _ (xn1 (xne_k hk9999w hk9999o (by decide)) xn0)).trans (hF4.2.1 _ xn0)) ((hF65.2.1 _ (xn1 (xne_k hk9999y hk9999o (by decide)) xn0)).trans (hF4.2.1 _ xn0)))⟩ hT
          · refine lv_aload_n hx hb dX10_put_44 rfl (lv_at hl 0 rfl) ?_
            refine lv_iconst (v := (-1)) hx hb dX10_put_45 (by decide) ?_
            refine x_cl0 (x_runV (b := a) (As := [.int (-1)]) (rest := []) S (c_X10_refuseAct l E K F G4 a (-1) ha) mv_X10_refuseAct km_X10_188 rfl rfl ⟨Nat.le_of_ble_eq_true rfl, Nat.le_of_ble_eq_true rfl⟩ (rc_12 hK hT ha) hK (fun _ => XP.blind) (fun U hU hW => XP.at hK hz hS hT hU hW) rfl hl.1 (Nat.le_of_ble_eq_true rfl) dX10_put_46 ⟨Nat.le_of_ble_eq_true rfl, Nat.le_of_ble_eq_true rfl⟩) hS ?_
            rintro _ G46 H locs ⟨x46, rfl, hF46, t46⟩ hT hS
            have t46 : x46.toInt = (-1 : Int) := by rw [((by decide) : Int32.toInt (-1) = (-1 : Int))] at t46; exact t46
            exact x_ri hx hb hr hlk hQ (Nat.le_of_ble_eq_true rfl) (Nat.le_of_ble_eq_true rfl) hS dX10_put_49 G46 ⟨_, rfl, (XFr.call (XFr.call XFr.rf hF4 (xm1 2 rfl xm0) xm0 xm0) hF46 xm0 (xm1 10 rfl xm0) xm0), (by rw [(show (G46.1 (F a 8) 6).toInt = ((G.1 (F a 8) 6).toInt) from (congrArg Int32.toInt ((hF46.1 _ _ xn0).trans (hF4.1 _ _ (xnj (by decide) xn0)))).trans (rfl : Int32.toInt (G.1 (F a 8) 6) = ((G.1 (F a 8) 6).toInt)))] <;> exact (sw)), (by rw [(t46 : Int32.toInt x46 = (-1 : Int))] <;> exact (v_X10_put_49_24 (K := K) (F := F) a G G46 G4 x8 p0 x15 p1 x22 p2 x30 p3 x38 p4 ha hk9999 hj9999 hk9999a hj9999a hk9999b hj9999b hk9999c hj9999c hk9999d hj9999d hk9999e hj9999e hk9999f hj9999f hk9999g hj9999g hk9999h hj9999i hk9999i hj9999k hk9999j hj9999m hk9999k hj9999o hk9999l hj9999q hk9999m hj9999s hk9999n hj9999t hk9999o hj9999u hk9999p hj9999w hk9999q hj9999z25 hk9999r hj9999z27 hk9999s hj9999z29 hk9999t hj9999z31 hk9999u hj9999z33 hk9999v hj9999z34 hk9999w hj9999z36 hk9999y hj9999z38 hk9999z25 hj9999z40 hk9999z26 hj9999z42 hk9999z27 hj9999z44 hk9999z28 hj9999z46 hk9999z29 hj9999z48 hk9999z30 hj9999z50 hk9999z31 hj9999z51 hk9999z32 hj9999z53 hk9999z33 hj9999z55 hk9999z34 hj9999z56 hk9999z35 hj9999z57 hk9999z36 hj9999z58 hk9999z37 hj9999z59 hk9999z38 hj9999z61 hk9999z39 hj9999z63 sb sw t4 t8 c11 t15 c18 t22 c25 t30 c33 t38 c41 ((hF46.2.1 _ (xn1 (xne_k hk9999w hk9999o (by decide)) xn0)).trans (hF4.2.1 _ xn0)) ((hF46.2.1 _ (xn1 (xne_k hk9999z25 hk9999o (by decide)) xn0)).trans (hF4.2.1 _ xn0)) ((hF46.2.1 _ (xn1 (xne_k hk9999z26 hk9999o (by decide)) xn0)).trans (hF4.2.1 _ xn0)) ((hF46.2.1 _ (xn1 (xne_k hk9999z27 hk9999o (by decide)) xn0)).trans (hF4.2.1 _ xn0)) ((hF46.2.1 _ (xn1 (xne_k hk9999z28 hk9999o (by decide)) xn0)).trans (hF4.2.1 _ xn0)) ((hF46.2.1 _ (xn1 (xne_k hk9999z29 hk9999o (by decide)) xn0)).trans (hF4.2.1 _ xn0)) ((hF46.2.1 _ (xn1 (xne_k hk9999z30 hk9999o (by decide)) xn0)).trans (hF4.2.1 _ xn0)) ((hF46.1 _ _ xn0).trans (hF4.1 _ _ (xnj (by decide) xn0))))), (v_X10_put_49_25 (F := F) a G G46 ron ((hF46.2.1 _ (xn1 (xne_k hk9999w hk9999o (by decide)) xn0)).trans (hF4.2.1 _ xn0)) ((hF46.2.1 _ (xn1 (xne_k hk9999y hk9999o (by decide)) xn0)).trans (hF4.2.1 _ xn0)))⟩ hT

theorem z_X10_abort_1 (a0 : Int) (a1 : Int) (a2 : Int) (a3 : Int) (a4 : Int) (a5 : Int) (h0 : a2 ≠ 0) (h1 : a5 = 0 ∧ a4 = 0 ∧ a3 = 0) : (a2 = 0 ∧ a0 = -3 ∧ a5 = a2 ∧ a4 = a1 ∧ a3 = a0) ∨ (a2 ≠ 0 ∧ a0 = a0 ∧ a5 = 0 ∧ a4 = 0 ∧ a3 = 0) := by omega
theorem z_X10_abort_2 (a0 : Int) (a1 : Int) (a2 : Int) (h0 : ¬ (a2 ≠ 0)) : (a2 = 0 ∧ (-3 : Int) = -3 ∧ a2 = a2 ∧ a1 = a1 ∧ a0 = a0) ∨ (a2 ≠ 0 ∧ (-3 : Int) = a0 ∧ a2 = 0 ∧ a1 = 0 ∧ a0 = 0) := by omega
abbrev rm_X10_abort : Room := { frames := 2, cells := 0, slots := 0, locals := 81 }
set_option maxHeartbeats 4000000 in
set_option maxRecDepth 100000 in
theorem c_X10_abort (l : Launch) (E : XE) (K : Nat → Nat) (F : Nat → Nat → Nat) (G : XG) (a : Nat) (ha : K a = 12) (ron : RO (vw (G.2.1 (F (F a 3) 0))) (aI (G.2.1 (F (F a 3) 1)))) (rob : RO (vw (G.2.1 (F (F a 4) 0))) (aI (G.2.1 (F (F a 4) 1)))) : Met l yX10_abort (xw yX10_abort cX10_abort 2 (some .int)) rm_X10_abort (va_Pc [.ref a] (XP E K F G)) (XQ E (fun v (u : XG) => ∃ r : Int32, v = .int r ∧ XFr [(a, 18), (a, 17), (F a 8, 6)] [F a 16, F (F a 3) 0, F (F a 3) 1] [] G u ∧ ((((G.1 a 18).toInt) = 0 ∧ r.toInt = -3 ∧ ((u.1 a 18).toInt) = ((G.1 a 18).toInt) ∧ ((u.1 a 17).toInt) = ((G.1 a 17).toInt) ∧ ((u.1 (F a 8) 6).toInt) = ((G.1 (F a 8) 6).toInt)) ∨ (((G.1 a 18).toInt) ≠ 0 ∧ r.toInt = ((G.1 (F a 8) 6).toInt) ∧ ((u.1 a 18).toInt) = 0 ∧ ((u.1 a 17).toInt) = 0 ∧ ((u.1 (F a 8) 6).toInt) = 0)) ∧ ((((G.1 a 18).toInt) = 0 → (vw (u.2.1 (F (F a 3) 0))) = (vw (G.2.1 (F (F a 3) 0)))) ∧ (((G.1 a 18).toInt) ≠ 0 → (vw (u.2.1 (F (F a 3) 0))) = (vw (G.2.1 (F (F a 4) 0))))) ∧ (RO (vw (u.2.1 (F (F a 3) 0))) (aI (u.2.1 (F (F a 3) 1))))) (fun u H => TW E K F u H)) 0 0 (xA E) := by
  refine x_enter (by decide) (Nat.le_of_ble_eq_true rfl) ?_
  intro p e s m args below meth c Q S hr hlk hnm hQ hP ls hl
  obtain ⟨hz, hK, hT⟩ := hP
  obtain ⟨hx, hb, -, -, -⟩ := id S
  obtain ⟨H, hT, hS, hgo⟩ : ∃ H : Heap, TW E K F G H ∧ va_S (xA E) s.heap H [] ∧ H = s.heap := ⟨_, hT, va_S.rf, rfl⟩
  rw [← hgo]
  have hl : lv_has ls 2 [(0, .ref a)] := hl
  obtain ⟨hk9999, hj9999⟩ := fkX10_8 hT ha
  obtain ⟨hk9999a, hj9999a⟩ := fkX10_16 hT ha
  obtain ⟨hk9999b, hj9999b⟩ := fkX10_3 hT ha
  obtain ⟨hk9999c, hj9999c⟩ := fkX6_0 hT hk9999b
  have hj9999d : F (F (F a 3) 0) 99 = 0 := by rw [hj9999c, hj9999b]
  obtain ⟨hk9999d, hj9999e⟩ := fkX6_1 hT hk9999b
  have hj9999f : F (F (F a 3) 1) 99 = 0 := by rw [hj9999e, hj9999b]
  obtain ⟨hk9999e, hj9999g⟩ := fkX10_4 hT ha
  obtain ⟨hk9999f, hj9999h⟩ := fkX6_0 hT hk9999e
  have hj9999i : F (F (F a 4) 0) 99 = 1 := by rw [hj9999h, hj9999g]
  obtain ⟨hk9999g, hj9999j⟩ := fkX6_1 hT hk9999e
  have hj9999k : F (F (F a 4) 1) 99 = 1 := by rw [hj9999j, hj9999g]
  refine lv_aload_n hx hb dX10_abort_0 rfl (lv_at hl 0 rfl) ?_
  refine gX10_18 S hK hT ha kf_X10_123 dX10_abort_1 (v := (G.1 a 18)) rfl (fun hz1 => ?_)
  refine xi_zne (tgt := 10) hx hb (rfl : Int32.toInt (G.1 a 18) = ((G.1 a 18).toInt)) dX10_abort_4 (by decide) (fun c4 => ?_) (fun c4 => ?_)
  · refine lv_aload_n hx hb dX10_abort_10 rfl (lv_at hl 0 rfl) ?_
    refine gX10_8 S hK hT ha kf_X10_57 dX10_abort_11 (fun _ _ => ?_)
    refine x_clp (x_runV (b := (F a 8)) (As := []) (rest := []) S (c_X4_size l E K F G H (F a 8) hk9999) mv_X4_size km_X10_232 rfl rfl ⟨Nat.le_of_ble_eq_true rfl, Nat.le_of_ble_eq_true rfl⟩ (rc_6 hK hT hk9999) hK (fun _ => XPh.blind) (fun U hU hW => XPh.at hK hz hS hT hU hW) rfl hl.1 (Nat.le_of_ble_eq_true rfl) dX10_abort_14 ⟨Nat.le_of_ble_eq_true rfl, Nat.le_of_ble_eq_true rfl⟩) hS ?_
    rintro _ _ locs ⟨x14, rfl, t14⟩ hS
    have t14 : x14.toInt = ((G.1 (F a 8) 6).toInt) := t14
    refine lv_istore_n (lv' := [(1, .int x14), (0, .ref a)]) hx hb dX10_abort_17 rfl hl (by decide) rfl (fun ls hl => ?_)
    refine lv_aload_n hx hb dX10_abort_18 rfl (lv_at hl 1 rfl) ?_
    refine gX10_3 S hK hT ha kf_X10_37 dX10_abort_19 (fun _ _ => ?_)
    refine lv_aload_n hx hb dX10_abort_22 rfl (lv_at hl 1 rfl) ?_
    refine gX10_4 S hK hT ha kf_X10_41 dX10_abort_23 (fun _ _ => ?_)
    refine x_cv0 (x_runV (b := (F a 3)) (As := [.ref (F a 4)]) (rest := []) S (c_X6_copy l E K F G (F a 3) (F a 4) hk9999b hk9999e (v_X10_abort_26_1 (F := F) a G rob)) mv_X6_copy km_X10_195 rfl rfl ⟨Nat.le_of_ble_eq_true rfl, Nat.le_of_ble_eq_true rfl⟩ (rc_8 hK hT hk9999b) hK (fun _ => XP.blind) (fun U hU hW => XP.at hK hz hS hT hU hW) rfl hl.1 (Nat.le_of_ble_eq_true rfl) dX10_abort_26 ⟨Nat.le_of_ble_eq_true rfl, Nat.le_of_ble_eq_true rfl⟩) hS ?_
    rintro G26 H locs ⟨hF26, oq26, oq26a⟩ hT hS
    refine lv_aload_n hx hb dX10_abort_29 rfl (lv_at hl 1 rfl) ?_
    refine x_cv0 (x_runV (b := a) (As := []) (rest := []) S (c_X10_close l E K F G26 a ha) mv_X10_close km_X10_229 rfl rfl ⟨Nat.le_of_ble_eq_true rfl, Nat.le_of_ble_eq_true rfl⟩ (rc_12 hK hT ha) hK (fun _ => XP.blind) (fun U hU hW => XP.at hK hz hS hT hU hW) rfl hl.1 (Nat.le_of_ble_eq_true rfl) dX10_abort_30 ⟨Nat.le_of_ble_eq_true rfl, Nat.le_of_ble_eq_true rfl⟩) hS ?_
    rintro G30 H locs ⟨hF30, t30⟩ hT hS
    have t30 : ((G30.1 a 18).toInt) = 0 ∧ ((G30.1 a 17).toInt) = 0 ∧ ((G30.1 (F a 8) 6).toInt) = 0 := t30
    refine lv_aload_n hx hb dX10_abort_33 rfl (lv_at hl 1 rfl) ?_
    refine gX10_16 S hK hT ha kf_X10_99 dX10_abort_34 (fun _ _ => ?_)
    refine lv_iconst (v := 3) hx hb dX10_abort_37 (by decide) ?_
    refine lv_dup2_11 hx hb dX10_abort_38 rfl rfl ?_
    refine al_0 S hK hT hk9999a ar_27 (by decide) (by decide) dX10_abort_39 (fun x39 hv39 o39 => ?_)
    have hv39 : x39.toInt = (aI (G.2.1 (F a 16)) 3) := hv39.trans (by rw [((by decide) : Int32.toInt 3 = (3 : Int)), (((hF30.2.1 _ xn0).trans (hF26.2.1 _ (xn1 (xne_k hk9999a hk9999c (by decide)) (xn1 (xne_k hk9999a hk9999d (by decide)) xn0)))) : G30.2.1 (F a 16) = G.2.1 (F a 16))])
    refine lv_iconst (v := 1) hx hb dX10_abort_40 (by decide) ?_
    refine xi_iadd hx hb (hv39 : Int32.toInt x39 = (aI (G.2.1 (F a 16)) 3)) ((by decide) : Int32.toInt 1 = (1 : Int)) dX10_abort_41 (fun x41 t41 => ?_)
    refine as_0 (x := x41) S hK hT hS hk9999a ar_27 aw_27 (by decide) (by decide) dX10_abort_42 (fun H locs hT hS => ?_)
    obtain ⟨G42, hG42⟩ : ∃ GG : XG, GG = cput G30 (F a 16) (3 : Int32).toNatClampNeg x41 := ⟨_, rfl⟩
    rw [← hG42] at hT
    refine lv_iload_n hx hb dX10_abort_43 rfl (lv_at hl 0 rfl) ?_
    exact x_ri hx hb hr hlk hQ (Nat.le_of_ble_eq_true rfl) (Nat.le_of_ble_eq_true rfl) hS dX10_abort_44 G42 ⟨_, rfl, (by rw [hG42]; exact XFr.cput (XFr.call (XFr.call XFr.rf hF26 xm0 (xm1 1 rfl (xm1 2 rfl xm0)) xm0) hF30 (xm1 0 rfl (xm1 1 rfl (xm1 2 rfl xm0))) xm0 xm0) (List.mem_of_getElem? (i := 0) rfl)), (by rw [(t14 : Int32.toInt x14 = ((G.1 (F a 8) 6).toInt)), (show (G42.1 a 18).toInt = ((G30.1 a 18).toInt) from (congrArg Int32.toInt (lc_d hG42)).trans (rfl : Int32.toInt (G30.1 a 18) = ((G30.1 a 18).toInt))), (show (G42.1 a 17).toInt = ((G30.1 a 17).toInt) from (congrArg Int32.toInt (lc_d hG42)).trans (rfl : Int32.toInt (G30.1 a 17) = ((G30.1 a 17).toInt))), (show (G42.1 (F a 8) 6).toInt = ((G30.1 (F a 8) 6).toInt) from (congrArg Int32.toInt (lc_d hG42)).trans (rfl : Int32.toInt (G30.1 (F a 8) 6) = ((G30.1 (F a 8) 6).toInt)))] <;> exact (z_X10_abort_1 ((G.1 (F a 8) 6).toInt) ((G.1 a 17).toInt) ((G.1 a 18).toInt) ((G30.1 (F a 8) 6).toInt) ((G30.1 a 17).toInt) ((G30.1 a 18).toInt) c4 t30)), (v_X10_abort_44_2 (K := K) (F := F) a G G26 G30 G42 ha oq26 (xzi hz1) c4 t30 ((lc_c hG42 (xne_k hk9999c hk9999a (by decide))).trans (hF30.2.1 _ xn0))), (v_X10_abort_44_3 (F := F) a G26 G42 oq26a ((lc_c hG42 (xne_k hk9999c hk9999a (by decide))).trans (hF30.2.1 _ xn0)) ((lc_c hG42 (xne_k hk9999d hk9999a (by decide))).trans (hF30.2.1 _ xn0)))⟩ hT
  · refine lv_bipush (v := (-3)) hx hb dX10_abort_7 (by decide) ?_
    exact x_ri hx hb hr hlk hQ (Nat.le_of_ble_eq_true rfl) (Nat.le_of_ble_eq_true rfl) hS dX10_abort_9 G ⟨_, rfl, XFr.rf, (by rw [((by decide) : Int32.toInt (-3) = (-3 : Int))] <;> exact (z_X10_abort_2 ((G.1 (F a 8) 6).toInt) ((G.1 a 17).toInt) ((G.1 a 18).toInt) c4)), (v_X10_abort_9_4 (K := K) (F := F) a G ha (xzi hz1) c4), (v_X10_abort_9_5 (F := F) a G ron)⟩ hT
theorem v_X10_drop_20_1 {F : Nat → Nat → Nat} (a : Nat) (G : XG) (G4 : XG) (p0 : Int32)
    (hn12 : (p0.toInt < 0 ∨ 12 ≤ p0.toInt) ∨ G4.2.2.1 (F (F a 2) 0) (p0.toInt).toNat = none)
    (r_G4_F_F_a_2_0 : G4.2.2.1 (F (F a 2) 0) = G.2.2.1 (F (F a 2) 0))
    (r_G4_F_F_a_2_1 : G4.2.2.1 (F (F a 2) 1) = G.2.2.1 (F (F a 2) 1))
    (d_G4_F_a_2_2 : G4.1 (F a 2) 2 = G.1 (F a 2) 2) :
    ((-2 : Int) = -2 ∧ ((p0.toInt < 0 ∨ 12 ≤ p0.toInt) ∨ G.2.2.1 (F (F a 2) 0) (p0.toInt).toNat = none) ∧ G4.2.2.1 (F (F a 2) 0) = G.2.2.1 (F (F a 2) 0) ∧ G4.2.2.1 (F (F a 2) 1) = G.2.2.1 (F (F a 2) 1) ∧ ((G4.1 (F a 2) 2).toInt) = ((G.1 (F a 2) 2).toInt)) ∨ ((0 ≤ p0.toInt ∧ p0.toInt < 12) ∧ (∃ q : Nat, G.2.2.1 (F (F a 2) 0) (p0.toInt).toNat = some q) ∧ ((((G.1 a 18).toInt) ≠ 0 ∧ (-2 : Int) = -3 ∧ G4.2.2.1 (F (F a 2) 0) = G.2.2.1 (F (F a 2) 0) ∧ G4.2.2.1 (F (F a 2) 1) = G.2.2.1 (F (F a 2) 1) ∧ ((G4.1 (F a 2) 2).toInt) = ((G.1 (F a 2) 2).toInt)) ∨ (((G.1 a 18).toInt) = 0 ∧ (∀ i : Nat, G4.2.2.1 (F (F a 2) 0) i = if i = (p0.toInt).toNat then none else G.2.2.1 (F (F a 2) 0) i) ∧ BO G4 F (F a 2) ∧ (-2 : Int) = ((G4.1 (F a 2) 2).toInt)))) := by
  refine Or.inl ⟨rfl, ?_, r_G4_F_F_a_2_0, r_G4_F_F_a_2_1, by rw [d_G4_F_a_2_2]⟩
  rw [← r_G4_F_F_a_2_0]; exact hn12
theorem v_X10_drop_20_2 {F : Nat → Nat → Nat} (a : Nat) (G : XG) (G4 : XG)
    (r_G4_F_F_a_2_1 : G4.2.2.1 (F (F a 2) 1) = G.2.2.1 (F (F a 2) 1)) :
    ∀ (i q : Nat), G4.2.2.1 (F (F a 2) 1) i = some q → (∃ j : Nat, G.2.2.1 (F (F a 2) 1) j = some q) ∨ ∃ j : Nat, G4.2.2.1 (F (F a 2) 0) j = some q := by
  intro i q h
  first
    | (rcases oq36b i q h with ⟨j, e⟩ | ⟨j, e⟩
       · exact Or.inl ⟨j, by rw [← r_G4_F_F_a_2_1]; exact e⟩
       · exact Or.inr ⟨j, e⟩)
    | exact Or.inl ⟨i, by rw [← r_G4_F_F_a_2_1]; exact h⟩
theorem v_X10_drop_46_3 {K : Nat → Nat} {F : Nat → Nat → Nat} (a : Nat) (q12 : Nat) (G : XG) (G4 : XG) (G36 : XG) (p0 : Int32)
    (ha : K a = 12)
    (hs12 : G4.2.2.1 (F (F a 2) 0) (p0.toInt).toNat = some q12)
    (oq36 : ∀ i : Nat, G36.2.2.1 (F (F a 2) 0) i = if i = (p0.toInt).toNat then none else G4.2.2.1 (F (F a 2) 0) i)
    (oq36a : BO G36 F (F a 2))
    (t4 : ((G4.1 (F a 14) 1).toInt) = 0)
    (ht12 : 0 ≤ p0.toInt ∧ p0.toInt < 12)
    (f19 : ((G.1 a 18).toInt) = 0 ∨ ((G.1 a 18).toInt) = 1)
    (c25 : ((G.1 a 18).toInt) = 0)
    (r_G4_F_F_a_2_0 : G4.2.2.1 (F (F a 2) 0) = G.2.2.1 (F (F a 2) 0)) :
    (((G36.1 (F a 2) 2).toInt) = -2 ∧ ((p0.toInt < 0 ∨ 12 ≤ p0.toInt) ∨ G.2.2.1 (F (F a 2) 0) (p0.toInt).toNat = none) ∧ G36.2.2.1 (F (F a 2) 0) = G.2.2.1 (F (F a 2) 0) ∧ G36.2.2.1 (F (F a 2) 1) = G.2.2.1 (F (F a 2) 1) ∧ ((G36.1 (F a 2) 2).toInt) = ((G.1 (F a 2) 2).toInt)) ∨ ((0 ≤ p0.toInt ∧ p0.toInt < 12) ∧ (∃ q : Nat, G.2.2.1 (F (F a 2) 0) (p0.toInt).toNat = some q) ∧ ((((G.1 a 18).toInt) ≠ 0 ∧ ((G36.1 (F a 2) 2).toInt) = -3 ∧ G36.2.2.1 (F (F a 2) 0) = G.2.2.1 (F (F a 2) 0) ∧ G36.2.2.1 (F (F a 2) 1) = G.2.2.1 (F (F a 2) 1) ∧ ((G36.1 (F a 2) 2).toInt) = ((G.1 (F a 2) 2).toInt)) ∨ (((G.1 a 18).toInt) = 0 ∧ (∀ i : Nat, G36.2.2.1 (F (F a 2) 0) i = if i = (p0.toInt).toNat then none else G.2.2.1 (F (F a 2) 0) i) ∧ BO G36 F (F a 2) ∧ ((G36.1 (F a 2) 2).toInt) = ((G36.1 (F a 2) 2).toInt)))) := by
  refine Or.inr ⟨by omega, ⟨q12, by rw [← r_G4_F_F_a_2_0]; exact hs12⟩, Or.inr ⟨by omega, ?_, oq36a, rfl⟩⟩
  rw [← r_G4_F_F_a_2_0]
  exact oq36
theorem v_X10_drop_46_4 {F : Nat → Nat → Nat} (a : Nat) (G : XG) (G4 : XG) (G36 : XG)
    (oq36b : ∀ (i q : Nat), G36.2.2.1 (F (F a 2) 1) i = some q → (∃ j : Nat, G4.2.2.1 (F (F a 2) 1) j = some q) ∨ ∃ j : Nat, G36.2.2.1 (F (F a 2) 0) j = some q)
    (r_G4_F_F_a_2_1 : G4.2.2.1 (F (F a 2) 1) = G.2.2.1 (F (F a 2) 1)) :
    ∀ (i q : Nat), G36.2.2.1 (F (F a 2) 1) i = some q → (∃ j : Nat, G.2.2.1 (F (F a 2) 1) j = some q) ∨ ∃ j : Nat, G36.2.2.1 (F (F a 2) 0) j = some q := by
  intro i q h
  first
    | (rcases oq36b i q h with ⟨j, e⟩ | ⟨j, e⟩
       · exact Or.inl ⟨j, by rw [← r_G4_F_F_a_2_1]; exact e⟩
       · exact Or.inr ⟨j, e⟩)
    | exact Or.inl ⟨i, by rw [← r_G4_F_F_a_2_1]; exact h⟩
theorem v_X10_drop_30_5 {K : Nat → Nat} {F : Nat → Nat → Nat} (a : Nat) (q12 : Nat) (G : XG) (G4 : XG) (p0 : Int32)
    (ha : K a = 12)
    (hs12 : G4.2.2.1 (F (F a 2) 0) (p0.toInt).toNat = some q12)
    (t4 : ((G4.1 (F a 14) 1).toInt) = 0)
    (ht12 : 0 ≤ p0.toInt ∧ p0.toInt < 12)
    (f14 : ((G.1 a 18).toInt) = 0 ∨ ((G.1 a 18).toInt) = 1)
    (c25 : ¬ (((G.1 a 18).toInt) = 0))
    (r_G4_F_F_a_2_0 : G4.2.2.1 (F (F a 2) 0) = G.2.2.1 (F (F a 2) 0))
    (r_G4_F_F_a_2_1 : G4.2.2.1 (F (F a 2) 1) = G.2.2.1 (F (F a 2) 1))
    (d_G4_F_a_2_2 : G4.1 (F a 2) 2 = G.1 (F a 2) 2) :
    ((-3 : Int) = -2 ∧ ((p0.toInt < 0 ∨ 12 ≤ p0.toInt) ∨ G.2.2.1 (F (F a 2) 0) (p0.toInt).toNat = none) ∧ G4.2.2.1 (F (F a 2) 0) = G.2.2.1 (F (F a 2) 0) ∧ G4.2.2.1 (F (F a 2) 1) = G.2.2.1 (F (F a 2) 1) ∧ ((G4.1 (F a 2) 2).toInt) = ((G.1 (F a 2) 2).toInt)) ∨ ((0 ≤ p0.toInt ∧ p0.toInt < 12) ∧ (∃ q : Nat, G.2.2.1 (F (F a 2) 0) (p0.toInt).toNat = some q) ∧ ((((G.1 a 18).toInt) ≠ 0 ∧ (-3 : Int) = -3 ∧ G4.2.2.1 (F (F a 2) 0) = G.2.2.1 (F (F a 2) 0) ∧ G4.2.2.1 (F (F a 2) 1) = G.2.2.1 (F (F a 2) 1) ∧ ((G4.1 (F a 2) 2).toInt) = ((G.1 (F a 2) 2).toInt)) ∨ (((G.1 a 18).toInt) = 0 ∧ (∀ i : Nat, G4.2.2.1 (F (F a 2) 0) i = if i = (p0.toInt).toNat then none else G.2.2.1 (F (F a 2) 0) i) ∧ BO G4 F (F a 2) ∧ (-3 : Int) = ((G4.1 (F a 2) 2).toInt)))) := by
  exact Or.inr ⟨by omega, ⟨q12, by rw [← r_G4_F_F_a_2_0]; exact hs12⟩, Or.inl ⟨by omega, rfl, r_G4_F_F_a_2_0, r_G4_F_F_a_2_1, by rw [d_G4_F_a_2_2]⟩⟩
theorem v_X10_drop_30_6 {F : Nat → Nat → Nat} (a : Nat) (G : XG) (G4 : XG)
    (r_G4_F_F_a_2_1 : G4.2.2.1 (F (F a 2) 1) = G.2.2.1 (F (F a 2) 1)) :
    ∀ (i q : Nat), G4.2.2.1 (F (F a 2) 1) i = some q → (∃ j : Nat, G.2.2.1 (F (F a 2) 1) j = some q) ∨ ∃ j : Nat, G4.2.2.1 (F (F a 2) 0) j = some q := by
  intro i q h
  first
    | (rcases oq36b i q h with ⟨j, e⟩ | ⟨j, e⟩
       · exact Or.inl ⟨j, by rw [← r_G4_F_F_a_2_1]; exact e⟩
       · exact Or.inr ⟨j, e⟩)
    | exact Or.inl ⟨i, by rw [← r_G4_F_F_a_2_1]; exact h⟩
theorem v_X10_commit_22_1 {K : Nat → Nat} {F : Nat → Nat → Nat} (a : Nat) (G : XG) (G4 : XG)
    (ha : K a = 12)
    (hk9999 : K (F a 14) = 11)
    (hj9999 : F (F a 14) 99 = 0)
    (hk9999a : K (F a 8) = 6)
    (hj9999a : F (F a 8) 99 = 0)
    (hk9999b : K (F a 10) = 6)
    (hj9999b : F (F a 10) 99 = 2)
    (hk9999c : K (F a 16) = 27)
    (hj9999c : F (F a 16) 99 = 0)
    (hk9999d : K (F (F a 10) 0) = 22)
    (hj9999e : F (F (F a 10) 0) 99 = 10 * 2 + 0)
    (hk9999e : K (F (F a 10) 1) = 22)
    (hj9999g : F (F (F a 10) 1) 99 = 10 * 2 + 1)
    (hk9999f : K (F (F a 10) 2) = 22)
    (hj9999i : F (F (F a 10) 2) 99 = 10 * 2 + 2)
    (hk9999g : K (F (F a 10) 3) = 22)
    (hj9999k : F (F (F a 10) 3) 99 = 10 * 2 + 3)
    (hk9999h : K (F (F a 10) 4) = 23)
    (hj9999m : F (F (F a 10) 4) 99 = 10 * 2 + 4)
    (hk9999i : K (F (F a 10) 5) = 23)
    (hj9999o : F (F (F a 10) 5) 99 = 10 * 2 + 5)
    (hk9999j : K (F a 3) = 8)
    (hj9999p : F (F a 3) 99 = 0)
    (hk9999k : K (F (F a 3) 0) = 20)
    (hj9999r : F (F (F a 3) 0) 99 = 0)
    (hk9999l : K (F (F a 3) 1) = 21)
    (hj9999t : F (F (F a 3) 1) 99 = 0)
    (hk9999m : K (F a 4) = 8)
    (hj9999u : F (F a 4) 99 = 1)
    (hk9999n : K (F (F a 4) 0) = 20)
    (hj9999w : F (F (F a 4) 0) 99 = 1)
    (hk9999o : K (F (F a 4) 1) = 21)
    (hj9999z25 : F (F (F a 4) 1) 99 = 1)
    (hk9999p : K (F (F a 8) 0) = 22)
    (hj9999z27 : F (F (F a 8) 0) 99 = 10 * 0 + 0)
    (hk9999q : K (F (F a 8) 1) = 22)
    (hj9999z29 : F (F (F a 8) 1) 99 = 10 * 0 + 1)
    (hk9999r : K (F (F a 8) 2) = 22)
    (hj9999z31 : F (F (F a 8) 2) 99 = 10 * 0 + 2)
    (hk9999s : K (F (F a 8) 3) = 22)
    (hj9999z33 : F (F (F a 8) 3) 99 = 10 * 0 + 3)
    (hk9999t : K (F (F a 8) 4) = 23)
    (hj9999z35 : F (F (F a 8) 4) 99 = 10 * 0 + 4)
    (hk9999u : K (F (F a 8) 5) = 23)
    (hj9999z37 : F (F (F a 8) 5) 99 = 10 * 0 + 5)
    (sw : 0 ≤ ((G.1 (F a 8) 6).toInt) ∧ ((G.1 (F a 8) 6).toInt) ≤ 1080)
    (t4 : ((G4.1 (F a 14) 1).toInt) = 0)
    (f50 : ((G.1 a 18).toInt) = 0 ∨ ((G.1 a 18).toInt) = 1)
    (c11 : ((G.1 a 18).toInt) ≠ 0) :
    F (F a 8) 99 ≠ 2 := by
  omega
theorem v_X10_commit_61_2 {K : Nat → Nat} {F : Nat → Nat → Nat} (a : Nat) (G : XG) (G4 : XG) (G22 : XG) (G42 : XG) (x22 : Int32)
    (ha : K a = 12)
    (oq22 : (x22.toInt = 1 ∧ ∀ x, x ∈ qL G4 F (F a 8) → x.2.2.2.2.1 ≠ 0 → x.2.2.2.2.2 = 0) ∨ (x22.toInt = 0 ∧ ∃ x, x ∈ qL G4 F (F a 8) ∧ x.2.2.2.2.1 ≠ 0 ∧ x.2.2.2.2.2 ≠ 0))
    (oq22a : AskR (qL G4 F (F a 8)) (qL G22 F (F a 10)) x22.toInt)
    (sw : 0 ≤ ((G.1 (F a 8) 6).toInt) ∧ ((G.1 (F a 8) 6).toInt) ≤ 1080)
    (t4 : ((G4.1 (F a 14) 1).toInt) = 0)
    (f54 : ((G.1 a 18).toInt) = 0 ∨ ((G.1 a 18).toInt) = 1)
    (c11 : ((G.1 a 18).toInt) ≠ 0)
    (t22 : 0 ≤ ((G22.1 (F a 10) 6).toInt) ∧ ((G22.1 (F a 10) 6).toInt) ≤ 1080)
    (f57 : x22.toInt = 0 ∨ x22.toInt = 1)
    (c27 : x22.toInt ≠ 0)
    (t42 : ((G42.1 a 18).toInt) = 0 ∧ ((G42.1 a 17).toInt) = 0 ∧ ((G42.1 (F a 8) 6).toInt) = 0)
    (c46 : x22.toInt = 0)
    (c_G4_F_F_a_8_0 : G4.2.1 (F (F a 8) 0) = G.2.1 (F (F a 8) 0))
    (c_G4_F_F_a_8_1 : G4.2.1 (F (F a 8) 1) = G.2.1 (F (F a 8) 1))
    (c_G4_F_F_a_8_2 : G4.2.1 (F (F a 8) 2) = G.2.1 (F (F a 8) 2))
    (c_G4_F_F_a_8_3 : G4.2.1 (F (F a 8) 3) = G.2.1 (F (F a 8) 3))
    (c_G4_F_F_a_8_4 : G4.2.1 (F (F a 8) 4) = G.2.1 (F (F a 8) 4))
    (c_G4_F_F_a_8_5 : G4.2.1 (F (F a 8) 5) = G.2.1 (F (F a 8) 5))
    (c_G42_F_F_a_3_0 : G42.2.1 (F (F a 3) 0) = G.2.1 (F (F a 3) 0))
    (d_G4_F_a_8_6 : G4.1 (F a 8) 6 = G.1 (F a 8) 6) :
    (((G.1 a 18).toInt) = 0 ∧ (-5 : Int) = -3 ∧ (vw (G42.2.1 (F (F a 3) 0))) = (vw (G.2.1 (F (F a 3) 0)))) ∨ (((G.1 a 18).toInt) ≠ 0 ∧ (((∃ x, x ∈ qL G F (F a 8) ∧ x.2.2.2.2.1 ≠ 0 ∧ x.2.2.2.2.2 ≠ 0) ∧ (-5 : Int) = -5 ∧ (vw (G42.2.1 (F (F a 3) 0))) = (vw (G.2.1 (F (F a 4) 0)))) ∨ ((∀ x, x ∈ qL G F (F a 8) → x.2.2.2.2.1 ≠ 0 → x.2.2.2.2.2 = 0) ∧ (vw (G42.2.1 (F (F a 3) 0))) = (vw (G.2.1 (F (F a 3) 0))) ∧ (-5 : Int) = (((ltF (qL G F (F a 8))).length : Nat) : Int)))) := by
  have e : qL G4 F (F a 8) = qL G F (F a 8) := qL_cg d_G4_F_a_8_6 c_G4_F_F_a_8_0 c_G4_F_F_a_8_1 c_G4_F_F_a_8_2 c_G4_F_F_a_8_3 c_G4_F_F_a_8_4 c_G4_F_F_a_8_5
  rcases oq22 with h | h
  · first
      | (exfalso; omega)
      | (refine Or.inr ⟨by omega, Or.inr ⟨by rw [← e]; exact h.2, by rw [c_G42_F_F_a_3_0], ?_⟩⟩
         have q := qL_len G22 F (F a 10)
         rcases oq22a with ⟨-, g⟩ | ⟨g, -⟩
         · rw [g, e] at q; omega
         · exfalso; omega)
  · first
      | (exfalso; omega)
      | (refine Or.inr ⟨by omega, Or.inl ⟨?_, rfl, by rw [c_G42_F_F_a_3_0]; exact oq38⟩⟩
         rw [← e]; exact h.2)
theorem v_X10_commit_61_3 {F : Nat → Nat → Nat} (a : Nat) (G : XG) (G42 : XG)
    (ron : RO (vw (G.2.1 (F (F a 3) 0))) (aI (G.2.1 (F (F a 3) 1))))
    (c_G42_F_F_a_3_0 : G42.2.1 (F (F a 3) 0) = G.2.1 (F (F a 3) 0))
    (c_G42_F_F_a_3_1 : G42.2.1 (F (F a 3) 1) = G.2.1 (F (F a 3) 1)) :
    RO (vw (G42.2.1 (F (F a 3) 0))) (aI (G42.2.1 (F (F a 3) 1))) := by
  rw [c_G42_F_F_a_3_0, c_G42_F_F_a_3_1]
  first | exact oq38a | exact ron
theorem v_X10_commit_61_4 {K : Nat → Nat} {F : Nat → Nat → Nat} (a : Nat) (G : XG) (G4 : XG) (G22 : XG) (G42 : XG) (x22 : Int32)
    (ha : K a = 12)
    (oq22 : (x22.toInt = 1 ∧ ∀ x, x ∈ qL G4 F (F a 8) → x.2.2.2.2.1 ≠ 0 → x.2.2.2.2.2 = 0) ∨ (x22.toInt = 0 ∧ ∃ x, x ∈ qL G4 F (F a 8) ∧ x.2.2.2.2.1 ≠ 0 ∧ x.2.2.2.2.2 ≠ 0))
    (oq22a : AskR (qL G4 F (F a 8)) (qL G22 F (F a 10)) x22.toInt)
    (sw : 0 ≤ ((G.1 (F a 8) 6).toInt) ∧ ((G.1 (F a 8) 6).toInt) ≤ 1080)
    (t4 : ((G4.1 (F a 14) 1).toInt) = 0)
    (f54 : ((G.1 a 18).toInt) = 0 ∨ ((G.1 a 18).toInt) = 1)
    (c11 : ((G.1 a 18).toInt) ≠ 0)
    (t22 : 0 ≤ ((G22.1 (F a 10) 6).toInt) ∧ ((G22.1 (F a 10) 6).toInt) ≤ 1080)
    (f57 : x22.toInt = 0 ∨ x22.toInt = 1)
    (c27 : x22.toInt ≠ 0)
    (t42 : ((G42.1 a 18).toInt) = 0 ∧ ((G42.1 a 17).toInt) = 0 ∧ ((G42.1 (F a 8) 6).toInt) = 0)
    (c46 : x22.toInt = 0)
    (c_G4_F_F_a_8_0 : G4.2.1 (F (F a 8) 0) = G.2.1 (F (F a 8) 0))
    (c_G4_F_F_a_8_1 : G4.2.1 (F (F a 8) 1) = G.2.1 (F (F a 8) 1))
    (c_G4_F_F_a_8_2 : G4.2.1 (F (F a 8) 2) = G.2.1 (F (F a 8) 2))
    (c_G4_F_F_a_8_3 : G4.2.1 (F (F a 8) 3) = G.2.1 (F (F a 8) 3))
    (c_G4_F_F_a_8_4 : G4.2.1 (F (F a 8) 4) = G.2.1 (F (F a 8) 4))
    (c_G4_F_F_a_8_5 : G4.2.1 (F (F a 8) 5) = G.2.1 (F (F a 8) 5))
    (c_G42_F_F_a_10_0 : G42.2.1 (F (F a 10) 0) = G22.2.1 (F (F a 10) 0))
    (c_G42_F_F_a_10_1 : G42.2.1 (F (F a 10) 1) = G22.2.1 (F (F a 10) 1))
    (c_G42_F_F_a_10_2 : G42.2.1 (F (F a 10) 2) = G22.2.1 (F (F a 10) 2))
    (c_G42_F_F_a_10_3 : G42.2.1 (F (F a 10) 3) = G22.2.1 (F (F a 10) 3))
    (c_G42_F_F_a_10_4 : G42.2.1 (F (F a 10) 4) = G22.2.1 (F (F a 10) 4))
    (c_G42_F_F_a_10_5 : G42.2.1 (F (F a 10) 5) = G22.2.1 (F (F a 10) 5))
    (d_G4_F_a_8_6 : G4.1 (F a 8) 6 = G.1 (F a 8) 6)
    (d_G42_F_a_10_6 : G42.1 (F a 10) 6 = G22.1 (F a 10) 6) :
    (((G.1 a 18).toInt) = 0 ∧ qL G42 F (F a 10) = qL G F (F a 10)) ∨ (((G.1 a 18).toInt) ≠ 0 ∧ ∃ ok : Int, AskR (qL G F (F a 8)) (qL G42 F (F a 10)) ok) := by
  have e : qL G4 F (F a 8) = qL G F (F a 8) := qL_cg d_G4_F_a_8_6 c_G4_F_F_a_8_0 c_G4_F_F_a_8_1 c_G4_F_F_a_8_2 c_G4_F_F_a_8_3 c_G4_F_F_a_8_4 c_G4_F_F_a_8_5
  have e9 : qL G42 F (F a 10) = qL G22 F (F a 10) := qL_cg d_G42_F_a_10_6 c_G42_F_F_a_10_0 c_G42_F_F_a_10_1 c_G42_F_F_a_10_2 c_G42_F_F_a_10_3 c_G42_F_F_a_10_4 c_G42_F_F_a_10_5
  exact Or.inr ⟨by omega, x22.toInt, by rw [← e, e9]; exact oq22a⟩
theorem v_X10_commit_61_5 {K : Nat → Nat} {F : Nat → Nat → Nat} (a : Nat) (G : XG) (G4 : XG) (G22 : XG) (G42 : XG) (x22 : Int32)
    (ha : K a = 12)
    (oq22 : (x22.toInt = 1 ∧ ∀ x, x ∈ qL G4 F (F a 8) → x.2.2.2.2.1 ≠ 0 → x.2.2.2.2.2 = 0) ∨ (x22.toInt = 0 ∧ ∃ x, x ∈ qL G4 F (F a 8) ∧ x.2.2.2.2.1 ≠ 0 ∧ x.2.2.2.2.2 ≠ 0))
    (oq22a : AskR (qL G4 F (F a 8)) (qL G22 F (F a 10)) x22.toInt)
    (sw : 0 ≤ ((G.1 (F a 8) 6).toInt) ∧ ((G.1 (F a 8) 6).toInt) ≤ 1080)
    (t4 : ((G4.1 (F a 14) 1).toInt) = 0)
    (f55 : ((G.1 a 18).toInt) = 0 ∨ ((G.1 a 18).toInt) = 1)
    (c11 : ((G.1 a 18).toInt) ≠ 0)
    (t22 : 0 ≤ ((G22.1 (F a 10) 6).toInt) ∧ ((G22.1 (F a 10) 6).toInt) ≤ 1080)
    (f58 : x22.toInt = 0 ∨ x22.toInt = 1)
    (c27 : x22.toInt ≠ 0)
    (t42 : ((G42.1 a 18).toInt) = 0 ∧ ((G42.1 a 17).toInt) = 0 ∧ ((G42.1 (F a 8) 6).toInt) = 0)
    (c46 : ¬ (x22.toInt = 0))
    (c_G4_F_F_a_8_0 : G4.2.1 (F (F a 8) 0) = G.2.1 (F (F a 8) 0))
    (c_G4_F_F_a_8_1 : G4.2.1 (F (F a 8) 1) = G.2.1 (F (F a 8) 1))
    (c_G4_F_F_a_8_2 : G4.2.1 (F (F a 8) 2) = G.2.1 (F (F a 8) 2))
    (c_G4_F_F_a_8_3 : G4.2.1 (F (F a 8) 3) = G.2.1 (F (F a 8) 3))
    (c_G4_F_F_a_8_4 : G4.2.1 (F (F a 8) 4) = G.2.1 (F (F a 8) 4))
    (c_G4_F_F_a_8_5 : G4.2.1 (F (F a 8) 5) = G.2.1 (F (F a 8) 5))
    (c_G42_F_F_a_3_0 : G42.2.1 (F (F a 3) 0) = G.2.1 (F (F a 3) 0))
    (d_G4_F_a_8_6 : G4.1 (F a 8) 6 = G.1 (F a 8) 6) :
    (((G.1 a 18).toInt) = 0 ∧ ((G22.1 (F a 10) 6).toInt) = -3 ∧ (vw (G42.2.1 (F (F a 3) 0))) = (vw (G.2.1 (F (F a 3) 0)))) ∨ (((G.1 a 18).toInt) ≠ 0 ∧ (((∃ x, x ∈ qL G F (F a 8) ∧ x.2.2.2.2.1 ≠ 0 ∧ x.2.2.2.2.2 ≠ 0) ∧ ((G22.1 (F a 10) 6).toInt) = -5 ∧ (vw (G42.2.1 (F (F a 3) 0))) = (vw (G.2.1 (F (F a 4) 0)))) ∨ ((∀ x, x ∈ qL G F (F a 8) → x.2.2.2.2.1 ≠ 0 → x.2.2.2.2.2 = 0) ∧ (vw (G42.2.1 (F (F a 3) 0))) = (vw (G.2.1 (F (F a 3) 0))) ∧ ((G22.1 (F a 10) 6).toInt) = (((ltF (qL G F (F a 8))).length : Nat) : Int)))) := by
  have e : qL G4 F (F a 8) = qL G F (F a 8) := qL_cg d_G4_F_a_8_6 c_G4_F_F_a_8_0 c_G4_F_F_a_8_1 c_G4_F_F_a_8_2 c_G4_F_F_a_8_3 c_G4_F_F_a_8_4 c_G4_F_F_a_8_5
  rcases oq22 with h | h
  · first
      | (exfalso; omega)
      | (refine Or.inr ⟨by omega, Or.inr ⟨by rw [← e]; exact h.2, by rw [c_G42_F_F_a_3_0], ?_⟩⟩
         have q := qL_len G22 F (F a 10)
         rcases oq22a with ⟨-, g⟩ | ⟨g, -⟩
         · rw [g, e] at q; omega
         · exfalso; omega)
  · first
      | (exfalso; omega)
      | (refine Or.inr ⟨by omega, Or.inl ⟨?_, rfl, by rw [c_G42_F_F_a_3_0]; exact oq38⟩⟩
         rw [← e]; exact h.2)
theorem v_X10_commit_61_6 {F : Nat → Nat → Nat} (a : Nat) (G : XG) (G42 : XG)
    (ron : RO (vw (G.2.1 (F (F a 3) 0))) (aI (G.2.1 (F (F a 3) 1))))
    (c_G42_F_F_a_3_0 : G42.2.1 (F (F a 3) 0) = G.2.1 (F (F a 3) 0))
    (c_G42_F_F_a_3_1 : G42.2.1 (F (F a 3) 1) = G.2.1 (F (F a 3) 1)) :
    RO (vw (G42.2.1 (F (F a 3) 0))) (aI (G42.2.1 (F (F a 3) 1))) := by
  rw [c_G42_F_F_a_3_0, c_G42_F_F_a_3_1]
  first | exact oq38a | exact ron
theorem v_X10_commit_61_7 {K : Nat → Nat} {F : Nat → Nat → Nat} (a : Nat) (G : XG) (G4 : XG) (G22 : XG) (G42 : XG) (x22 : Int32)
    (ha : K a = 12)
    (oq22 : (x22.toInt = 1 ∧ ∀ x, x ∈ qL G4 F (F a 8) → x.2.2.2.2.1 ≠ 0 → x.2.2.2.2.2 = 0) ∨ (x22.toInt = 0 ∧ ∃ x, x ∈ qL G4 F (F a 8) ∧ x.2.2.2.2.1 ≠ 0 ∧ x.2.2.2.2.2 ≠ 0))
    (oq22a : AskR (qL G4 F (F a 8)) (qL G22 F (F a 10)) x22.toInt)
    (sw : 0 ≤ ((G.1 (F a 8) 6).toInt) ∧ ((G.1 (F a 8) 6).toInt) ≤ 1080)
    (t4 : ((G4.1 (F a 14) 1).toInt) = 0)
    (f55 : ((G.1 a 18).toInt) = 0 ∨ ((G.1 a 18).toInt) = 1)
    (c11 : ((G.1 a 18).toInt) ≠ 0)
    (t22 : 0 ≤ ((G22.1 (F a 10) 6).toInt) ∧ ((G22.1 (F a 10) 6).toInt) ≤ 1080)
    (f58 : x22.toInt = 0 ∨ x22.toInt = 1)
    (c27 : x22.toInt ≠ 0)
    (t42 : ((G42.1 a 18).toInt) = 0 ∧ ((G42.1 a 17).toInt) = 0 ∧ ((G42.1 (F a 8) 6).toInt) = 0)
    (c46 : ¬ (x22.toInt = 0))
    (c_G4_F_F_a_8_0 : G4.2.1 (F (F a 8) 0) = G.2.1 (F (F a 8) 0))
    (c_G4_F_F_a_8_1 : G4.2.1 (F (F a 8) 1) = G.2.1 (F (F a 8) 1))
    (c_G4_F_F_a_8_2 : G4.2.1 (F (F a 8) 2) = G.2.1 (F (F a 8) 2))
    (c_G4_F_F_a_8_3 : G4.2.1 (F (F a 8) 3) = G.2.1 (F (F a 8) 3))
    (c_G4_F_F_a_8_4 : G4.2.1 (F (F a 8) 4) = G.2.1 (F (F a 8) 4))
    (c_G4_F_F_a_8_5 : G4.2.1 (F (F a 8) 5) = G.2.1 (F (F a 8) 5))
    (c_G42_F_F_a_10_0 : G42.2.1 (F (F a 10) 0) = G22.2.1 (F (F a 10) 0))
    (c_G42_F_F_a_10_1 : G42.2.1 (F (F a 10) 1) = G22.2.1 (F (F a 10) 1))
    (c_G42_F_F_a_10_2 : G42.2.1 (F (F a 10) 2) = G22.2.1 (F (F a 10) 2))
    (c_G42_F_F_a_10_3 : G42.2.1 (F (F a 10) 3) = G22.2.1 (F (F a 10) 3))
    (c_G42_F_F_a_10_4 : G42.2.1 (F (F a 10) 4) = G22.2.1 (F (F a 10) 4))
    (c_G42_F_F_a_10_5 : G42.2.1 (F (F a 10) 5) = G22.2.1 (F (F a 10) 5))
    (d_G4_F_a_8_6 : G4.1 (F a 8) 6 = G.1 (F a 8) 6)
    (d_G42_F_a_10_6 : G42.1 (F a 10) 6 = G22.1 (F a 10) 6) :
    (((G.1 a 18).toInt) = 0 ∧ qL G42 F (F a 10) = qL G F (F a 10)) ∨ (((G.1 a 18).toInt) ≠ 0 ∧ ∃ ok : Int, AskR (qL G F (F a 8)) (qL G42 F (F a 10)) ok) := by
  have e : qL G4 F (F a 8) = qL G F (F a 8) := qL_cg d_G4_F_a_8_6 c_G4_F_F_a_8_0 c_G4_F_F_a_8_1 c_G4_F_F_a_8_2 c_G4_F_F_a_8_3 c_G4_F_F_a_8_4 c_G4_F_F_a_8_5
  have e9 : qL G42 F (F a 10) = qL G22 F (F a 10) := qL_cg d_G42_F_a_10_6 c_G42_F_F_a_10_0 c_G42_F_F_a_10_1 c_G42_F_F_a_10_2 c_G42_F_F_a_10_3 c_G42_F_F_a_10_4 c_G42_F_F_a_10_5
  exact Or.inr ⟨by omega, x22.toInt, by rw [← e, e9]; exact oq22a⟩
theorem v_X10_commit_38_8 {F : Nat → Nat → Nat} (a : Nat) (G : XG) (G22 : XG)
    (ron : RO (vw (G.2.1 (F (F a 3) 0))) (aI (G.2.1 (F (F a 3) 1))))
    (rob : RO (vw (G.2.1 (F (F a 4) 0))) (aI (G.2.1 (F (F a 4) 1))))
    (c_G22_F_F_a_4_0 : G22.2.1 (F (F a 4) 0) = G.2.1 (F (F a 4) 0))
    (c_G22_F_F_a_4_1 : G22.2.1 (F (F a 4) 1) = G.2.1 (F (F a 4) 1)) :
    RO (vw (G22.2.1 (F (F a 4) 0))) (aI (G22.2.1 (F (F a 4) 1))) := by simp only [c_G22_F_F_a_4_0, c_G22_F_F_a_4_1]; assumption
theorem v_X10_commit_61_9 {K : Nat → Nat} {F : Nat → Nat → Nat} (a : Nat) (G : XG) (G4 : XG) (G22 : XG) (G38 : XG) (G42 : XG) (x22 : Int32)
    (ha : K a = 12)
    (oq22 : (x22.toInt = 1 ∧ ∀ x, x ∈ qL G4 F (F a 8) → x.2.2.2.2.1 ≠ 0 → x.2.2.2.2.2 = 0) ∨ (x22.toInt = 0 ∧ ∃ x, x ∈ qL G4 F (F a 8) ∧ x.2.2.2.2.1 ≠ 0 ∧ x.2.2.2.2.2 ≠ 0))
    (oq22a : AskR (qL G4 F (F a 8)) (qL G22 F (F a 10)) x22.toInt)
    (oq38 : (vw (G38.2.1 (F (F a 3) 0))) = (vw (G.2.1 (F (F a 4) 0))))
    (sw : 0 ≤ ((G.1 (F a 8) 6).toInt) ∧ ((G.1 (F a 8) 6).toInt) ≤ 1080)
    (t4 : ((G4.1 (F a 14) 1).toInt) = 0)
    (f57 : ((G.1 a 18).toInt) = 0 ∨ ((G.1 a 18).toInt) = 1)
    (c11 : ((G.1 a 18).toInt) ≠ 0)
    (t22 : 0 ≤ ((G22.1 (F a 10) 6).toInt) ∧ ((G22.1 (F a 10) 6).toInt) ≤ 1080)
    (f60 : x22.toInt = 0 ∨ x22.toInt = 1)
    (c27 : ¬ (x22.toInt ≠ 0))
    (t42 : ((G42.1 a 18).toInt) = 0 ∧ ((G42.1 a 17).toInt) = 0 ∧ ((G42.1 (F a 8) 6).toInt) = 0)
    (c46 : x22.toInt = 0)
    (c_G4_F_F_a_8_0 : G4.2.1 (F (F a 8) 0) = G.2.1 (F (F a 8) 0))
    (c_G4_F_F_a_8_1 : G4.2.1 (F (F a 8) 1) = G.2.1 (F (F a 8) 1))
    (c_G4_F_F_a_8_2 : G4.2.1 (F (F a 8) 2) = G.2.1 (F (F a 8) 2))
    (c_G4_F_F_a_8_3 : G4.2.1 (F (F a 8) 3) = G.2.1 (F (F a 8) 3))
    (c_G4_F_F_a_8_4 : G4.2.1 (F (F a 8) 4) = G.2.1 (F (F a 8) 4))
    (c_G4_F_F_a_8_5 : G4.2.1 (F (F a 8) 5) = G.2.1 (F (F a 8) 5))
    (c_G42_F_F_a_3_0 : G42.2.1 (F (F a 3) 0) = G38.2.1 (F (F a 3) 0))
    (d_G4_F_a_8_6 : G4.1 (F a 8) 6 = G.1 (F a 8) 6) :
    (((G.1 a 18).toInt) = 0 ∧ (-5 : Int) = -3 ∧ (vw (G42.2.1 (F (F a 3) 0))) = (vw (G.2.1 (F (F a 3) 0)))) ∨ (((G.1 a 18).toInt) ≠ 0 ∧ (((∃ x, x ∈ qL G F (F a 8) ∧ x.2.2.2.2.1 ≠ 0 ∧ x.2.2.2.2.2 ≠ 0) ∧ (-5 : Int) = -5 ∧ (vw (G42.2.1 (F (F a 3) 0))) = (vw (G.2.1 (F (F a 4) 0)))) ∨ ((∀ x, x ∈ qL G F (F a 8) → x.2.2.2.2.1 ≠ 0 → x.2.2.2.2.2 = 0) ∧ (vw (G42.2.1 (F (F a 3) 0))) = (vw (G.2.1 (F (F a 3) 0))) ∧ (-5 : Int) = (((ltF (qL G F (F a 8))).length : Nat) : Int)))) := by
  have e : qL G4 F (F a 8) = qL G F (F a 8) := qL_cg d_G4_F_a_8_6 c_G4_F_F_a_8_0 c_G4_F_F_a_8_1 c_G4_F_F_a_8_2 c_G4_F_F_a_8_3 c_G4_F_F_a_8_4 c_G4_F_F_a_8_5
  rcases oq22 with h | h
  · first
      | (exfalso; omega)
      | (refine Or.inr ⟨by omega, Or.inr ⟨by rw [← e]; exact h.2, by rw [c_G42_F_F_a_3_0], ?_⟩⟩
         have q := qL_len G22 F (F a 10)
         rcases oq22a with ⟨-, g⟩ | ⟨g, -⟩
         · rw [g, e] at q; omega
         · exfalso; omega)
  · first
      | (exfalso; omega)
      | (refine Or.inr ⟨by omega, Or.inl ⟨?_, rfl, by rw [c_G42_F_F_a_3_0]; exact oq38⟩⟩
         rw [← e]; exact h.2)
theorem v_X10_commit_61_10 {F : Nat → Nat → Nat} (a : Nat) (G : XG) (G38 : XG) (G42 : XG)
    (ron : RO (vw (G.2.1 (F (F a 3) 0))) (aI (G.2.1 (F (F a 3) 1))))
    (oq38a : RO (vw (G38.2.1 (F (F a 3) 0))) (aI (G38.2.1 (F (F a 3) 1))))
    (c_G42_F_F_a_3_0 : G42.2.1 (F (F a 3) 0) = G38.2.1 (F (F a 3) 0))
    (c_G42_F_F_a_3_1 : G42.2.1 (F (F a 3) 1) = G38.2.1 (F (F a 3) 1)) :
    RO (vw (G42.2.1 (F (F a 3) 0))) (aI (G42.2.1 (F (F a 3) 1))) := by
  rw [c_G42_F_F_a_3_0, c_G42_F_F_a_3_1]
  first | exact oq38a | exact ron
theorem v_X10_commit_61_11 {K : Nat → Nat} {F : Nat → Nat → Nat} (a : Nat) (G : XG) (G4 : XG) (G22 : XG) (G42 : XG) (x22 : Int32)
    (ha : K a = 12)
    (oq22 : (x22.toInt = 1 ∧ ∀ x, x ∈ qL G4 F (F a 8) → x.2.2.2.2.1 ≠ 0 → x.2.2.2.2.2 = 0) ∨ (x22.toInt = 0 ∧ ∃ x, x ∈ qL G4 F (F a 8) ∧ x.2.2.2.2.1 ≠ 0 ∧ x.2.2.2.2.2 ≠ 0))
    (oq22a : AskR (qL G4 F (F a 8)) (qL G22 F (F a 10)) x22.toInt)
    (sw : 0 ≤ ((G.1 (F a 8) 6).toInt) ∧ ((G.1 (F a 8) 6).toInt) ≤ 1080)
    (t4 : ((G4.1 (F a 14) 1).toInt) = 0)
    (f57 : ((G.1 a 18).toInt) = 0 ∨ ((G.1 a 18).toInt) = 1)
    (c11 : ((G.1 a 18).toInt) ≠ 0)
    (t22 : 0 ≤ ((G22.1 (F a 10) 6).toInt) ∧ ((G22.1 (F a 10) 6).toInt) ≤ 1080)
    (f60 : x22.toInt = 0 ∨ x22.toInt = 1)
    (c27 : ¬ (x22.toInt ≠ 0))
    (t42 : ((G42.1 a 18).toInt) = 0 ∧ ((G42.1 a 17).toInt) = 0 ∧ ((G42.1 (F a 8) 6).toInt) = 0)
    (c46 : x22.toInt = 0)
    (c_G4_F_F_a_8_0 : G4.2.1 (F (F a 8) 0) = G.2.1 (F (F a 8) 0))
    (c_G4_F_F_a_8_1 : G4.2.1 (F (F a 8) 1) = G.2.1 (F (F a 8) 1))
    (c_G4_F_F_a_8_2 : G4.2.1 (F (F a 8) 2) = G.2.1 (F (F a 8) 2))
    (c_G4_F_F_a_8_3 : G4.2.1 (F (F a 8) 3) = G.2.1 (F (F a 8) 3))
    (c_G4_F_F_a_8_4 : G4.2.1 (F (F a 8) 4) = G.2.1 (F (F a 8) 4))
    (c_G4_F_F_a_8_5 : G4.2.1 (F (F a 8) 5) = G.2.1 (F (F a 8) 5))
    (c_G42_F_F_a_10_0 : G42.2.1 (F (F a 10) 0) = G22.2.1 (F (F a 10) 0))
    (c_G42_F_F_a_10_1 : G42.2.1 (F (F a 10) 1) = G22.2.1 (F (F a 10) 1))
    (c_G42_F_F_a_10_2 : G42.2.1 (F (F a 10) 2) = G22.2.1 (F (F a 10) 2))
    (c_G42_F_F_a_10_3 : G42.2.1 (F (F a 10) 3) = G22.2.1 (F (F a 10) 3))
    (c_G42_F_F_a_10_4 : G42.2.1 (F (F a 10) 4) = G22.2.1 (F (F a 10) 4))
    (c_G42_F_F_a_10_5 : G42.2.1 (F (F a 10) 5) = G22.2.1 (F (F a 10) 5))
    (d_G4_F_a_8_6 : G4.1 (F a 8) 6 = G.1 (F a 8) 6)
    (d_G42_F_a_10_6 : G42.1 (F a 10) 6 = G22.1 (F a 10) 6) :
    (((G.1 a 18).toInt) = 0 ∧ qL G42 F (F a 10) = qL G F (F a 10)) ∨ (((G.1 a 18).toInt) ≠ 0 ∧ ∃ ok : Int, AskR (qL G F (F a 8)) (qL G42 F (F a 10)) ok) := by
  have e : qL G4 F (F a 8) = qL G F (F a 8) := qL_cg d_G4_F_a_8_6 c_G4_F_F_a_8_0 c_G4_F_F_a_8_1 c_G4_F_F_a_8_2 c_G4_F_F_a_8_3 c_G4_F_F_a_8_4 c_G4_F_F_a_8_5
  have e9 : qL G42 F (F a 10) = qL G22 F (F a 10) := qL_cg d_G42_F_a_10_6 c_G42_F_F_a_10_0 c_G42_F_F_a_10_1 c_G42_F_F_a_10_2 c_G42_F_F_a_10_3 c_G42_F_F_a_10_4 c_G42_F_F_a_10_5
  exact Or.inr ⟨by omega, x22.toInt, by rw [← e, e9]; exact oq22a⟩
theorem v_X10_commit_61_12 {K : Nat → Nat} {F : Nat → Nat → Nat} (a : Nat) (G : XG) (G4 : XG) (G22 : XG) (G38 : XG) (G42 : XG) (x22 : Int32)
    (ha : K a = 12)
    (oq22 : (x22.toInt = 1 ∧ ∀ x, x ∈ qL G4 F (F a 8) → x.2.2.2.2.1 ≠ 0 → x.2.2.2.2.2 = 0) ∨ (x22.toInt = 0 ∧ ∃ x, x ∈ qL G4 F (F a 8) ∧ x.2.2.2.2.1 ≠ 0 ∧ x.2.2.2.2.2 ≠ 0))
    (oq22a : AskR (qL G4 F (F a 8)) (qL G22 F (F a 10)) x22.toInt)
    (oq38 : (vw (G38.2.1 (F (F a 3) 0))) = (vw (G.2.1 (F (F a 4) 0))))
    (sw : 0 ≤ ((G.1 (F a 8) 6).toInt) ∧ ((G.1 (F a 8) 6).toInt) ≤ 1080)
    (t4 : ((G4.1 (F a 14) 1).toInt) = 0)
    (f58 : ((G.1 a 18).toInt) = 0 ∨ ((G.1 a 18).toInt) = 1)
    (c11 : ((G.1 a 18).toInt) ≠ 0)
    (t22 : 0 ≤ ((G22.1 (F a 10) 6).toInt) ∧ ((G22.1 (F a 10) 6).toInt) ≤ 1080)
    (f61 : x22.toInt = 0 ∨ x22.toInt = 1)
    (c27 : ¬ (x22.toInt ≠ 0))
    (t42 : ((G42.1 a 18).toInt) = 0 ∧ ((G42.1 a 17).toInt) = 0 ∧ ((G42.1 (F a 8) 6).toInt) = 0)
    (c46 : ¬ (x22.toInt = 0))
    (c_G4_F_F_a_8_0 : G4.2.1 (F (F a 8) 0) = G.2.1 (F (F a 8) 0))
    (c_G4_F_F_a_8_1 : G4.2.1 (F (F a 8) 1) = G.2.1 (F (F a 8) 1))
    (c_G4_F_F_a_8_2 : G4.2.1 (F (F a 8) 2) = G.2.1 (F (F a 8) 2))
    (c_G4_F_F_a_8_3 : G4.2.1 (F (F a 8) 3) = G.2.1 (F (F a 8) 3))
    (c_G4_F_F_a_8_4 : G4.2.1 (F (F a 8) 4) = G.2.1 (F (F a 8) 4))
    (c_G4_F_F_a_8_5 : G4.2.1 (F (F a 8) 5) = G.2.1 (F (F a 8) 5))
    (c_G42_F_F_a_3_0 : G42.2.1 (F (F a 3) 0) = G38.2.1 (F (F a 3) 0))
    (d_G4_F_a_8_6 : G4.1 (F a 8) 6 = G.1 (F a 8) 6) :
    (((G.1 a 18).toInt) = 0 ∧ ((G22.1 (F a 10) 6).toInt) = -3 ∧ (vw (G42.2.1 (F (F a 3) 0))) = (vw (G.2.1 (F (F a 3) 0)))) ∨ (((G.1 a 18).toInt) ≠ 0 ∧ (((∃ x, x ∈ qL G F (F a 8) ∧ x.2.2.2.2.1 ≠ 0 ∧ x.2.2.2.2.2 ≠ 0) ∧ ((G22.1 (F a 10) 6).toInt) = -5 ∧ (vw (G42.2.1 (F (F a 3) 0))) = (vw (G.2.1 (F (F a 4) 0)))) ∨ ((∀ x, x ∈ qL G F (F a 8) → x.2.2.2.2.1 ≠ 0 → x.2.2.2.2.2 = 0) ∧ (vw (G42.2.1 (F (F a 3) 0))) = (vw (G.2.1 (F (F a 3) 0))) ∧ ((G22.1 (F a 10) 6).toInt) = (((ltF (qL G F (F a 8))).length : Nat) : Int)))) := by
  have e : qL G4 F (F a 8) = qL G F (F a 8) := qL_cg d_G4_F_a_8_6 c_G4_F_F_a_8_0 c_G4_F_F_a_8_1 c_G4_F_F_a_8_2 c_G4_F_F_a_8_3 c_G4_F_F_a_8_4 c_G4_F_F_a_8_5
  rcases oq22 with h | h
  · first
      | (exfalso; omega)
      | (refine Or.inr ⟨by omega, Or.inr ⟨by rw [← e]; exact h.2, by rw [c_G42_F_F_a_3_0], ?_⟩⟩
         have q := qL_len G22 F (F a 10)
         rcases oq22a with ⟨-, g⟩ | ⟨g, -⟩
         · rw [g, e] at q; omega
         · exfalso; omega)
  · first
      | (exfalso; omega)
      | (refine Or.inr ⟨by omega, Or.inl ⟨?_, rfl, by rw [c_G42_F_F_a_3_0]; exact oq38⟩⟩
         rw [← e]; exact h.2)
theorem v_X10_commit_61_13 {F : Nat → Nat → Nat} (a : Nat) (G : XG) (G38 : XG) (G42 : XG)
    (ron : RO (vw (G.2.1 (F (F a 3) 0))) (aI (G.2.1 (F (F a 3) 1))))
    (oq38a : RO (vw (G38.2.1 (F (F a 3) 0))) (aI (G38.2.1 (F (F a 3) 1))))
    (c_G42_F_F_a_3_0 : G42.2.1 (F (F a 3) 0) = G38.2.1 (F (F a 3) 0))
    (c_G42_F_F_a_3_1 : G42.2.1 (F (F a 3) 1) = G38.2.1 (F (F a 3) 1)) :
    RO (vw (G42.2.1 (F (F a 3) 0))) (aI (G42.2.1 (F (F a 3) 1))) := by
  rw [c_G42_F_F_a_3_0, c_G42_F_F_a_3_1]
  first | exact oq38a | exact ron
theorem v_X10_commit_61_14 {K : Nat → Nat} {F : Nat → Nat → Nat} (a : Nat) (G : XG) (G4 : XG) (G22 : XG) (G42 : XG) (x22 : Int32)
    (ha : K a = 12)
    (oq22 : (x22.toInt = 1 ∧ ∀ x, x ∈ qL G4 F (F a 8) → x.2.2.2.2.1 ≠ 0 → x.2.2.2.2.2 = 0) ∨ (x22.toInt = 0 ∧ ∃ x, x ∈ qL G4 F (F a 8) ∧ x.2.2.2.2.1 ≠ 0 ∧ x.2.2.2.2.2 ≠ 0))
    (oq22a : AskR (qL G4 F (F a 8)) (qL G22 F (F a 10)) x22.toInt)
    (sw : 0 ≤ ((G.1 (F a 8) 6).toInt) ∧ ((G.1 (F a 8) 6).toInt) ≤ 1080)
    (t4 : ((G4.1 (F a 14) 1).toInt) = 0)
    (f58 : ((G.1 a 18).toInt) = 0 ∨ ((G.1 a 18).toInt) = 1)
    (c11 : ((G.1 a 18).toInt) ≠ 0)
    (t22 : 0 ≤ ((G22.1 (F a 10) 6).toInt) ∧ ((G22.1 (F a 10) 6).toInt) ≤ 1080)
    (f61 : x22.toInt = 0 ∨ x22.toInt = 1)
    (c27 : ¬ (x22.toInt ≠ 0))
    (t42 : ((G42.1 a 18).toInt) = 0 ∧ ((G42.1 a 17).toInt) = 0 ∧ ((G42.1 (F a 8) 6).toInt) = 0)
    (c46 : ¬ (x22.toInt = 0))
    (c_G4_F_F_a_8_0 : G4.2.1 (F (F a 8) 0) = G.2.1 (F (F a 8) 0))
    (c_G4_F_F_a_8_1 : G4.2.1 (F (F a 8) 1) = G.2.1 (F (F a 8) 1))
    (c_G4_F_F_a_8_2 : G4.2.1 (F (F a 8) 2) = G.2.1 (F (F a 8) 2))
    (c_G4_F_F_a_8_3 : G4.2.1 (F (F a 8) 3) = G.2.1 (F (F a 8) 3))
    (c_G4_F_F_a_8_4 : G4.2.1 (F (F a 8) 4) = G.2.1 (F (F a 8) 4))
    (c_G4_F_F_a_8_5 : G4.2.1 (F (F a 8) 5) = G.2.1 (F (F a 8) 5))
    (c_G42_F_F_a_10_0 : G42.2.1 (F (F a 10) 0) = G22.2.1 (F (F a 10) 0))
    (c_G42_F_F_a_10_1 : G42.2.1 (F (F a 10) 1) = G22.2.1 (F (F a 10) 1))
    (c_G42_F_F_a_10_2 : G42.2.1 (F (F a 10) 2) = G22.2.1 (F (F a 10) 2))
    (c_G42_F_F_a_10_3 : G42.2.1 (F (F a 10) 3) = G22.2.1 (F (F a 10) 3))
    (c_G42_F_F_a_10_4 : G42.2.1 (F (F a 10) 4) = G22.2.1 (F (F a 10) 4))
    (c_G42_F_F_a_10_5 : G42.2.1 (F (F a 10) 5) = G22.2.1 (F (F a 10) 5))
    (d_G4_F_a_8_6 : G4.1 (F a 8) 6 = G.1 (F a 8) 6)
    (d_G42_F_a_10_6 : G42.1 (F a 10) 6 = G22.1 (F a 10) 6) :
    (((G.1 a 18).toInt) = 0 ∧ qL G42 F (F a 10) = qL G F (F a 10)) ∨ (((G.1 a 18).toInt) ≠ 0 ∧ ∃ ok : Int, AskR (qL G F (F a 8)) (qL G42 F (F a 10)) ok) := by
  have e : qL G4 F (F a 8) = qL G F (F a 8) := qL_cg d_G4_F_a_8_6 c_G4_F_F_a_8_0 c_G4_F_F_a_8_1 c_G4_F_F_a_8_2 c_G4_F_F_a_8_3 c_G4_F_F_a_8_4 c_G4_F_F_a_8_5
  have e9 : qL G42 F (F a 10) = qL G22 F (F a 10) := qL_cg d_G42_F_a_10_6 c_G42_F_F_a_10_0 c_G42_F_F_a_10_1 c_G42_F_F_a_10_2 c_G42_F_F_a_10_3 c_G42_F_F_a_10_4 c_G42_F_F_a_10_5
  exact Or.inr ⟨by omega, x22.toInt, by rw [← e, e9]; exact oq22a⟩
theorem v_X10_commit_16_15 {K : Nat → Nat} {F : Nat → Nat → Nat} (a : Nat) (G : XG) (G4 : XG)
    (ha : K a = 12)
    (sw : 0 ≤ ((G.1 (F a 8) 6).toInt) ∧ ((G.1 (F a 8) 6).toInt) ≤ 1080)
    (t4 : ((G4.1 (F a 14) 1).toInt) = 0)
    (f50 : ((G.1 a 18).toInt) = 0 ∨ ((G.1 a 18).toInt) = 1)
    (c11 : ¬ (((G.1 a 18).toInt) ≠ 0))
    (c_G4_F_F_a_3_0 : G4.2.1 (F (F a 3) 0) = G.2.1 (F (F a 3) 0)) :
    (((G.1 a 18).toInt) = 0 ∧ (-3 : Int) = -3 ∧ (vw (G4.2.1 (F (F a 3) 0))) = (vw (G.2.1 (F (F a 3) 0)))) ∨ (((G.1 a 18).toInt) ≠ 0 ∧ (((∃ x, x ∈ qL G F (F a 8) ∧ x.2.2.2.2.1 ≠ 0 ∧ x.2.2.2.2.2 ≠ 0) ∧ (-3 : Int) = -5 ∧ (vw (G4.2.1 (F (F a 3) 0))) = (vw (G.2.1 (F (F a 4) 0)))) ∨ ((∀ x, x ∈ qL G F (F a 8) → x.2.2.2.2.1 ≠ 0 → x.2.2.2.2.2 = 0) ∧ (vw (G4.2.1 (F (F a 3) 0))) = (vw (G.2.1 (F (F a 3) 0))) ∧ (-3 : Int) = (((ltF (qL G F (F a 8))).length : Nat) : Int)))) := by
  exact Or.inl ⟨by omega, rfl, by rw [c_G4_F_F_a_3_0]⟩
theorem v_X10_commit_16_16 {F : Nat → Nat → Nat} (a : Nat) (G : XG) (G4 : XG)
    (ron : RO (vw (G.2.1 (F (F a 3) 0))) (aI (G.2.1 (F (F a 3) 1))))
    (c_G4_F_F_a_3_0 : G4.2.1 (F (F a 3) 0) = G.2.1 (F (F a 3) 0))
    (c_G4_F_F_a_3_1 : G4.2.1 (F (F a 3) 1) = G.2.1 (F (F a 3) 1)) :
    RO (vw (G4.2.1 (F (F a 3) 0))) (aI (G4.2.1 (F (F a 3) 1))) := by
  rw [c_G4_F_F_a_3_0, c_G4_F_F_a_3_1]; exact ron
theorem v_X10_commit_16_17 {K : Nat → Nat} {F : Nat → Nat → Nat} (a : Nat) (G : XG) (G4 : XG)
    (ha : K a = 12)
    (sw : 0 ≤ ((G.1 (F a 8) 6).toInt) ∧ ((G.1 (F a 8) 6).toInt) ≤ 1080)
    (t4 : ((G4.1 (F a 14) 1).toInt) = 0)
    (f50 : ((G.1 a 18).toInt) = 0 ∨ ((G.1 a 18).toInt) = 1)
    (c11 : ¬ (((G.1 a 18).toInt) ≠ 0))
    (c_G4_F_F_a_10_0 : G4.2.1 (F (F a 10) 0) = G.2.1 (F (F a 10) 0))
    (c_G4_F_F_a_10_1 : G4.2.1 (F (F a 10) 1) = G.2.1 (F (F a 10) 1))
    (c_G4_F_F_a_10_2 : G4.2.1 (F (F a 10) 2) = G.2.1 (F (F a 10) 2))
    (c_G4_F_F_a_10_3 : G4.2.1 (F (F a 10) 3) = G.2.1 (F (F a 10) 3))
    (c_G4_F_F_a_10_4 : G4.2.1 (F (F a 10) 4) = G.2.1 (F (F a 10) 4))
    (c_G4_F_F_a_10_5 : G4.2.1 (F (F a 10) 5) = G.2.1 (F (F a 10) 5))
    (d_G4_F_a_10_6 : G4.1 (F a 10) 6 = G.1 (F a 10) 6) :
    (((G.1 a 18).toInt) = 0 ∧ qL G4 F (F a 10) = qL G F (F a 10)) ∨ (((G.1 a 18).toInt) ≠ 0 ∧ ∃ ok : Int, AskR (qL G F (F a 8)) (qL G4 F (F a 10)) ok) := by
  exact Or.inl ⟨by omega, qL_cg d_G4_F_a_10_6 c_G4_F_F_a_10_0 c_G4_F_F_a_10_1 c_G4_F_F_a_10_2 c_G4_F_F_a_10_3 c_G4_F_F_a_10_4 c_G4_F_F_a_10_5⟩
theorem z_X10_drop_1 (a0 : Int) (h0 : 0 ≤ a0 ∧ a0 < 12) : 0 ≤ a0 ∧ a0 ≤ 11 := by omega
abbrev rm_X10_drop : Room := { frames := 7, cells := 1, slots := 100, locals := 166 }
set_option maxHeartbeats 4000000 in
set_option maxRecDepth 100000 in
theorem c_X10_drop (l : Launch) (E : XE) (K : Nat → Nat) (F : Nat → Nat → Nat) (G : XG) (a : Nat) (p0 : Int32) (ha : K a = 12) : Met l yX10_drop (xw yX10_drop cX10_drop 2 (some .int)) rm_X10_drop (va_Pc [.ref a, .int p0] (XP E K F G)) (XQ E (fun v (u : XG) => ∃ r : Int32, v = .int r ∧ XFr [(F a 14, 1), (F a 2, 2)] [] [F (F a 2) 0, F (F a 2) 1] G u ∧ ((r.toInt = -2 ∧ ((p0.toInt < 0 ∨ 12 ≤ p0.toInt) ∨ G.2.2.1 (F (F a 2) 0) (p0.toInt).toNat = none) ∧ u.2.2.1 (F (F a 2) 0) = G.2.2.1 (F (F a 2) 0) ∧ u.2.2.1 (F (F a 2) 1) = G.2.2.1 (F (F a 2) 1) ∧ ((u.1 (F a 2) 2).toInt) = ((G.1 (F a 2) 2).toInt)) ∨ ((0 ≤ p0.toInt ∧ p0.toInt < 12) ∧ (∃ q : Nat, G.2.2.1 (F (F a 2) 0) (p0.toInt).toNat = some q) ∧ ((((G.1 a 18).toInt) ≠ 0 ∧ r.toInt = -3 ∧ u.2.2.1 (F (F a 2) 0) = G.2.2.1 (F (F a 2) 0) ∧ u.2.2.1 (F (F a 2) 1) = G.2.2.1 (F (F a 2) 1) ∧ ((u.1 (F a 2) 2).toInt) = ((G.1 (F a 2) 2).toInt)) ∨ (((G.1 a 18).toInt) = 0 ∧ (∀ i : Nat, u.2.2.1 (F (F a 2) 0) i = if i = (p0.toInt).toNat then none else G.2.2.1 (F (F a 2) 0) i) ∧ BO u F (F a 2) ∧ r.toInt = ((u.1 (F a 2) 2).toInt))))) ∧ (∀ (i q : Nat), u.2.2.1 (F (F a 2) 1) i = some q → (∃ j : Nat, G.2.2.1 (F (F a 2) 1) j = some q) ∨ ∃ j : Nat, u.2.2.1 (F (F a 2) 0) j = some q)) (fun u H => TW E K F u H)) 1 100 (xA E) := by
  refine x_enter (by decide) (Nat.le_of_ble_eq_true rfl) ?_
  intro p e s m args below meth c Q S hr hlk hnm hQ hP ls hl
  obtain ⟨hz, hK, hT⟩ := hP
  obtain ⟨hx, hb, -, -, -⟩ := id S
  obtain ⟨H, hT, hS, hgo⟩ : ∃ H : Heap, TW E K F G H ∧ va_S (xA E) s.heap H [] ∧ H = s.heap := ⟨_, hT, va_S.rf, rfl⟩
  rw [← hgo]
  have hl : lv_has ls 2 [(0, .ref a), (1, .int p0)] := hl
  obtain ⟨hk9999, hj9999⟩ := fkX10_14 hT ha
  obtain ⟨hk9999a, hj9999a⟩ := fkX10_2 hT ha
  obtain ⟨hk9999b, hj9999b⟩ := fkX0_0 hT hk9999a
  obtain ⟨hk9999c, hj9999c⟩ := fkX0_1 hT hk9999a
  refine lv_aload_n hx hb dX10_drop_0 rfl (lv_at hl 0 rfl) ?_
  refine gX10_14 S hK hT ha kf_X10_91 dX10_drop_1 (fun _ _ => ?_)
  refine x_cv (x_runV (b := (F a 14)) (As := []) (rest := []) S (c_X9_clear l E K F G (F a 14) hk9999) mv_X9_clear km_X10_113 rfl rfl ⟨Nat.le_of_ble_eq_true rfl, Nat.le_of_ble_eq_true rfl⟩ (rc_11 hK hT hk9999) hK (fun _ => XP.blind) (fun U hU hW => XP.at hK hz hS hT hU hW) rfl hl.1 (Nat.le_of_ble_eq_true rfl) dX10_drop_4 ⟨Nat.le_of_ble_eq_true rfl, Nat.le_of_ble_eq_true rfl⟩) hS ?_
  rintro G4 H locs ⟨hF4, t4⟩ hT hS
  have t4 : ((G4.1 (F a 14) 1).toInt) = 0 := t4
  refine lv_aload_n hx hb dX10_drop_7 rfl (lv_at hl 0 rfl) ?_
  refine gX10_2 S hK hT ha kf_X10_30 dX10_drop_8 (fun _ _ => ?_)
  refine lv_iload_n hx hb dX10_drop_11 rfl (lv_at hl 1 rfl) ?_
  refine x_clp (x_runV (b := (F a 2)) (As := [.int p0]) (rest := []) S (c_X0_get l E K F G4 H (F a 2) p0 hk9999a) mv_X0_get km_X10_159 rfl rfl ⟨Nat.le_of_ble_eq_true rfl, Nat.le_of_ble_eq_true rfl⟩ (rc_2 hK hT hk9999a) hK (fun _ => XPh.blind) (fun U hU hW => XPh.at hK hz hS hT hU hW) rfl hl.1 (Nat.le_of_ble_eq_true rfl) dX10_drop_12 ⟨Nat.le_of_ble_eq_true rfl, Nat.le_of_ble_eq_true rfl⟩) hS ?_
  rintro _ _ locs (⟨rfl, hn12⟩ | ⟨q12, rfl, hk12, ht12, hs12⟩) hS
  · refine lv_ifnonnullN hx hb dX10_drop_15 ?_
    refine lv_bipush (v := (-2)) hx hb dX10_drop_18 (by decide) ?_
    exact x_ri hx hb hr hlk hQ (Nat.le_of_ble_eq_true rfl) (Nat.le_of_ble_eq_true rfl) hS dX10_drop_20 G4 ⟨_, rfl, (XFr.call XFr.rf hF4 (xm1 0 rfl xm0) xm0 xm0), (by rw [((by decide) : Int32.toInt (-2) = (-2 : Int))] <;> exact (v_X10_drop_20_1 (F := F) a G G4 p0 hn12 (hF4.2.2 _ xn0) (hF4.2.2 _ xn0) (hF4.1 _ _ (xnj (by decide) xn0)))), (v_X10_drop_20_2 (F := F) a G G4 (hF4.2.2 _ xn0))⟩ hT
  · have ht12 : 0 ≤ p0.toInt ∧ p0.toInt < 12 := ht12
    refine lv_ifnonnull (tgt := 21) hx hb dX10_drop_15 (by decide) ?_
    refine lv_aload_n hx hb dX10_drop_21 rfl (lv_at hl 0 rfl) ?_
    refine gX10_18 S hK hT ha kf_X10_123 dX10_drop_22 (v := (G.1 a 18)) (hF4.1 _ _ (xnj (by decide) xn0)) (fun hz22 => ?_)
    refine xi_zeq (tgt := 31) hx hb (rfl : Int32.toInt (G.1 a 18) = ((G.1 a 18).toInt)) dX10_drop_25 (by decide) (fun c25 => ?_) (fun c25 => ?_)
    · refine lv_aload_n hx hb dX10_drop_31 rfl (lv_at hl 0 rfl) ?_
      refine gX10_2 S hK hT ha kf_X10_30 dX10_drop_32 (fun _ _ => ?_)
      refine lv_iload_n hx hb dX10_drop_35 rfl (lv_at hl 1 rfl) ?_
      refine x_cv0 (x_runV (b := (F a 2)) (As := [.int p0]) (rest := []) S (c_X0_strike l E K F G4 (F a 2) p0 hk9999a (z_X10_drop_1 p0.toInt ht12)) mv_X0_strike km_X10_163 rfl rfl ⟨Nat.le_of_ble_eq_true rfl, Nat.le_of_ble_eq_true rfl⟩ (rc_2 hK hT hk9999a) hK (fun _ => XP.blind) (fun U hU hW => XP.at hK hz hS hT hU hW) rfl hl.1 (Nat.le_of_ble_eq_true rfl) dX10_drop_36 ⟨Nat.le_of_ble_eq_true rfl, Nat.le_of_ble_eq_true rfl⟩) hS ?_
      rintro G36 H locs ⟨hF36, oq36, oq36a, oq36b⟩ hT hS
      refine lv_aload_n hx hb dX10_drop_39 rfl (lv_at hl 0 rfl) ?_
      refine gX10_2 S hK hT ha kf_X10_30 dX10_drop_40 (fun _ _ => ?_)
      refine x_clp (x_runV (b := (F a 2)) (As := []) (rest := []) S (c_X0_size l E K F G36 H (F a 2) hk9999a) mv_X0_size km_X10_167 rfl rfl ⟨Nat.le_of_ble_eq_true rfl, Nat.le_of_ble_eq_true rfl⟩ (rc_2 hK hT hk9999a) hK (fun _ => XPh.blind) (fun U hU hW => XPh.at hK hz hS hT hU hW) rfl hl.1 (Nat.le_of_ble_eq_true rfl) dX10_drop_43 ⟨Nat.le_of_ble_eq_true rfl, Nat.le_of_ble_eq_true rfl⟩) hS ?_
      rintro _ _ locs ⟨x43, rfl, t43⟩ hS
      have t43 : x43.toInt = ((G36.1 (F a 2) 2).toInt) := t43
      exact x_ri hx hb hr hlk hQ (Nat.le_of_ble_eq_true rfl) (Nat.le_of_ble_eq_true rfl) hS dX10_drop_46 G36 ⟨_, rfl, (XFr.call (XFr.call XFr.rf hF4 (xm1 0 rfl xm0) xm0 xm0) hF36 (xm1 1 rfl xm0) xm0 (xm1 0 rfl (xm1 1 rfl xm0))), (by rw [(t43 : Int32.toInt x43 = ((G36.1 (F a 2) 2).toInt))] <;> exact (v_X10_drop_46_3 (K := K) (F := F) a q12 G G4 G36 p0 ha hs12 oq36 oq36a t4 ht12 (xzi hz22) c25 (hF4.2.2 _ xn0))), (v_X10_drop_46_4 (F := F) a G G4 G36 oq36b (hF4.2.2 _ xn0))⟩ hT
    · refine lv_bipush (v := (-3)) hx hb dX10_drop_28 (by decide) ?_
      exact x_ri hx hb hr hlk hQ (Nat.le_of_ble_eq_true rfl) (Nat.le_of_ble_eq_true rfl) hS dX10_drop_30 G4 ⟨_, rfl, (XFr.call XFr.rf hF4 (xm1 0 rfl xm0) xm0 xm0), (by rw [((by decide) : Int32.toInt (-3) = (-3 : Int))] <;> exact (v_X10_drop_30_5 (K := K) (F := F) a q12 G G4 p0 ha hs12 t4 ht12 (xzi hz22) c25 (hF4.2.2 _ xn0) (hF4.2.2 _ xn0) (hF4.1 _ _ (xnj (by decide) xn0)))), (v_X10_drop_30_6 (F := F) a G G4 (hF4.2.2 _ xn0))⟩ hT

theorem z_X10_commit_2 (a0 : Int) (a1 : Int) (a2 : Int) (a3 : Int) (a4 : Int) (a5 : Int) (h0 : a2 ≠ 0) (h1 : a5 = 0 ∧ a4 = 0 ∧ a3 = 0) : (a2 = 0 ∧ a5 = a2 ∧ a4 = a1 ∧ a3 = a0) ∨ (a2 ≠ 0 ∧ a5 = 0 ∧ a4 = 0 ∧ a3 = 0) := by omega
theorem z_X10_commit_6 (a0 : Int) (a1 : Int) (a2 : Int) (h0 : ¬ (a2 ≠ 0)) : (a2 = 0 ∧ a2 = a2 ∧ a1 = a1 ∧ a0 = a0) ∨ (a2 ≠ 0 ∧ a2 = 0 ∧ a1 = 0 ∧ a0 = 0) := by omega
abbrev rm_X10_commit : Room := { frames := 9, cells := 8, slots := 800, locals := 216 }
set_option maxHeartbeats 4000000 in
set_option maxRecDepth 100000 in
theorem c_X10_commit (l : Launch) (E : XE) (K : Nat → Nat) (F : Nat → Nat → Nat) (G : XG) (a : Nat) (ha : K a = 12) (sw : 0 ≤ ((G.1 (F a 8) 6).toInt) ∧ ((G.1 (F a 8) 6).toInt) ≤ 1080) (ron : RO (vw (G.2.1 (F (F a 3) 0))) (aI (G.2.1 (F (F a 3) 1)))) (rob : RO (vw (G.2.1 (F (F a 4) 0))) (aI (G.2.1 (F (F a 4) 1)))) : Met l yX10_commit (xw yX10_commit cX10_commit 2 (some .int)) rm_X10_commit (va_Pc [.ref a] (XP E K F G)) (XQ E (fun v (u : XG) => ∃ r : Int32, v = .int r ∧ XFr [(F a 14, 1), (F a 14, 2), (F a 14, 3), (a, 18), (a, 17), (F a 8, 6), (F a 10, 6)] [F a 16, F (F a 10) 0, F (F a 10) 1, F (F a 10) 2, F (F a 10) 3, F (F a 10) 4, F (F a 10) 5, F (F a 3) 0, F (F a 3) 1] [] G u ∧ ((((G.1 a 18).toInt) = 0 ∧ ((u.1 a 18).toInt) = ((G.1 a 18).toInt) ∧ ((u.1 a 17).toInt) = ((G.1 a 17).toInt) ∧ ((u.1 (F a 8) 6).toInt) = ((G.1 (F a 8) 6).toInt)) ∨ (((G.1 a 18).toInt) ≠ 0 ∧ ((u.1 a 18).toInt) = 0 ∧ ((u.1 a 17).toInt) = 0 ∧ ((u.1 (F a 8) 6).toInt) = 0)) ∧ ((((G.1 a 18).toInt) = 0 ∧ r.toInt = -3 ∧ (vw (u.2.1 (F (F a 3) 0))) = (vw (G.2.1 (F (F a 3) 0)))) ∨ (((G.1 a 18).toInt) ≠ 0 ∧ (((∃ x, x ∈ qL G F (F a 8) ∧ x.2.2.2.2.1 ≠ 0 ∧ x.2.2.2.2.2 ≠ 0) ∧ r.toInt = -5 ∧ (vw (u.2.1 (F (F a 3) 0))) = (vw (G.2.1 (F (F a 4) 0)))) ∨ ((∀ x, x ∈ qL G F (F a 8) → x.2.2.2.2.1 ≠ 0 → x.2.2.2.2.2 = 0) ∧ (vw (u.2.1 (F (F a 3) 0))) = (vw (G.2.1 (F (F a 3) 0))) ∧ r.toInt = (((ltF (qL G F (F a 8))).length : Nat) : Int))))) ∧ (RO (vw (u.2.1 (F (F a 3) 0))) (aI (u.2.1 (F (F a 3) 1)))) ∧ ((((G.1 a 18).toInt) = 0 ∧ qL u F (F a 10) = qL G F (F a 10)) ∨ (((G.1 a 18).toInt) ≠ 0 ∧ ∃ ok : Int, AskR (qL G F (F a 8)) (qL u F (F a 10)) ok))) (fun u H => TW E K F u H)) 8 800 (xA E) := by
  refine x_enter (by decide) (Nat.le_of_ble_eq_true rfl) ?_
  intro p e s m args below meth c Q S hr hlk hnm hQ hP ls hl
  obtain ⟨hz, hK, hT⟩ := hP
  obtain ⟨hx, hb, -, -, -⟩ := id S
  obtain ⟨H, hT, hS, hgo⟩ : ∃ H : Heap, TW E K F G H ∧ va_S (xA E) s.heap H [] ∧ H = s.heap := ⟨_, hT, va_S.rf, rfl⟩
  rw [← hgo]
  have hl : lv_has ls 2 [(0, .ref a)] := hl
  obtain ⟨hk9999, hj9999⟩ := fkX10_14 hT ha
  obtain ⟨hk9999a, hj9999a⟩ := fkX10_8 hT ha
  obtain ⟨hk9999b, hj9999b⟩ := fkX10_10 hT ha
  obtain ⟨hk9999c, hj9999c⟩ := fkX10_16 hT ha
  obtain ⟨hk9999d, hj9999d⟩ := fkX4_0 hT hk9999b
  have hj9999e : F (F (F a 10) 0) 99 = 10 * 2 + 0 := by rw [hj9999d, hj9999b]
  obtain ⟨hk9999e, hj9999f⟩ := fkX4_1 hT hk9999b
  have hj9999g : F (F (F a 10) 1) 99 = 10 * 2 + 1 := by rw [hj9999f, hj9999b]
  obtain ⟨hk9999f, hj9999h⟩ := fkX4_2 hT hk9999b
  have hj9999i : F (F (F a 10) 2) 99 = 10 * 2 + 2 := by rw [hj9999h, hj9999b]
  obtain ⟨hk9999g, hj9999j⟩ := fkX4_3 hT hk9999b
  have hj9999k : F (F (F a 10) 3) 99 = 10 * 2 + 3 := by rw [hj9999j, hj9999b]
  obtain ⟨hk9999h, hj9999l⟩ := fkX4_4 hT hk9999b
  have hj9999m : F (F (F a 10) 4) 99 = 10 * 2 + 4 := by rw [hj9999l, hj9999b]
  obtain ⟨hk9999i, hj9999n⟩ := fkX4_5 hT hk9999b
  have hj9999o : F (F (F a 10) 5) 99 = 10 * 2 + 5 := by rw [hj9999n, hj9999b]
  obtain ⟨hk9999j, hj9999p⟩ := fkX10_3 hT ha
  obtain ⟨hk9999k, hj9999q⟩ := fkX6_0 hT hk9999j
  have hj9999r : F (F (F a 3) 0) 99 = 0 := by rw [hj9999q, hj9999p]
  obtain ⟨hk9999l, hj9999s⟩ := fkX6_1 hT hk9999j
  have hj9999t : F (F (F a 3) 1) 99 = 0 := by rw [hj9999s, hj9999p]
  obtain ⟨hk9999m, hj9999u⟩ := fkX10_4 hT ha
  obtain ⟨hk9999n, hj9999v⟩ := fkX6_0 hT hk9999m
  have hj9999w : F (F (F a 4) 0) 99 = 1 := by rw [hj9999v, hj9999u]
  obtain ⟨hk9999o, hj9999y⟩ := fkX6_1 hT hk9999m
  have hj9999z25 : F (F (F a 4) 1) 99 = 1 := by rw [hj9999y, hj9999u]
  obtain ⟨hk9999p, hj9999z26⟩ := fkX4_0 hT hk9999a
  have hj9999z27 : F (F (F a 8) 0) 99 = 10 * 0 + 0 := by rw [hj9999z26, hj9999a]
  obtain ⟨hk9999q, hj9999z28⟩ := fkX4_1 hT hk9999a
  have hj9999z29 : F (F (F a 8) 1) 99 = 10 * 0 + 1 := by rw [hj9999z28, hj9999a]
  obtain ⟨hk9999r, hj9999z30⟩ := fkX4_2 hT hk9999a
  have hj9999z31 : F (F (F a 8) 2) 99 = 10 * 0 + 2 := by rw [hj9999z30, hj9999a]
  obtain ⟨hk9999s, hj9999z32⟩ := fkX4_3 hT hk9999a
  have hj9999z33 : F (F (F a 8) 3) 99 = 10 * 0 + 3 := by rw [hj9999z32, hj9999a]
  obtain ⟨hk9999t, hj9999z34⟩ := fkX4_4 hT hk9999a
  have hj9999z35 : F (F (F a 8) 4) 99 = 10 * 0 + 4 := by rw [hj9999z34, hj9999a]
  obtain ⟨hk9999u, hj9999z36⟩ := fkX4_5 hT hk9999a
  have hj9999z37 : F (F (F a 8) 5) 99 = 10 * 0 + 5 := by rw [hj9999z36, hj9999a]
  refine lv_aload_n hx hb dX10_commit_0 rfl (lv_at hl 0 rfl) ?_
  refine gX10_14 S hK hT ha kf_X10_91 dX10_commit_1 (fun _ _ => ?_)
  refine x_cv (x_runV (b := (F a 14)) (As := []) (rest := []) S (c_X9_clear l E K F G (F a 14) hk9999) mv_X9_clear km_X10_113 rfl rfl ⟨Nat.le_of_ble_eq_true rfl, Nat.le_of_ble_eq_true rfl⟩ (rc_11 hK hT hk9999) hK (fun _ => XP.blind) (fun U hU hW => XP.at hK hz hS hT hU hW) rfl hl.1 (Nat.le_of_ble_eq_true rfl) dX10_commit_4 ⟨Nat.le_of_ble_eq_true rfl, Nat.le_of_ble_eq_true rfl⟩) hS ?_
  rintro G4 H locs ⟨hF4, t4⟩ hT hS
  have t4 : ((G4.1 (F a 14) 1).toInt) = 0 := t4
  refine lv_aload_n hx hb dX10_commit_7 rfl (lv_at hl 0 rfl) ?_
  refine gX10_18 S hK hT ha kf_X10_123 dX10_commit_8 (v := (G.1 a 18)) (hF4.1 _ _ (xnj (by decide) xn0)) (fun hz8 => ?_)
  refine xi_zne (tgt := 17) hx hb (rfl : Int32.toInt (G.1 a 18) = ((G.1 a 18).toInt)) dX10_commit_11 (by decide) (fun c11 => ?_) (fun c11 => ?_)
  · refine lv_aload_n hx hb dX10_commit_17 rfl (lv_at hl 0 rfl) ?_
    refine lv_aload_n hx hb dX10_commit_18 rfl (lv_at hl 0 rfl) ?_
    refine gX10_8 S hK hT ha kf_X10_57 dX10_commit_19 (fun _ _ => ?_)
    refine x_cl (x_runV (b := a) (As := [.ref (F a 8)]) (rest := []) S (c_X10_askToCommit l E K F G4 a (F a 8) ha hk9999a (by rw [(show (G4.1 (F a 8) 6).toInt = ((G.1 (F a 8) 6).toInt) from (congrArg Int32.toInt (hF4.1 _ _ (xnj (by decide) xn0))).trans (rfl : Int32.toInt (G.1 (F a 8) 6) = ((G.1 (F a 8) 6).toInt)))] <;> exact (sw)) (v_X10_commit_22_1 (K := K) (F := F) a G G4 ha hk9999 hj9999 hk9999a hj9999a hk9999b hj9999b hk9999c hj9999c hk9999d hj9999e hk9999e hj9999g hk9999f hj9999i hk9999g hj9999k hk9999h hj9999m hk9999i hj9999o hk9999j hj9999p hk9999k hj9999r hk9999l hj9999t hk9999m hj9999u hk9999n hj9999w hk9999o hj9999z25 hk9999p hj9999z27 hk9999q hj9999z29 hk9999r hj9999z31 hk9999s hj9999z33 hk9999t hj9999z35 hk9999u hj9999z37 sw t4 (xzi hz8) c11)) mv_X10_askToCommit km_X10_225 rfl rfl ⟨Nat.le_of_ble_eq_true rfl, Nat.le_of_ble_eq_true rfl⟩ (rc_12 hK hT ha) hK (fun _ => XP.blind) (fun U hU hW => XP.at hK hz hS hT hU hW) rfl hl.1 (Nat.le_of_ble_eq_true rfl) dX10_commit_22 ⟨Nat.le_of_ble_eq_true rfl, Nat.le_of_ble_eq_true rfl⟩) hS ?_
    rintro _ G22 H locs ⟨x22, rfl, b22, hF22, t22, oq22, oq22a⟩ hT hS
    have t22 : 0 ≤ ((G22.1 (F a 10) 6).toInt) ∧ ((G22.1 (F a 10) 6).toInt) ≤ 1080 := t22
    refine lv_istore_n (lv' := [(1, .int x22), (0, .ref a)]) hx hb dX10_commit_25 rfl hl (by decide) rfl (fun ls hl => ?_)
    refine lv_iload_n hx hb dX10_commit_26 rfl (lv_at hl 0 rfl) ?_
    refine xi_zne (tgt := 41) hx hb (rfl : Int32.toInt x22 = x22.toInt) dX10_commit_27 (by decide) (fun c27 => ?_) (fun c27 => ?_)
    · refine lv_aload_n hx hb dX10_commit_41 rfl (lv_at hl 1 rfl) ?_
      refine x_cv0 (x_runV (b := a) (As := []) (rest := []) S (c_X10_close l E K F G22 a ha) mv_X10_close km_X10_229 rfl rfl ⟨Nat.le_of_ble_eq_true rfl, Nat.le_of_ble_eq_true rfl⟩ (rc_12 hK hT ha) hK (fun _ => XP.blind) (fun U hU hW => XP.at hK hz hS hT hU hW) rfl hl.1 (Nat.le_of_ble_eq_true rfl) dX10_commit_42 ⟨Nat.le_of_ble_eq_true rfl, Nat.le_of_ble_eq_true rfl⟩) hS ?_
      rintro G42 H locs ⟨hF42, t42⟩ hT hS
      have t42 : ((G42.1 a 18).toInt) = 0 ∧ ((G42.1 a 17).toInt) = 0 ∧ ((G42.1 (F a 8) 6).toInt) = 0 := t42
      refine lv_iload_n hx hb dX10_commit_45 rfl (lv_at hl 0 rfl) ?_
      refine xi_zeq (tgt := 59) hx hb (rfl : Int32.toInt x22 = x22.toInt) dX10_commit_46 (by decide) (fun c46 => ?_) (fun c46 => ?_)
      · refine lv_bipush (v := (-5)) hx hb dX10_commit_59 (by decide) ?_
        exact x_ri hx hb hr hlk hQ (Nat.le_of_ble_eq_true rfl) (Nat.le_of_ble_eq_true rfl) hS dX10_commit_61 G42 ⟨_, rfl, (XFr.call (XFr.call (XFr.call XFr.rf hF4 (xm1 0 rfl xm0) xm0 xm0) hF22 (xm1 0 rfl (xm1 1 rfl (xm1 2 rfl (xm1 6 rfl xm0)))) (xm1 0 rfl (xm1 1 rfl (xm1 2 rfl (xm1 3 rfl (xm1 4 rfl (xm1 5 rfl (xm1 6 rfl xm0))))))) xm0) hF42 (xm1 3 rfl (xm1 4 rfl (xm1 5 rfl xm0))) xm0 xm0), (z_X10_commit_2 ((G.1 (F a 8) 6).toInt) ((G.1 a 17).toInt) ((G.1 a 18).toInt) ((G42.1 (F a 8) 6).toInt) ((G42.1 a 17).toInt) ((G42.1 a 18).toInt) c11 t42), (by rw [((by decide) : Int32.toInt (-5) = (-5 : Int))] <;> exact (v_X10_commit_61_2 (K := K) (F := F) a G G4 G22 G42 x22 ha oq22 oq22a sw t4 (xzi hz8) c11 t22 (xzi b22) c27 t42 c46 (hF4.2.1 _ xn0) (hF4.2.1 _ xn0) (hF4.2.1 _ xn0) (hF4.2.1 _ xn0) (hF4.2.1 _ xn0) (hF4.2.1 _ xn0) ((hF42.2.1 _ xn0).trans ((hF22.2.1 _ (xn1 (xne_k hk9999k hk9999c (by decide)) (xn1 (xne_k hk9999k hk9999d (by decide)) (xn1 (xne_k hk9999k hk9999e (by decide)) (xn1 (xne_k hk9999k hk9999f (by decide)) (xn1 (xne_k hk9999k hk9999g (by decide)) (xn1 (xne_k hk9999k hk9999h (by decide)) (xn1 (xne_k hk9999k hk9999i (by decide)) xn0)))))))).trans (hF4.2.1 _ xn0))) (hF4.1 _ _ (xnj (by decide) xn0)))), (v_X10_commit_61_3 (F := F) a G G42 ron ((hF42.2.1 _ xn0).trans ((hF22.2.1 _ (xn1 (xne_k hk9999k hk9999c (by decide)) (xn1 (xne_k hk9999k hk9999d (by decide)) (xn1 (xne_k hk9999k hk9999e (by decide)) (xn1 (xne_k hk9999k hk9999f (by decide)) (xn1 (xne_k hk9999k hk9999g (by decide)) (xn1 (xne_k hk9999k hk9999h (by decide)) (xn1 (xne_k hk9999k hk9999i (by decide)) xn0)))))))).trans (hF4.2.1 _ xn0))) ((hF42.2.1 _ xn0).trans ((hF22.2.1 _ (xn1 (xne_k hk9999l hk9999c (by decide)) (xn1 (xne_k hk9999l hk9999d (by decide)) (xn1 (xne_k hk9999l hk9999e (by decide)) (xn1 (xne_k hk9999l hk9999f (by decide)) (xn1 (xne_k hk9999l hk9999g (by decide)) (xn1 (xne_k hk9999l hk9999h (by decide)) (xn1 (xne_k hk9999l hk9999i (by decide)) xn0)))))))).trans (hF4.2.1 _ xn0)))), (v_X10_commit_61_4 (K := K) (F := F) a G G4 G22 G42 x22 ha oq22 oq22a sw t4 (xzi hz8) c11 t22 (xzi b22) c27 t42 c46 (hF4.2.1 _ xn0) (hF4.2.1 _ xn0) (hF4.2.1 _ xn0) (hF4.2.1 _ xn0) (hF4.2.1 _ xn0) (hF4.2.1 _ xn0) (hF42.2.1 _ xn0) (hF42.2.1 _ xn0) (hF42.2.1 _ xn0) (hF42.2.1 _ xn0) (hF42.2.1 _ xn0) (hF42.2.1 _ xn0) (hF4.1 _ _ (xnj (by decide) xn0)) (hF42.1 _ _ (xnj (by decide) (xnj (by decide) (xna (xne_j hj9999b hj9999a (by first | decide | omega)) xn0)))))⟩ hT
      · refine lv_aload_n hx hb dX10_commit_49 rfl (lv_at hl 1 rfl) ?_
        refine gX10_10 S hK hT ha kf_X10_64 dX10_commit_50 (fun _ _ => ?_)
        refine x_clp (x_runV (b := (F a 10)) (As := []) (rest := []) S (c_X4_size l E K F G42 H (F a 10) hk9999b) mv_X4_size km_X10_232 rfl rfl ⟨Nat.le_of_ble_eq_true rfl, Nat.le_of_ble_eq_true rfl⟩ (rc_6 hK hT hk9999b) hK (fun _ => XPh.blind) (fun U hU hW => XPh.at hK hz hS hT hU hW) rfl hl.1 (Nat.le_of_ble_eq_true rfl) dX10_commit_53 ⟨Nat.le_of_ble_eq_true rfl, Nat.le_of_ble_eq_true rfl⟩) hS ?_
        rintro _ _ locs ⟨x53, rfl, t53⟩ hS
        have t53 : x53.toInt = ((G22.1 (F a 10) 6).toInt) := by rw [(show (G42.1 (F a 10) 6).toInt = ((G22.1 (F a 10) 6).toInt) from (congrArg Int32.toInt (hF42.1 _ _ (xnj (by decide) (xnj (by decide) (xna (xne_j hj9999b hj9999a (by first | decide | omega)) xn0))))).trans (rfl : Int32.toInt (G22.1 (F a 10) 6) = ((G22.1 (F a 10) 6).toInt)))] at t53; exact t53
        refine lv_goto (tgt := 61) hx hb dX10_commit_56 (by decide) ?_
        exact x_ri hx hb hr hlk hQ (Nat.le_of_ble_eq_true rfl) (Nat.le_of_ble_eq_true rfl) hS dX10_commit_61 G42 ⟨_, rfl, (XFr.call (XFr.call (XFr.call XFr.rf hF4 (xm1 0 rfl xm0) xm0 xm0) hF22 (xm1 0 rfl (xm1 1 rfl (xm1 2 rfl (xm1 6 rfl xm0)))) (xm1 0 rfl (xm1 1 rfl (xm1 2 rfl (xm1 3 rfl (xm1 4 rfl (xm1 5 rfl (xm1 6 rfl xm0))))))) xm0) hF42 (xm1 3 rfl (xm1 4 rfl (xm1 5 rfl xm0))) xm0 xm0), (z_X10_commit_2 ((G.1 (F a 8) 6).toInt) ((G.1 a 17).toInt) ((G.1 a 18).toInt) ((G42.1 (F a 8) 6).toInt) ((G42.1 a 17).toInt) ((G42.1 a 18).toInt) c11 t42), (by rw [(t53 : Int32.toInt x53 = ((G22.1 (F a 10) 6).toInt))] <;> exact (v_X10_commit_61_5 (K := K) (F := F) a G G4 G22 G42 x22 ha oq22 oq22a sw t4 (xzi hz8) c11 t22 (xzi b22) c27 t42 c46 (hF4.2.1 _ xn0) (hF4.2.1 _ xn0) (hF4.2.1 _ xn0) (hF4.2.1 _ xn0) (hF4.2.1 _ xn0) (hF4.2.1 _ xn0) ((hF42.2.1 _ xn0).trans ((hF22.2.1 _ (xn1 (xne_k hk9999k hk9999c (by decide)) (xn1 (xne_k hk9999k hk9999d (by decide)) (xn1 (xne_k hk9999k hk9999e (by decide)) (xn1 (xne_k hk9999k hk9999f (by decide)) (xn1 (xne_k hk9999k hk9999g (by decide)) (xn1 (xne_k hk9999k hk9999h (by decide)) (xn1 (xne_k hk9999k hk9999i (by decide)) xn0)))))))).trans (hF4.2.1 _ xn0))) (hF4.1 _ _ (xnj (by decide) xn0)))), (v_X10_commit_61_6 (F := F) a G G42 ron ((hF42.2.1 _ xn0).trans ((hF22.2.1 _ (xn1 (xne_k hk9999k hk9999c (by decide)) (xn1 (xne_k hk9999k hk9999d (by decide)) (xn1 (xne_k hk9999k hk9999e (by decide)) (xn1 (xne_k hk9999k hk9999f (by decide)) (xn1 (xne_k hk9999k hk9999g (by decide)) (xn1 (xne_k hk9999k hk9999h (by decide)) (xn1 (xne_k hk9999k hk9999i (by decide)) xn0)))))))).trans (hF4.2.1 _ xn0))) ((hF42.2.1 _ xn0).trans ((hF22.2.1 _ (xn1 (xne_k hk9999l hk9999c (by decide)) (xn1 (xne_k hk9999l hk9999d (by decide)) (xn1 (xne_k hk9999l hk9999e (by decide)) (xn1 (xne_k hk9999l hk9999f (by decide)) (xn1 (xne_k hk9999l hk9999g (by decide)) (xn1 (xne_k hk9999l hk9999h (by decide)) (xn1 (xne_k hk9999l hk9999i (by decide)) xn0)))))))).trans (hF4.2.1 _ xn0)))), (v_X10_commit_61_7 (K := K) (F := F) a G G4 G22 G42 x22 ha oq22 oq22a sw t4 (xzi hz8) c11 t22 (xzi b22) c27 t42 c46 (hF4.2.1 _ xn0) (hF4.2.1 _ xn0) (hF4.2.1 _ xn0) (hF4.2.1 _ xn0) (hF4.2.1 _ xn0) (hF4.2.1 _ xn0) (hF42.2.1 _ xn0) (hF42.2.1 _ xn0) (hF42.2.1 _ xn0) (hF42.2.1 _ xn0) (hF42.2.1 _ xn0) (hF42.2.1 _ xn0) (hF4.1 _ _ (xnj (by decide) xn0)) (hF42.1 _ _ (xnj (by decide) (xnj (by decide) (xna (xne_j hj9999b hj9999a (by first | decide | omega)) xn0)))))⟩ hT
    · refine lv_aload_n hx hb dX10_commit_30 rfl (lv_at hl 1 rfl) ?_
      refine gX10_3 S hK hT ha kf_X10_37 dX10_commit_31 (fun _ _ => ?_)
      refine lv_aload_n hx hb dX10_commit_34 rfl (lv_at hl 1 rfl) ?_
      refine gX10_4 S hK hT ha kf_X10_41 dX10_commit_35 (fun _ _ => ?_)
      refine x_cv0 (x_runV (b := (F a 3)) (As := [.ref (F a 4)]) (rest := []) S (c_X6_copy l E K F G22 (F a 3) (F a 4) hk9999j hk9999m (v_X10_commit_38_8 (F := F) a G G22 ron rob ((hF22.2.1 _ (xn1 (xne_k hk9999n hk9999c (by decide)) (xn1 (xne_k hk9999n hk9999d (by decide)) (xn1 (xne_k hk9999n hk9999e (by decide)) (xn1 (xne_k hk9999n hk9999f (by decide)) (xn1 (xne_k hk9999n hk9999g (by decide)) (xn1 (xne_k hk9999n hk9999h (by decide)) (xn1 (xne_k hk9999n hk9999i (by decide)) xn0)))))))).trans (hF4.2.1 _ xn0)) ((hF22.2.1 _ (xn1 (xne_k hk9999o hk9999c (by decide)) (xn1 (xne_k hk9999o hk9999d (by decide)) (xn1 (xne_k hk9999o hk9999e (by decide)) (xn1 (xne_k hk9999o hk9999f (by decide)) (xn1 (xne_k hk9999o hk9999g (by decide)) (xn1 (xne_k hk9999o hk9999h (by decide)) (xn1 (xne_k hk9999o hk9999i (by decide)) xn0)))))))).trans (hF4.2.1 _ xn0)))) mv_X6_copy km_X10_195 rfl rfl ⟨Nat.le_of_ble_eq_true rfl, Nat.le_of_ble_eq_true rfl⟩ (rc_8 hK hT hk9999j) hK (fun _ => XP.blind) (fun U hU hW => XP.at hK hz hS hT hU hW) rfl hl.1 (Nat.le_of_ble_eq_true rfl) dX10_commit_38 ⟨Nat.le_of_ble_eq_true rfl, Nat.le_of_ble_eq_true rfl⟩) hS ?_
      rintro G38 H locs ⟨hF38, oq38, oq38a⟩ hT hS
      have oq38 : (vw (G38.2.1 (F (F a 3) 0))) = (vw (G.2.1 (F (F a 4) 0))) := by simp only [(show G22.2.1 (F (F a 4) 0) = G.2.1 (F (F a 4) 0) from ((hF22.2.1 _ (xn1 (xne_k hk9999n hk9999c (by decide)) (xn1 (xne_k hk9999n hk9999d (by decide)) (xn1 (xne_k hk9999n hk9999e (by decide)) (xn1 (xne_k hk9999n hk9999f (by decide)) (xn1 (xne_k hk9999n hk9999g (by decide)) (xn1 (xne_k hk9999n hk9999h (by decide)) (xn1 (xne_k hk9999n hk9999i (by decide)) xn0)))))))).trans (hF4.2.1 _ xn0)))] at oq38; exact oq38
      refine lv_aload_n hx hb dX10_commit_41 rfl (lv_at hl 1 rfl) ?_
      refine x_cv0 (x_runV (b := a) (As := []) (rest := []) S (c_X10_close l E K F G38 a ha) mv_X10_close km_X10_229 rfl rfl ⟨Nat.le_of_ble_eq_true rfl, Nat.le_of_ble_eq_true rfl⟩ (rc_12 hK hT ha) hK (fun _ => XP.blind) (fun U hU hW => XP.at hK hz hS hT hU hW) rfl hl.1 (Nat.le_of_ble_eq_true rfl) dX10_commit_42 ⟨Nat.le_of_ble_eq_true rfl, Nat.le_of_ble_eq_true rfl⟩) hS ?_
      rintro G42 H locs ⟨hF42, t42⟩ hT hS
      have t42 : ((G42.1 a 18).toInt) = 0 ∧ ((G42.1 a 17).toInt) = 0 ∧ ((G42.1 (F a 8) 6).toInt) = 0 := t42
      refine lv_iload_n hx hb dX10_commit_45 rfl (lv_at hl 0 rfl) ?_
      refine xi_zeq (tgt := 59) hx hb (rfl : Int32.toInt x22 = x22.toInt) dX10_commit_46 (by decide) (fun c46 => ?_) (fun c46 => ?_)
      · refine lv_bipush (v := (-5)) hx hb dX10_commit_59 (by decide) ?_
        exact x_ri hx hb hr hlk hQ (Nat.le_of_ble_eq_true rfl) (Nat.le_of_ble_eq_true rfl) hS dX10_commit_61 G42 ⟨_, rfl, (XFr.call (XFr.call (XFr.call (XFr.call XFr.rf hF4 (xm1 0 rfl xm0) xm0 xm0) hF22 (xm1 0 rfl (xm1 1 rfl (xm1 2 rfl (xm1 6 rfl xm0)))) (xm1 0 rfl (xm1 1 rfl (xm1 2 rfl (xm1 3 rfl (xm1 4 rfl (xm1 5 rfl (xm1 6 rfl xm0))))))) xm0) hF38 xm0 (xm1 7 rfl (xm1 8 rfl xm0)) xm0) hF42 (xm1 3 rfl (xm1 4 rfl (xm1 5 rfl xm0))) xm0 xm0), (z_X10_commit_2 ((G.1 (F a 8) 6).toInt) ((G.1 a 17).toInt) ((G.1 a 18).toInt) ((G42.1 (F a 8) 6).toInt) ((G42.1 a 17).toInt) ((G42.1 a 18).toInt) c11 t42), (by rw [((by decide) : Int32.toInt (-5) = (-5 : Int))] <;> exact (v_X10_commit_61_9 (K := K) (F := F) a G G4 G22 G38 G42 x22 ha oq22 oq22a oq38 sw t4 (xzi hz8) c11 t22 (xzi b22) c27 t42 c46 (hF4.2.1 _ xn0) (hF4.2.1 _ xn0) (hF4.2.1 _ xn0) (hF4.2.1 _ xn0) (hF4.2.1 _ xn0) (hF4.2.1 _ xn0) (hF42.2.1 _ xn0) (hF4.1 _ _ (xnj (by decide) xn0)))), (v_X10_commit_61_10 (F := F) a G G38 G42 ron oq38a (hF42.2.1 _ xn0) (hF42.2.1 _ xn0)), (v_X10_commit_61_11 (K := K) (F := F) a G G4 G22 G42 x22 ha oq22 oq22a sw t4 (xzi hz8) c11 t22 (xzi b22) c27 t42 c46 (hF4.2.1 _ xn0) (hF4.2.1 _ xn0) (hF4.2.1 _ xn0) (hF4.2.1 _ xn0) (hF4.2.1 _ xn0) (hF4.2.1 _ xn0) ((hF42.2.1 _ xn0).trans (hF38.2.1 _ (xn1 (xne_k hk9999d hk9999k (by decide)) (xn1 (xne_k hk9999d hk9999l (by decide)) xn0)))) ((hF42.2.1 _ xn0).trans (hF38.2.1 _ (xn1 (xne_k hk9999e hk9999k (by decide)) (xn1 (xne_k hk9999e hk9999l (by decide)) xn0)))) ((hF42.2.1 _ xn0).trans (hF38.2.1 _ (xn1 (xne_k hk9999f hk9999k (by decide)) (xn1 (xne_k hk9999f hk9999l (by decide)) xn0)))) ((hF42.2.1 _ xn0).trans (hF38.2.1 _ (xn1 (xne_k hk9999g hk9999k (by decide)) (xn1 (xne_k hk9999g hk9999l (by decide)) xn0)))) ((hF42.2.1 _ xn0).trans (hF38.2.1 _ (xn1 (xne_k hk9999h hk9999k (by decide)) (xn1 (xne_k hk9999h hk9999l (by decide)) xn0)))) ((hF42.2.1 _ xn0).trans (hF38.2.1 _ (xn1 (xne_k hk9999i hk9999k (by decide)) (xn1 (xne_k hk9999i hk9999l (by decide)) xn0)))) (hF4.1 _ _ (xnj (by decide) xn0)) ((hF42.1 _ _ (xnj (by decide) (xnj (by decide) (xna (xne_j hj9999b hj9999a (by first | decide | omega)) xn0)))).trans (hF38.1 _ _ xn0)))⟩ hT
      · refine lv_aload_n hx hb dX10_commit_49 rfl (lv_at hl 1 rfl) ?_
        refine gX10_10 S hK hT ha kf_X10_64 dX10_commit_50 (fun _ _ => ?_)
        refine x_clp (x_runV (b := (F a 10)) (As := []) (rest := []) S (c_X4_size l E K F G42 H (F a 10) hk9999b) mv_X4_size km_X10_232 rfl rfl ⟨Nat.le_of_ble_eq_true rfl, Nat.le_of_ble_eq_true rfl⟩ (rc_6 hK hT hk9999b) hK (fun _ => XPh.blind) (fun U hU hW => XPh.at hK hz hS hT hU hW) rfl hl.1 (Nat.le_of_ble_eq_true rfl) dX10_commit_53 ⟨Nat.le_of_ble_eq_true rfl, Nat.le_of_ble_eq_true rfl⟩) hS ?_
        rintro _ _ locs ⟨x53, rfl, t53⟩ hS
        have t53 : x53.toInt = ((G22.1 (F a 10) 6).toInt) := by rw [(show (G42.1 (F a 10) 6).toInt = ((G22.1 (F a 10) 6).toInt) from (congrArg Int32.toInt ((hF42.1 _ _ (xnj (by decide) (xnj (by decide) (xna (xne_j hj9999b hj9999a (by first | decide | omega)) xn0)))).trans (hF38.1 _ _ xn0))).trans (rfl : Int32.toInt (G22.1 (F a 10) 6) = ((G22.1 (F a 10) 6).toInt)))] at t53; exact t53
        refine lv_goto (tgt := 61) hx hb dX10_commit_56 (by decide) ?_
        exact x_ri hx hb hr hlk hQ (Nat.le_of_ble_eq_true rfl) (Nat.le_of_ble_eq_true rfl) hS dX10_commit_61 G42 ⟨_, rfl, (XFr.call (XFr.call (XFr.call (XFr.call XFr.rf hF4 (xm1 0 rfl xm0) xm0 xm0) hF22 (xm1 0 rfl (xm1 1 rfl (xm1 2 rfl (xm1 6 rfl xm0)))) (xm1 0 rfl (xm1 1 rfl (xm1 2 rfl (xm1 3 rfl (xm1 4 rfl (xm1 5 rfl (xm1 6 rfl xm0))))))) xm0) hF38 xm0 (xm1 7 rfl (xm1 8 rfl xm0)) xm0) hF42 (xm1 3 rfl (xm1 4 rfl (xm1 5 rfl xm0))) xm0 xm0), (z_X10_commit_2 ((G.1 (F a 8) 6).toInt) ((G.1 a 17).toInt) ((G.1 a 18).toInt) ((G42.1 (F a 8) 6).toInt) ((G42.1 a 17).toInt) ((G42.1 a 18).toInt) c11 t42), (by rw [(t53 : Int32.toInt x53 = ((G22.1 (F a 10) 6).toInt))] <;> exact (v_X10_commit_61_12 (K := K) (F := F) a G G4 G22 G38 G42 x22 ha oq22 oq22a oq38 sw t4 (xzi hz8) c11 t22 (xzi b22) c27 t42 c46 (hF4.2.1 _ xn0) (hF4.2.1 _ xn0) (hF4.2.1 _ xn0) (hF4.2.1 _ xn0) (hF4.2.1 _ xn0) (hF4.2.1 _ xn0) (hF42.2.1 _ xn0) (hF4.1 _ _ (xnj (by decide) xn0)))), (v_X10_commit_61_13 (F := F) a G G38 G42 ron oq38a (hF42.2.1 _ xn0) (hF42.2.1 _ xn0)), (v_X10_commit_61_14 (K := K) (F := F) a G G4 G22 G42 x22 ha oq22 oq22a sw t4 (xzi hz8) c11 t22 (xzi b22) c27 t42 c46 (hF4.2.1 _ xn0) (hF4.2.1 _ xn0) (hF4.2.1 _ xn0) (hF4.2.1 _ xn0) (hF4.2.1 _ xn0) (hF4.2.1 _ xn0) ((hF42.2.1 _ xn0).trans (hF38.2.1 _ (xn1 (xne_k hk9999d hk9999k (by decide)) (xn1 (xne_k hk9999d hk9999l (by decide)) xn0)))) ((hF42.2.1 _ xn0).trans (hF38.2.1 _ (xn1 (xne_k hk9999e hk9999k (by decide)) (xn1 (xne_k hk9999e hk9999l (by decide)) xn0)))) ((hF42.2.1 _ xn0).trans (hF38.2.1 _ (xn1 (xne_k hk9999f hk9999k (by decide)) (xn1 (xne_k hk9999f hk9999l (by decide)) xn0)))) ((hF42.2.1 _ xn0).trans (hF38.2.1 _ (xn1 (xne_k hk9999g hk9999k (by decide)) (xn1 (xne_k hk9999g hk9999l (by decide)) xn0)))) ((hF42.2.1 _ xn0).trans (hF38.2.1 _ (xn1 (xne_k hk9999h hk9999k (by decide)) (xn1 (xne_k hk9999h hk9999l (by decide)) xn0)))) ((hF42.2.1 _ xn0).trans (hF38.2.1 _ (xn1 (xne_k hk9999i hk9999k (by decide)) (xn1 (xne_k hk9999i hk9999l (by decide)) xn0)))) (hF4.1 _ _ (xnj (by decide) xn0)) ((hF42.1 _ _ (xnj (by decide) (xnj (by decide) (xna (xne_j hj9999b hj9999a (by first | decide | omega)) xn0)))).trans (hF38.1 _ _ xn0)))⟩ hT
  · refine lv_bipush (v := (-3)) hx hb dX10_commit_14 (by decide) ?_
    exact x_ri hx hb hr hlk hQ (Nat.le_of_ble_eq_true rfl) (Nat.le_of_ble_eq_true rfl) hS dX10_commit_16 G4 ⟨_, rfl, (XFr.call XFr.rf hF4 (xm1 0 rfl xm0) xm0 xm0), (by rw [(show (G4.1 a 18).toInt = ((G.1 a 18).toInt) from (congrArg Int32.toInt (hF4.1 _ _ (xnj (by decide) xn0))).trans (rfl : Int32.toInt (G.1 a 18) = ((G.1 a 18).toInt))), (show (G4.1 a 17).toInt = ((G.1 a 17).toInt) from (congrArg Int32.toInt (hF4.1 _ _ (xnj (by decide) xn0))).trans (rfl : Int32.toInt (G.1 a 17) = ((G.1 a 17).toInt))), (show (G4.1 (F a 8) 6).toInt = ((G.1 (F a 8) 6).toInt) from (congrArg Int32.toInt (hF4.1 _ _ (xnj (by decide) xn0))).trans (rfl : Int32.toInt (G.1 (F a 8) 6) = ((G.1 (F a 8) 6).toInt)))] <;> exact (z_X10_commit_6 ((G.1 (F a 8) 6).toInt) ((G.1 a 17).toInt) ((G.1 a 18).toInt) c11)), (by rw [((by decide) : Int32.toInt (-3) = (-3 : Int))] <;> exact (v_X10_commit_16_15 (K := K) (F := F) a G G4 ha sw t4 (xzi hz8) c11 (hF4.2.1 _ xn0))), (v_X10_commit_16_16 (F := F) a G G4 ron (hF4.2.1 _ xn0) (hF4.2.1 _ xn0)), (v_X10_commit_16_17 (K := K) (F := F) a G G4 ha sw t4 (xzi hz8) c11 (hF4.2.1 _ xn0) (hF4.2.1 _ xn0) (hF4.2.1 _ xn0) (hF4.2.1 _ xn0) (hF4.2.1 _ xn0) (hF4.2.1 _ xn0) (hF4.1 _ _ (xnj (by decide) xn0)))⟩ hT
theorem RW.cg {q q2 : Nat → Int32} (h : RW q) (h0 : q2 0 = q 0) (h2 : q2 2 = q 2) (h3 : q2 3 = q 3) (h4 : q2 4 = q 4) : RW q2 := by
  unfold RW
  rw [h0, h2, h3, h4]
  exact h
theorem BKr.late {K : Nat → Nat} {G G2 : XG} {f : Nat → Option Nat} {p : Nat} {v : Int32} (h : BKr K G f) (e : G2 = dput G p 9 v) : BKr K G2 f := fun i q hi hq => ⟨(h i q hi hq).1, (h i q hi hq).2.cg (ld_j e (by decide)) (ld_j e (by decide)) (ld_j e (by decide)) (ld_j e (by decide))⟩
/-! ===== how many of a list are of a rule ===== -/
noncomputable def cnQ (l : List Qt) (v : Int) : Int := ((l.countP (fun x => decide (x.1 = v)) : Nat) : Int)
noncomputable def cnP (l : List (Int × Int)) (v : Int) : Int := ((l.countP (fun x => decide (x.1 = v)) : Nat) : Int)
theorem hvR_cnt {α : Type} (g : Nat → α) (p : α → Bool) (f : Nat → Int32) (v : Int) : ∀ n : Nat, (∀ i, i < n → (p (g i) = true ↔ (f i).toInt = v)) → hvR (aI f) 0 v n = (((lst g n).countP p : Nat) : Int)
  | 0, _ => rfl
  | n + 1, h => by
    have ih := hvR_cnt g p f v n (fun i hi => h i (by omega))
    have hn := h n (by omega)
    have e : aI f (0 + (n : Int)) = (f n).toInt := by
      unfold aI
      rw [show (0 + (n : Int)).toNat = n by omega]
    show hvR (aI f) 0 v n + (if aI f (0 + (n : Int)) = v then 1 else 0) = _
    rw [e, ih, lst_s, List.countP_append, List.countP_cons, List.countP_nil]
    by_cases c : (f n).toInt = v
    · rw [if_pos c, if_pos (hn.mpr c)]; omega
    · rw [if_neg c, if_neg (fun q => c (hn.mp q))]; omega
theorem hv_qL (G : XG) (F : Nat → Nat → Nat) (a : Nat) (v : Int) : hv (aI (G.2.1 (F a 0))) 0 v ((G.1 a 6).toInt) = cnQ (qL G F a) v := by
  rw [hv_eq]
  exact hvR_cnt _ _ _ v _ (fun i _ => by
    show decide ((G.2.1 (F a 0) i).toInt = v) = true ↔ _
    exact decide_eq_true_iff)
theorem hv_pL (G : XG) (F : Nat → Nat → Nat) (a : Nat) (v : Int) : hv (aI (G.2.1 (F a 17))) 0 v ((G.1 a 19).toInt) = cnP (pL G F a) v := by
  rw [hv_eq]
  exact hvR_cnt _ _ _ v _ (fun i _ => by
    show decide ((G.2.1 (F a 17) i).toInt = v) = true ↔ _
    exact decide_eq_true_iff)
theorem v_X10_becomeLate_28_1 {F : Nat → Nat → Nat} (a : Nat) (G2 : XG) (G : XG)
    (ron : RO (vw (G.2.1 (F (F a 3) 0))) (aI (G.2.1 (F (F a 3) 1))))
    (rob : RO (vw (G.2.1 (F (F a 4) 0))) (aI (G.2.1 (F (F a 4) 1))))
    (c_G2_F_F_a_4_0 : G2.2.1 (F (F a 4) 0) = G.2.1 (F (F a 4) 0))
    (c_G2_F_F_a_4_1 : G2.2.1 (F (F a 4) 1) = G.2.1 (F (F a 4) 1)) :
    RO (vw (G2.2.1 (F (F a 4) 0))) (aI (G2.2.1 (F (F a 4) 1))) := by simp only [c_G2_F_F_a_4_0, c_G2_F_F_a_4_1]; assumption
theorem v_X10_becomeLate_28_2 {F : Nat → Nat → Nat} (a : Nat) (G2 : XG) (G : XG)
    (ron : RO (vw (G.2.1 (F (F a 3) 0))) (aI (G.2.1 (F (F a 3) 1))))
    (rob : RO (vw (G.2.1 (F (F a 4) 0))) (aI (G.2.1 (F (F a 4) 1))))
    (c_G2_F_F_a_3_0 : G2.2.1 (F (F a 3) 0) = G.2.1 (F (F a 3) 0))
    (c_G2_F_F_a_3_1 : G2.2.1 (F (F a 3) 1) = G.2.1 (F (F a 3) 1)) :
    RO (vw (G2.2.1 (F (F a 3) 0))) (aI (G2.2.1 (F (F a 3) 1))) := by simp only [c_G2_F_F_a_3_0, c_G2_F_F_a_3_1]; assumption
theorem v_X10_becomeLate_28_3 {K : Nat → Nat} {F : Nat → Nat → Nat} (a : Nat) (p0 : Nat) (G2 : XG) (G : XG)
    (ha : K a = 12)
    (hp0 : K p0 = 9)
    (hk9999 : K (F a 11) = 3)
    (hj9999 : F (F a 11) 99 = 0)
    (hk9999a : K (F a 8) = 6)
    (hj9999a : F (F a 8) 99 = 0)
    (hk9999b : K (F a 15) = 26)
    (hj9999b : F (F a 15) 99 = 0)
    (hk9999c : K (F (F a 11) 0) = 21)
    (hj9999c : F (F (F a 11) 0) 99 = 100)
    (hk9999d : K (F (F a 11) 1) = 21)
    (hj9999d : F (F (F a 11) 1) 99 = 101)
    (hk9999e : K (F (F a 11) 2) = 24)
    (hj9999e : F (F (F a 11) 2) 99 = 4)
    (hk9999f : K (F (F a 8) 0) = 22)
    (hj9999g : F (F (F a 8) 0) 99 = 10 * 0 + 0)
    (hk9999g : K (F (F a 8) 1) = 22)
    (hj9999i : F (F (F a 8) 1) 99 = 10 * 0 + 1)
    (hk9999h : K (F (F a 8) 2) = 22)
    (hj9999k : F (F (F a 8) 2) 99 = 10 * 0 + 2)
    (hk9999i : K (F (F a 8) 3) = 22)
    (hj9999m : F (F (F a 8) 3) 99 = 10 * 0 + 3)
    (hk9999j : K (F (F a 8) 4) = 23)
    (hj9999o : F (F (F a 8) 4) 99 = 10 * 0 + 4)
    (hk9999k : K (F (F a 8) 5) = 23)
    (hj9999q : F (F (F a 8) 5) 99 = 10 * 0 + 5)
    (hk9999l : K (F a 2) = 2)
    (hj9999r : F (F a 2) 99 = 0)
    (hk9999m : K (F (F a 2) 1) = 15)
    (hj9999s : F (F (F a 2) 1) 99 = 1)
    (hk9999n : K (F a 3) = 8)
    (hj9999t : F (F a 3) 99 = 0)
    (hk9999o : K (F (F a 3) 0) = 20)
    (hj9999v : F (F (F a 3) 0) 99 = 0)
    (hk9999p : K (F (F a 3) 1) = 21)
    (hj9999y : F (F (F a 3) 1) 99 = 0)
    (hk9999q : K (F a 4) = 8)
    (hj9999z25 : F (F a 4) 99 = 1)
    (hk9999r : K (F (F a 4) 0) = 20)
    (hj9999z27 : F (F (F a 4) 0) 99 = 1)
    (hk9999s : K (F (F a 4) 1) = 21)
    (hj9999z29 : F (F (F a 4) 1) 99 = 1)
    (hG2 : G2 = dput G p0 9 1)
    (ron : RO (vw (G.2.1 (F (F a 3) 0))) (aI (G.2.1 (F (F a 3) 1))))
    (rob : RO (vw (G.2.1 (F (F a 4) 0))) (aI (G.2.1 (F (F a 4) 1))))
    (bko : BKr K G (G.2.2.1 (F (F a 2) 1)))
    (sb : 0 ≤ ((G.1 (F a 2) 2).toInt) ∧ ((G.1 (F a 2) 2).toInt) ≤ 12)
    (sw : 0 ≤ ((G.1 (F a 8) 6).toInt) ∧ ((G.1 (F a 8) 6).toInt) ≤ 1080)
    (f48 : ((G.1 a 18).toInt) = 0 ∨ ((G.1 a 18).toInt) = 1)
    (c9 : ((G.1 a 18).toInt) ≠ 0)
    (c_G2_F_F_a_11_0 : G2.2.1 (F (F a 11) 0) = G.2.1 (F (F a 11) 0))
    (c_G2_F_F_a_11_1 : G2.2.1 (F (F a 11) 1) = G.2.1 (F (F a 11) 1))
    (c_G2_F_F_a_11_2 : G2.2.1 (F (F a 11) 2) = G.2.1 (F (F a 11) 2))
    (c_G2_F_F_a_8_0 : G2.2.1 (F (F a 8) 0) = G.2.1 (F (F a 8) 0))
    (c_G2_F_F_a_8_1 : G2.2.1 (F (F a 8) 1) = G.2.1 (F (F a 8) 1))
    (c_G2_F_F_a_8_2 : G2.2.1 (F (F a 8) 2) = G.2.1 (F (F a 8) 2))
    (c_G2_F_F_a_8_3 : G2.2.1 (F (F a 8) 3) = G.2.1 (F (F a 8) 3))
    (c_G2_F_F_a_8_4 : G2.2.1 (F (F a 8) 4) = G.2.1 (F (F a 8) 4))
    (c_G2_F_F_a_8_5 : G2.2.1 (F (F a 8) 5) = G.2.1 (F (F a 8) 5))
    (c_G2_F_a_15 : G2.2.1 (F a 15) = G.2.1 (F a 15))
    (r_G2_F_F_a_2_1 : G2.2.2.1 (F (F a 2) 1) = G.2.2.1 (F (F a 2) 1))
    (d_G2_F_a_11_3 : G2.1 (F a 11) 3 = G.1 (F a 11) 3)
    (d_G2_F_a_8_6 : G2.1 (F a 8) 6 = G.1 (F a 8) 6)
    (d_G2_p0_9 : G2.1 p0 9 = 1) :
    ∀ (i q : Nat), i < 12 → G2.2.2.1 (F (F a 2) 1) i = some q → RW (G2.1 q) := by
  rw [show G2.2.2.1 (F (F a 2) 1) = G.2.2.1 (F (F a 2) 1) by assumption]
  exact (bko.late hG2).rw
theorem v_X10_becomeLate_28_4 {K : Nat → Nat} {F : Nat → Nat → Nat} (a : Nat) (p0 : Nat) (G2 : XG) (G : XG)
    (ha : K a = 12)
    (hp0 : K p0 = 9)
    (hk9999 : K (F a 11) = 3)
    (hj9999 : F (F a 11) 99 = 0)
    (hk9999a : K (F a 8) = 6)
    (hj9999a : F (F a 8) 99 = 0)
    (hk9999b : K (F a 15) = 26)
    (hj9999b : F (F a 15) 99 = 0)
    (hk9999c : K (F (F a 11) 0) = 21)
    (hj9999c : F (F (F a 11) 0) 99 = 100)
    (hk9999d : K (F (F a 11) 1) = 21)
    (hj9999d : F (F (F a 11) 1) 99 = 101)
    (hk9999e : K (F (F a 11) 2) = 24)
    (hj9999e : F (F (F a 11) 2) 99 = 4)
    (hk9999f : K (F (F a 8) 0) = 22)
    (hj9999g : F (F (F a 8) 0) 99 = 10 * 0 + 0)
    (hk9999g : K (F (F a 8) 1) = 22)
    (hj9999i : F (F (F a 8) 1) 99 = 10 * 0 + 1)
    (hk9999h : K (F (F a 8) 2) = 22)
    (hj9999k : F (F (F a 8) 2) 99 = 10 * 0 + 2)
    (hk9999i : K (F (F a 8) 3) = 22)
    (hj9999m : F (F (F a 8) 3) 99 = 10 * 0 + 3)
    (hk9999j : K (F (F a 8) 4) = 23)
    (hj9999o : F (F (F a 8) 4) 99 = 10 * 0 + 4)
    (hk9999k : K (F (F a 8) 5) = 23)
    (hj9999q : F (F (F a 8) 5) 99 = 10 * 0 + 5)
    (hk9999l : K (F a 2) = 2)
    (hj9999r : F (F a 2) 99 = 0)
    (hk9999m : K (F (F a 2) 1) = 15)
    (hj9999s : F (F (F a 2) 1) 99 = 1)
    (hk9999n : K (F a 3) = 8)
    (hj9999t : F (F a 3) 99 = 0)
    (hk9999o : K (F (F a 3) 0) = 20)
    (hj9999v : F (F (F a 3) 0) 99 = 0)
    (hk9999p : K (F (F a 3) 1) = 21)
    (hj9999y : F (F (F a 3) 1) 99 = 0)
    (hk9999q : K (F a 4) = 8)
    (hj9999z25 : F (F a 4) 99 = 1)
    (hk9999r : K (F (F a 4) 0) = 20)
    (hj9999z27 : F (F (F a 4) 0) 99 = 1)
    (hk9999s : K (F (F a 4) 1) = 21)
    (hj9999z29 : F (F (F a 4) 1) 99 = 1)
    (hG2 : G2 = dput G p0 9 1)
    (ron : RO (vw (G.2.1 (F (F a 3) 0))) (aI (G.2.1 (F (F a 3) 1))))
    (rob : RO (vw (G.2.1 (F (F a 4) 0))) (aI (G.2.1 (F (F a 4) 1))))
    (bko : BKr K G (G.2.2.1 (F (F a 2) 1)))
    (sb : 0 ≤ ((G.1 (F a 2) 2).toInt) ∧ ((G.1 (F a 2) 2).toInt) ≤ 12)
    (sw : 0 ≤ ((G.1 (F a 8) 6).toInt) ∧ ((G.1 (F a 8) 6).toInt) ≤ 1080)
    (f48 : ((G.1 a 18).toInt) = 0 ∨ ((G.1 a 18).toInt) = 1)
    (c9 : ((G.1 a 18).toInt) ≠ 0)
    (c_G2_F_F_a_11_0 : G2.2.1 (F (F a 11) 0) = G.2.1 (F (F a 11) 0))
    (c_G2_F_F_a_11_1 : G2.2.1 (F (F a 11) 1) = G.2.1 (F (F a 11) 1))
    (c_G2_F_F_a_11_2 : G2.2.1 (F (F a 11) 2) = G.2.1 (F (F a 11) 2))
    (c_G2_F_F_a_8_0 : G2.2.1 (F (F a 8) 0) = G.2.1 (F (F a 8) 0))
    (c_G2_F_F_a_8_1 : G2.2.1 (F (F a 8) 1) = G.2.1 (F (F a 8) 1))
    (c_G2_F_F_a_8_2 : G2.2.1 (F (F a 8) 2) = G.2.1 (F (F a 8) 2))
    (c_G2_F_F_a_8_3 : G2.2.1 (F (F a 8) 3) = G.2.1 (F (F a 8) 3))
    (c_G2_F_F_a_8_4 : G2.2.1 (F (F a 8) 4) = G.2.1 (F (F a 8) 4))
    (c_G2_F_F_a_8_5 : G2.2.1 (F (F a 8) 5) = G.2.1 (F (F a 8) 5))
    (c_G2_F_a_15 : G2.2.1 (F a 15) = G.2.1 (F a 15))
    (d_G2_F_a_11_3 : G2.1 (F a 11) 3 = G.1 (F a 11) 3)
    (d_G2_F_a_8_6 : G2.1 (F a 8) 6 = G.1 (F a 8) 6)
    (d_G2_p0_9 : G2.1 p0 9 = 1) :
    F (F a 4) 99 < 12 := by
  first | assumption | omega
theorem v_X10_becomeLate_28_5 {K : Nat → Nat} {F : Nat → Nat → Nat} (a : Nat) (p0 : Nat) (G2 : XG) (G : XG)
    (ha : K a = 12)
    (hp0 : K p0 = 9)
    (hk9999 : K (F a 11) = 3)
    (hj9999 : F (F a 11) 99 = 0)
    (hk9999a : K (F a 8) = 6)
    (hj9999a : F (F a 8) 99 = 0)
    (hk9999b : K (F a 15) = 26)
    (hj9999b : F (F a 15) 99 = 0)
    (hk9999c : K (F (F a 11) 0) = 21)
    (hj9999c : F (F (F a 11) 0) 99 = 100)
    (hk9999d : K (F (F a 11) 1) = 21)
    (hj9999d : F (F (F a 11) 1) 99 = 101)
    (hk9999e : K (F (F a 11) 2) = 24)
    (hj9999e : F (F (F a 11) 2) 99 = 4)
    (hk9999f : K (F (F a 8) 0) = 22)
    (hj9999g : F (F (F a 8) 0) 99 = 10 * 0 + 0)
    (hk9999g : K (F (F a 8) 1) = 22)
    (hj9999i : F (F (F a 8) 1) 99 = 10 * 0 + 1)
    (hk9999h : K (F (F a 8) 2) = 22)
    (hj9999k : F (F (F a 8) 2) 99 = 10 * 0 + 2)
    (hk9999i : K (F (F a 8) 3) = 22)
    (hj9999m : F (F (F a 8) 3) 99 = 10 * 0 + 3)
    (hk9999j : K (F (F a 8) 4) = 23)
    (hj9999o : F (F (F a 8) 4) 99 = 10 * 0 + 4)
    (hk9999k : K (F (F a 8) 5) = 23)
    (hj9999q : F (F (F a 8) 5) 99 = 10 * 0 + 5)
    (hk9999l : K (F a 2) = 2)
    (hj9999r : F (F a 2) 99 = 0)
    (hk9999m : K (F (F a 2) 1) = 15)
    (hj9999s : F (F (F a 2) 1) 99 = 1)
    (hk9999n : K (F a 3) = 8)
    (hj9999t : F (F a 3) 99 = 0)
    (hk9999o : K (F (F a 3) 0) = 20)
    (hj9999v : F (F (F a 3) 0) 99 = 0)
    (hk9999p : K (F (F a 3) 1) = 21)
    (hj9999y : F (F (F a 3) 1) 99 = 0)
    (hk9999q : K (F a 4) = 8)
    (hj9999z25 : F (F a 4) 99 = 1)
    (hk9999r : K (F (F a 4) 0) = 20)
    (hj9999z27 : F (F (F a 4) 0) 99 = 1)
    (hk9999s : K (F (F a 4) 1) = 21)
    (hj9999z29 : F (F (F a 4) 1) 99 = 1)
    (hG2 : G2 = dput G p0 9 1)
    (ron : RO (vw (G.2.1 (F (F a 3) 0))) (aI (G.2.1 (F (F a 3) 1))))
    (rob : RO (vw (G.2.1 (F (F a 4) 0))) (aI (G.2.1 (F (F a 4) 1))))
    (bko : BKr K G (G.2.2.1 (F (F a 2) 1)))
    (sb : 0 ≤ ((G.1 (F a 2) 2).toInt) ∧ ((G.1 (F a 2) 2).toInt) ≤ 12)
    (sw : 0 ≤ ((G.1 (F a 8) 6).toInt) ∧ ((G.1 (F a 8) 6).toInt) ≤ 1080)
    (f48 : ((G.1 a 18).toInt) = 0 ∨ ((G.1 a 18).toInt) = 1)
    (c9 : ((G.1 a 18).toInt) ≠ 0)
    (c_G2_F_F_a_11_0 : G2.2.1 (F (F a 11) 0) = G.2.1 (F (F a 11) 0))
    (c_G2_F_F_a_11_1 : G2.2.1 (F (F a 11) 1) = G.2.1 (F (F a 11) 1))
    (c_G2_F_F_a_11_2 : G2.2.1 (F (F a 11) 2) = G.2.1 (F (F a 11) 2))
    (c_G2_F_F_a_8_0 : G2.2.1 (F (F a 8) 0) = G.2.1 (F (F a 8) 0))
    (c_G2_F_F_a_8_1 : G2.2.1 (F (F a 8) 1) = G.2.1 (F (F a 8) 1))
    (c_G2_F_F_a_8_2 : G2.2.1 (F (F a 8) 2) = G.2.1 (F (F a 8) 2))
    (c_G2_F_F_a_8_3 : G2.2.1 (F (F a 8) 3) = G.2.1 (F (F a 8) 3))
    (c_G2_F_F_a_8_4 : G2.2.1 (F (F a 8) 4) = G.2.1 (F (F a 8) 4))
    (c_G2_F_F_a_8_5 : G2.2.1 (F (F a 8) 5) = G.2.1 (F (F a 8) 5))
    (c_G2_F_a_15 : G2.2.1 (F a 15) = G.2.1 (F a 15))
    (d_G2_F_a_11_3 : G2.1 (F a 11) 3 = G.1 (F a 11) 3)
    (d_G2_F_a_8_6 : G2.1 (F a 8) 6 = G.1 (F a 8) 6)
    (d_G2_p0_9 : G2.1 p0 9 = 1) :
    F (F a 3) 99 < 12 := by
  first | assumption | omega
theorem v_X10_becomeLate_54_6 {K : Nat → Nat} {F : Nat → Nat → Nat} (a : Nat) (p0 : Nat) (G2 : XG) (G : XG) (G28 : XG) (G52 : XG)
    (ha : K a = 12)
    (hp0 : K p0 = 9)
    (hG2 : G2 = dput G p0 9 1)
    (oq28 : qL G28 F (F a 8) = gaL G2 (G2.2.2.1 (F (F a 2) 1)) (vw (G.2.1 (F (F a 4) 0))) (vw (G.2.1 (F (F a 3) 0))) (1 : Int) (((G.1 (F a 2) 2).toInt)).toNat)
    (sb : 0 ≤ ((G.1 (F a 2) 2).toInt) ∧ ((G.1 (F a 2) 2).toInt) ≤ 12)
    (sw : 0 ≤ ((G.1 (F a 8) 6).toInt) ∧ ((G.1 (F a 8) 6).toInt) ≤ 1080)
    (f53 : ((G.1 a 18).toInt) = 0 ∨ ((G.1 a 18).toInt) = 1)
    (c9 : ((G.1 a 18).toInt) ≠ 0)
    (t28 : 0 ≤ ((G28.1 (F a 8) 6).toInt) ∧ ((G28.1 (F a 8) 6).toInt) ≤ 1080)
    (c_G52_F_F_a_8_0 : G52.2.1 (F (F a 8) 0) = G28.2.1 (F (F a 8) 0))
    (c_G52_F_F_a_8_1 : G52.2.1 (F (F a 8) 1) = G28.2.1 (F (F a 8) 1))
    (c_G52_F_F_a_8_2 : G52.2.1 (F (F a 8) 2) = G28.2.1 (F (F a 8) 2))
    (c_G52_F_F_a_8_3 : G52.2.1 (F (F a 8) 3) = G28.2.1 (F (F a 8) 3))
    (c_G52_F_F_a_8_4 : G52.2.1 (F (F a 8) 4) = G28.2.1 (F (F a 8) 4))
    (c_G52_F_F_a_8_5 : G52.2.1 (F (F a 8) 5) = G28.2.1 (F (F a 8) 5))
    (r_G2_F_F_a_2_1 : G2.2.2.1 (F (F a 2) 1) = G.2.2.1 (F (F a 2) 1))
    (d_G52_F_a_8_6 : G52.1 (F a 8) 6 = G28.1 (F a 8) 6) :
    (((G.1 a 18).toInt) = 0 ∧ qL G52 F (F a 8) = qL G F (F a 8) ∧ (hv (aI (G28.2.1 (F (F a 8) 0))) 0 ((G.1 p0 1).toInt) ((G28.1 (F a 8) 6).toInt)) = 0) ∨ (((G.1 a 18).toInt) ≠ 0 ∧ qL G52 F (F a 8) = (gaL (dput G p0 9 1) (G.2.2.1 (F (F a 2) 1)) (vw (G.2.1 (F (F a 4) 0))) (vw (G.2.1 (F (F a 3) 0))) 1 (((G.1 (F a 2) 2).toInt)).toNat) ∧ (hv (aI (G28.2.1 (F (F a 8) 0))) 0 ((G.1 p0 1).toInt) ((G28.1 (F a 8) 6).toInt)) = cnQ (qL G52 F (F a 8)) ((G.1 p0 1).toInt)) := by
  have hq5 : qL G52 F (F a 8) = qL G28 F (F a 8) := qL_cg d_G52_F_a_8_6 c_G52_F_F_a_8_0 c_G52_F_F_a_8_1 c_G52_F_F_a_8_2 c_G52_F_F_a_8_3 c_G52_F_F_a_8_4 c_G52_F_F_a_8_5
  refine Or.inr ⟨by omega, ?_, ?_⟩
  · rw [← hG2, ← r_G2_F_F_a_2_1, ← oq28]
    exact hq5
  · rw [hq5]
    exact hv_qL G28 F (F a 8) _
theorem v_X10_becomeLate_13_7 {K : Nat → Nat} {F : Nat → Nat → Nat} (a : Nat) (p0 : Nat) (G2 : XG) (G : XG)
    (ha : K a = 12)
    (hp0 : K p0 = 9)
    (sb : 0 ≤ ((G.1 (F a 2) 2).toInt) ∧ ((G.1 (F a 2) 2).toInt) ≤ 12)
    (sw : 0 ≤ ((G.1 (F a 8) 6).toInt) ∧ ((G.1 (F a 8) 6).toInt) ≤ 1080)
    (f48 : ((G.1 a 18).toInt) = 0 ∨ ((G.1 a 18).toInt) = 1)
    (c9 : ¬ (((G.1 a 18).toInt) ≠ 0))
    (c_G2_F_F_a_8_0 : G2.2.1 (F (F a 8) 0) = G.2.1 (F (F a 8) 0))
    (c_G2_F_F_a_8_1 : G2.2.1 (F (F a 8) 1) = G.2.1 (F (F a 8) 1))
    (c_G2_F_F_a_8_2 : G2.2.1 (F (F a 8) 2) = G.2.1 (F (F a 8) 2))
    (c_G2_F_F_a_8_3 : G2.2.1 (F (F a 8) 3) = G.2.1 (F (F a 8) 3))
    (c_G2_F_F_a_8_4 : G2.2.1 (F (F a 8) 4) = G.2.1 (F (F a 8) 4))
    (c_G2_F_F_a_8_5 : G2.2.1 (F (F a 8) 5) = G.2.1 (F (F a 8) 5))
    (d_G2_F_a_8_6 : G2.1 (F a 8) 6 = G.1 (F a 8) 6) :
    (((G.1 a 18).toInt) = 0 ∧ qL G2 F (F a 8) = qL G F (F a 8) ∧ (0 : Int) = 0) ∨ (((G.1 a 18).toInt) ≠ 0 ∧ qL G2 F (F a 8) = (gaL (dput G p0 9 1) (G.2.2.1 (F (F a 2) 1)) (vw (G.2.1 (F (F a 4) 0))) (vw (G.2.1 (F (F a 3) 0))) 1 (((G.1 (F a 2) 2).toInt)).toNat) ∧ (0 : Int) = cnQ (qL G2 F (F a 8)) ((G.1 p0 1).toInt)) := by
  exact Or.inl ⟨by omega, qL_cg d_G2_F_a_8_6 c_G2_F_F_a_8_0 c_G2_F_F_a_8_1 c_G2_F_F_a_8_2 c_G2_F_F_a_8_3 c_G2_F_F_a_8_4 c_G2_F_F_a_8_5, rfl⟩
theorem z_X10_becomeLate_3 (a0 : Int) (h0 : 0 ≤ a0 ∧ a0 ≤ 1080) : (1 : Int) = 1 ∧ 0 ≤ a0 ∧ a0 ≤ 1080 := by omega
abbrev rm_X10_becomeLate : Room := { frames := 6, cells := 0, slots := 0, locals := 149 }
set_option maxHeartbeats 4000000 in
set_option maxRecDepth 100000 in
theorem c_X10_becomeLate (l : Launch) (E : XE) (K : Nat → Nat) (F : Nat → Nat → Nat) (G : XG) (a : Nat) (p0 : Nat) (ha : K a = 12) (hp0 : K p0 = 9) (sb : 0 ≤ ((G.1 (F a 2) 2).toInt) ∧ ((G.1 (F a 2) 2).toInt) ≤ 12) (sw : 0 ≤ ((G.1 (F a 8) 6).toInt) ∧ ((G.1 (F a 8) 6).toInt) ≤ 1080) (ron : RO (vw (G.2.1 (F (F a 3) 0))) (aI (G.2.1 (F (F a 3) 1)))) (rob : RO (vw (G.2.1 (F (F a 4) 0))) (aI (G.2.1 (F (F a 4) 1)))) (bko : BKr K G (G.2.2.1 (F (F a 2) 1))) : Met l yX10_becomeLate (xw yX10_becomeLate cX10_becomeLate 3 (some .int)) rm_X10_becomeLate (va_Pc [.ref a, .ref p0] (XP E K F G)) (XQ E (fun v (u : XG) => ∃ r : Int32, v = .int r ∧ XFr [(p0, 9), (F a 11, 3), (F a 8, 6)] [F a 15, F (F a 11) 0, F (F a 11) 1, F (F a 11) 2, F (F a 8) 0, F (F a 8) 1, F (F a 8) 2, F (F a 8) 3, F (F a 8) 4, F (F a 8) 5] [] G u ∧ (((u.1 p0 9).toInt) = 1 ∧ 0 ≤ ((u.1 (F a 8) 6).toInt) ∧ ((u.1 (F a 8) 6).toInt) ≤ 1080) ∧ ((((G.1 a 18).toInt) = 0 ∧ qL u F (F a 8) = qL G F (F a 8) ∧ r.toInt = 0) ∨ (((G.1 a 18).toInt) ≠ 0 ∧ qL u F (F a 8) = (gaL (dput G p0 9 1) (G.2.2.1 (F (F a 2) 1)) (vw (G.2.1 (F (F a 4) 0))) (vw (G.2.1 (F (F a 3) 0))) 1 (((G.1 (F a 2) 2).toInt)).toNat) ∧ r.toInt = cnQ (qL u F (F a 8)) ((G.1 p0 1).toInt)))) (fun u H => TW E K F u H)) 0 0 (xA E) := by
  refine x_enter (by decide) (Nat.le_of_ble_eq_true rfl) ?_
  intro p e s m args below meth c Q S hr hlk hnm hQ hP ls hl
  obtain ⟨hz, hK, hT⟩ := hP
  obtain ⟨hx, hb, -, -, -⟩ := id S
  obtain ⟨H, hT, hS, hgo⟩ : ∃ H : Heap, TW E K F G H ∧ va_S (xA E) s.heap H [] ∧ H = s.heap := ⟨_, hT, va_S.rf, rfl⟩
  rw [← hgo]
  have hl : lv_has ls 3 [(0, .ref a), (1, .ref p0)] := hl
  obtain ⟨hk9999, hj9999⟩ := fkX10_11 hT ha
  obtain ⟨hk9999a, hj9999a⟩ := fkX10_8 hT ha
  obtain ⟨hk9999b, hj9999b⟩ := fkX10_15 hT ha
  obtain ⟨hk9999c, hj9999c⟩ := fkX1_0 hT hk9999
  obtain ⟨hk9999d, hj9999d⟩ := fkX1_1 hT hk9999
  obtain ⟨hk9999e, hj9999e⟩ := fkX1_2 hT hk9999
  obtain ⟨hk9999f, hj9999f⟩ := fkX4_0 hT hk9999a
  have hj9999g : F (F (F a 8) 0) 99 = 10 * 0 + 0 := by rw [hj9999f, hj9999a]
  obtain ⟨hk9999g, hj9999h⟩ := fkX4_1 hT hk9999a
  have hj9999i : F (F (F a 8) 1) 99 = 10 * 0 + 1 := by rw [hj9999h, hj9999a]
  obtain ⟨hk9999h, hj9999j⟩ := fkX4_2 hT hk9999a
  have hj9999k : F (F (F a 8) 2) 99 = 10 * 0 + 2 := by rw [hj9999j, hj9999a]
  obtain ⟨hk9999i, hj9999l⟩ := fkX4_3 hT hk9999a
  have hj9999m : F (F (F a 8) 3) 99 = 10 * 0 + 3 := by rw [hj9999l, hj9999a]
  obtain ⟨hk9999j, hj9999n⟩ := fkX4_4 hT hk9999a
  have hj9999o : F (F (F a 8) 4) 99 = 10 * 0 + 4 := by rw [hj9999n, hj9999a]
  obtain ⟨hk9999k, hj9999p⟩ := fkX4_5 hT hk9999a
  have hj9999q : F (F (F a 8) 5) 99 = 10 * 0 + 5 := by rw [hj9999p, hj9999a]
  obtain ⟨hk9999l, hj9999r⟩ := fkX10_2 hT ha
  obtain ⟨hk9999m, hj9999s⟩ := fkX0_1 hT hk9999l
  obtain ⟨hk9999n, hj9999t⟩ := fkX10_3 hT ha
  obtain ⟨hk9999o, hj9999u⟩ := fkX6_0 hT hk9999n
  have hj9999v : F (F (F a 3) 0) 99 = 0 := by rw [hj9999u, hj9999t]
  obtain ⟨hk9999p, hj9999w⟩ := fkX6_1 hT hk9999n
  have hj9999y : F (F (F a 3) 1) 99 = 0 := by rw [hj9999w, hj9999t]
  obtain ⟨hk9999q, hj9999z25⟩ := fkX10_4 hT ha
  obtain ⟨hk9999r, hj9999z26⟩ := fkX6_0 hT hk9999q
  have hj9999z27 : F (F (F a 4) 0) 99 = 1 := by rw [hj9999z26, hj9999z25]
  obtain ⟨hk9999s, hj9999z28⟩ := fkX6_1 hT hk9999q
  have hj9999z29 : F (F (F a 4) 1) 99 = 1 := by rw [hj9999z28, hj9999z25]
  refine lv_aload_n hx hb dX10_becomeLate_0 rfl (lv_at hl 1 rfl) ?_
  refine lv_iconst (v := 1) hx hb dX10_becomeLate_1 (by decide) ?_
  refine pX7_9 (v := 1) S hK hT hS hp0 kf_X10_170 (Or.inr rfl) dX10_becomeLate_2 (fun H locs hT hS => ?_)
  obtain ⟨G2, hG2⟩ : ∃ GG : XG, GG = dput G p0 9 1 := ⟨_, rfl⟩
  rw [← hG2] at hT
  refine lv_aload_n hx hb dX10_becomeLate_5 rfl (lv_at hl 0 rfl) ?_
  refine gX10_18 S hK hT ha kf_X10_123 dX10_becomeLate_6 (v := (G.1 a 18)) (ld_j hG2 (by decide)) (fun hz6 => ?_)
  refine xi_zne (tgt := 14) hx hb (rfl : Int32.toInt (G.1 a 18) = ((G.1 a 18).toInt)) dX10_becomeLate_9 (by decide) (fun c9 => ?_) (fun c9 => ?_)
  · refine lv_aload_n hx hb dX10_becomeLate_14 rfl (lv_at hl 0 rfl) ?_
    refine lv_aload_n hx hb dX10_becomeLate_15 rfl (lv_at hl 0 rfl) ?_
    refine gX10_8 S hK hT ha kf_X10_57 dX10_becomeLate_16 (fun _ _ => ?_)
    refine lv_aload_n hx hb dX10_becomeLate_19 rfl (lv_at hl 0 rfl) ?_
    refine gX10_4 S hK hT ha kf_X10_41 dX10_becomeLate_20 (fun _ _ => ?_)
    refine lv_aload_n hx hb dX10_becomeLate_23 rfl (lv_at hl 0 rfl) ?_
    refine gX10_3 S hK hT ha kf_X10_37 dX10_becomeLate_24 (fun _ _ => ?_)
    refine lv_iconst (v := 1) hx hb dX10_becomeLate_27 (by decide) ?_
    refine x_cv0 (x_runV (b := a) (As := [.ref (F a 8), .ref (F a 4), .ref (F a 3), .int 1]) (rest := []) S (c_X10_gather l E K F G2 a (F a 8) (F a 4) (F a 3) 1 ha hk9999a hk9999q hk9999n (by rw [(show (G2.1 (F a 2) 2).toInt = ((G.1 (F a 2) 2).toInt) from (congrArg Int32.toInt (ld_j hG2 (by decide))).trans (rfl : Int32.toInt (G.1 (F a 2) 2) = ((G.1 (F a 2) 2).toInt)))] <;> exact (sb)) (v_X10_becomeLate_28_1 (F := F) a G2 G ron rob (ld_c hG2) (ld_c hG2)) (v_X10_becomeLate_28_2 (F := F) a G2 G ron rob (ld_c hG2) (ld_c hG2)) (v_X10_becomeLate_28_3 (K := K) (F := F) a p0 G2 G ha hp0 hk9999 hj9999 hk9999a hj9999a hk9999b hj9999b hk9999c hj9999c hk9999d hj9999d hk9999e hj9999e hk9999f hj9999g hk9999g hj9999i hk9999h hj9999k hk9999i hj9999m hk9999j hj9999o hk9999k hj9999q hk9999l hj9999r hk9999m hj9999s hk9999n hj9999t hk9999o hj9999v hk9999p hj9999y hk9999q hj9999z25 hk9999r hj9999z27 hk9999s hj9999z29 hG2 ron rob bko sb sw (xzi hz6) c9 (ld_c hG2) (ld_c hG2) (ld_c hG2) (ld_c hG2) (ld_c hG2) (ld_c hG2) (ld_c hG2) (ld_c hG2) (ld_c hG2) (ld_c hG2) (ld_r hG2) (ld_j hG2 (by decide)) (ld_j hG2 (by decide)) (ld_at hG2)) (v_X10_becomeLate_28_4 (K := K) (F := F) a p0 G2 G ha hp0 hk9999 hj9999 hk9999a hj9999a hk9999b hj9999b hk9999c hj9999c hk9999d hj9999d hk9999e hj9999e hk9999f hj9999g hk9999g hj9999i hk9999h hj9999k hk9999i hj9999m hk9999j hj9999o hk9999k hj9999q hk9999l hj9999r hk9999m hj9999s hk9999n hj9999t hk9999o hj9999v hk9999p hj9999y hk9999q hj9999z25 hk9999r hj9999z27 hk9999s hj9999z29 hG2 ron rob bko sb sw (xzi hz6) c9 (ld_c hG2) (ld_c hG2) (ld_c hG2) (ld_c hG2) (ld_c hG2) (ld_c hG2) (ld_c hG2) (ld_c hG2) (ld_c hG2) (ld_c hG2) (ld_j hG2 (by decide)) (ld_j hG2 (by decide)) (ld_at hG2)) (v_X10_becomeLate_28_5 (K := K) (F := F) a p0 G2 G ha hp0 hk9999 hj9999 hk9999a hj9999a hk9999b hj9999b hk9999c hj9999c hk9999d hj9999d hk9999e hj9999e hk9999f hj9999g hk9999g hj9999i hk9999h hj9999k hk9999i hj9999m hk9999j hj9999o hk9999k hj9999q hk9999l hj9999r hk9999m hj9999s hk9999n hj9999t hk9999o hj9999v hk9999p hj9999y hk9999q hj9999z25 hk9999r hj9999z27 hk9999s hj9999z29 hG2 ron rob bko sb sw (xzi hz6) c9 (ld_c hG2) (ld_c hG2) (ld_c hG2) (ld_c hG2) (ld_c hG2) (ld_c hG2) (ld_c hG2) (ld_c hG2) (ld_c hG2) (ld_c hG2) (ld_j hG2 (by decide)) (ld_j hG2 (by decide)) (ld_at hG2))) mv_X10_gather km_X10_240 rfl rfl ⟨Nat.le_of_ble_eq_true rfl, Nat.le_of_ble_eq_true rfl⟩ (rc_12 hK hT ha) hK (fun _ => XP.blind) (fun U hU hW => XP.at hK hz hS hT hU hW) rfl hl.1 (Nat.le_of_ble_eq_true rfl) dX10_becomeLate_28 ⟨Nat.le_of_ble_eq_true rfl, Nat.le_of_ble_eq_true rfl⟩) hS ?_
    rintro G28 H locs ⟨hF28, t28, oq28⟩ hT hS
    have t28 : 0 ≤ ((G28.1 (F a 8) 6).toInt) ∧ ((G28.1 (F a 8) 6).toInt) ≤ 1080 := t28
    have oq28 : qL G28 F (F a 8) = gaL G2 (G2.2.2.1 (F (F a 2) 1)) (vw (G.2.1 (F (F a 4) 0))) (vw (G.2.1 (F (F a 3) 0))) (1 : Int) (((G.1 (F a 2) 2).toInt)).toNat := by simp only [(show G2.2.1 (F (F a 4) 0) = G.2.1 (F (F a 4) 0) from (ld_c hG2)), (show G2.2.1 (F (F a 3) 0) = G.2.1 (F (F a 3) 0) from (ld_c hG2)), (show G2.1 (F a 2) 2 = G.1 (F a 2) 2 from (ld_j hG2 (by decide)))] at oq28; exact oq28
    refine lv_aload_n hx hb dX10_becomeLate_31 rfl (lv_at hl 0 rfl) ?_
    refine gX10_8 S hK hT ha kf_X10_57 dX10_becomeLate_32 (fun _ _ => ?_)
    refine lv_aload_n hx hb dX10_becomeLate_35 rfl (lv_at hl 1 rfl) ?_
    refine gX7_1 S hK hT hp0 kf_X10_130 dX10_becomeLate_36 (v := (G.1 p0 1)) ((hF28.1 _ _ (xnj (by decide) (xnj (by decide) xn0))).trans (ld_j hG2 (by decide))) (?_)
    refine x_clp (x_runV (b := (F a 8)) (As := [.int (G.1 p0 1)]) (rest := []) S (c_X4_ofRule l E K F G28 H (F a 8) (G.1 p0 1) hk9999a (t28)) mv_X4_ofRule km_X10_296 rfl rfl ⟨Nat.le_of_ble_eq_true rfl, Nat.le_of_ble_eq_true rfl⟩ (rc_6 hK hT hk9999a) hK (fun _ => XPh.blind) (fun U hU hW => XPh.at hK hz hS hT hU hW) rfl hl.1 (Nat.le_of_ble_eq_true rfl) dX10_becomeLate_39 ⟨Nat.le_of_ble_eq_true rfl, Nat.le_of_ble_eq_true rfl⟩) hS ?_
    rintro _ _ locs ⟨x39, rfl, t39⟩ hS
    have t39 : x39.toInt = (hv (aI (G28.2.1 (F (F a 8) 0))) 0 ((G.1 p0 1).toInt) ((G28.1 (F a 8) 6).toInt)) := t39
    refine lv_istore_n (lv' := [(2, .int x39), (0, .ref a), (1, .ref p0)]) hx hb dX10_becomeLate_42 rfl hl (by decide) rfl (fun ls hl => ?_)
    refine lv_aload_n hx hb dX10_becomeLate_43 rfl (lv_at hl 1 rfl) ?_
    refine gX10_15 S hK hT ha kf_X10_95 dX10_becomeLate_44 (fun _ _ => ?_)
    refine lv_iconst (v := 0) hx hb dX10_becomeLate_47 (by decide) ?_
    refine lv_dup2_11 hx hb dX10_becomeLate_48 rfl rfl ?_
    refine al_0 S hK hT hk9999b ar_26 (by decide) (by decide) dX10_becomeLate_49 (fun x49 hv49 o49 => ?_)
    have hv49 : x49.toInt = (aI (G.2.1 (F a 15)) 0) := hv49.trans (by rw [((by decide) : Int32.toInt 0 = (0 : Int)), (((hF28.2.1 _ (xn1 (xne_k hk9999b hk9999c (by decide)) (xn1 (xne_k hk9999b hk9999d (by decide)) (xn1 (xne_k hk9999b hk9999e (by decide)) (xn1 (xne_k hk9999b hk9999f (by decide)) (xn1 (xne_k hk9999b hk9999g (by decide)) (xn1 (xne_k hk9999b hk9999h (by decide)) (xn1 (xne_k hk9999b hk9999i (by decide)) (xn1 (xne_k hk9999b hk9999j (by decide)) (xn1 (xne_k hk9999b hk9999k (by decide)) xn0)))))))))).trans (ld_c hG2)) : G28.2.1 (F a 15) = G.2.1 (F a 15))])
    refine lv_iload_n hx hb dX10_becomeLate_50 rfl (lv_at hl 0 rfl) ?_
    refine xi_iadd hx hb (hv49 : Int32.toInt x49 = (aI (G.2.1 (F a 15)) 0)) (t39 : Int32.toInt x39 = (hv (aI (G28.2.1 (F (F a 8) 0))) 0 ((G.1 p0 1).toInt) ((G28.1 (F a 8) 6).toInt))) dX10_becomeLate_51 (fun x51 t51 => ?_)
    refine as_0 (x := x51) S hK hT hS hk9999b ar_26 aw_26 (by decide) (by decide) dX10_becomeLate_52 (fun H locs hT hS => ?_)
    obtain ⟨G52, hG52⟩ : ∃ GG : XG, GG = cput G28 (F a 15) (0 : Int32).toNatClampNeg x51 := ⟨_, rfl⟩
    rw [← hG52] at hT
    refine lv_iload_n hx hb dX10_becomeLate_53 rfl (lv_at hl 0 rfl) ?_
    exact x_ri hx hb hr hlk hQ (Nat.le_of_ble_eq_true rfl) (Nat.le_of_ble_eq_true rfl) hS dX10_becomeLate_54 G52 ⟨_, rfl, (by rw [hG52]; exact XFr.cput (XFr.call (by rw [hG2]; exact XFr.dput XFr.rf (List.mem_of_getElem? (i := 0) rfl)) hF28 (xm1 1 rfl (xm1 2 rfl xm0)) (xm1 1 rfl (xm1 2 rfl (xm1 3 rfl (xm1 4 rfl (xm1 5 rfl (xm1 6 rfl (xm1 7 rfl (xm1 8 rfl (xm1 9 rfl xm0))))))))) xm0) (List.mem_of_getElem? (i := 0) rfl)), (by rw [(show (G52.1 p0 9).toInt = (1 : Int) from (congrArg Int32.toInt ((lc_d hG52).trans ((hF28.1 _ _ (xnj (by decide) (xnj (by decide) xn0))).trans (ld_at hG2)))).trans ((by decide) : Int32.toInt 1 = (1 : Int))), (show (G52.1 (F a 8) 6).toInt = ((G28.1 (F a 8) 6).toInt) from (congrArg Int32.toInt (lc_d hG52)).trans (rfl : Int32.toInt (G28.1 (F a 8) 6) = ((G28.1 (F a 8) 6).toInt)))] <;> exact (z_X10_becomeLate_3 ((G28.1 (F a 8) 6).toInt) t28)), (by rw [(t39 : Int32.toInt x39 = (hv (aI (G28.2.1 (F (F a 8) 0))) 0 ((G.1 p0 1).toInt) ((G28.1 (F a 8) 6).toInt)))] <;> exact (v_X10_becomeLate_54_6 (K := K) (F := F) a p0 G2 G G28 G52 ha hp0 hG2 oq28 sb sw (xzi hz6) c9 t28 (lc_c hG52 (xne_k hk9999f hk9999b (by decide))) (lc_c hG52 (xne_k hk9999g hk9999b (by decide))) (lc_c hG52 (xne_k hk9999h hk9999b (by decide))) (lc_c hG52 (xne_k hk9999i hk9999b (by decide))) (lc_c hG52 (xne_k hk9999j hk9999b (by decide))) (lc_c hG52 (xne_k hk9999k hk9999b (by decide))) (ld_r hG2) (lc_d hG52)))⟩ hT
  · refine lv_iconst (v := 0) hx hb dX10_becomeLate_12 (by decide) ?_
    exact x_ri hx hb hr hlk hQ (Nat.le_of_ble_eq_true rfl) (Nat.le_of_ble_eq_true rfl) hS dX10_becomeLate_13 G2 ⟨_, rfl, (by rw [hG2]; exact XFr.dput XFr.rf (List.mem_of_getElem? (i := 0) rfl)), (by rw [(show (G2.1 p0 9).toInt = (1 : Int) from (congrArg Int32.toInt (ld_at hG2)).trans ((by decide) : Int32.toInt 1 = (1 : Int))), (show (G2.1 (F a 8) 6).toInt = ((G.1 (F a 8) 6).toInt) from (congrArg Int32.toInt (ld_j hG2 (by decide))).trans (rfl : Int32.toInt (G.1 (F a 8) 6) = ((G.1 (F a 8) 6).toInt)))] <;> exact (z_X10_becomeLate_3 ((G.1 (F a 8) 6).toInt) sw)), (v_X10_becomeLate_13_7 (K := K) (F := F) a p0 G2 G ha hp0 sb sw (xzi hz6) c9 (ld_c hG2) (ld_c hG2) (ld_c hG2) (ld_c hG2) (ld_c hG2) (ld_c hG2) (ld_j hG2 (by decide)))⟩ hT
