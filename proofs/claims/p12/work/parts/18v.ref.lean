theorem v_X11_stateOf_69_1 {F : Nat → Nat → Nat} (a : Nat) (G : XG)
    (hR : RV (G.2.1 (F a 10))) :
    RV (G.2.1 (F a 10)) := by exact hR
theorem v_X11_stateOf_104_2 {F : Nat → Nat → Nat} (a : Nat) (G : XG)
    (hR : RV (G.2.1 (F a 10))) :
    RV (G.2.1 (F a 10)) := by exact hR
theorem v_X11_stateOf_104_3 (G : XG) (p2 : Nat) (p3 : Int32)
    (hM : RM (G.2.1 p2) (p3.toInt)) :
    RM (G.2.1 p2) (p3.toInt) := by exact hM