abbrev rm_X10_wouldSet : Room := { frames := 7, cells := 0, slots := 0, locals := 170 }
set_option maxHeartbeats 4000000 in
set_option maxRecDepth 100000 in
theorem c_X10_wouldSet (l : Launch) (E : XE) (K : Nat → Nat) (F : Nat → Nat → Nat) (G : XG) (a : Nat) (p0 : Int32) (p1 : Int32) (p2 : Int32) (p3 : Int32) (ha : K a = 12) (sb : 0 ≤ ((G.1 (F a 2) 2).toInt) ∧ ((G.1 (F a 2) 2).toInt) ≤ 12) (ron : RO (vw (G.2.1 (F (F a 3) 0))) (aI (G.2.1 (F (F a 3) 1)))) (bko : BKr K G (G.2.2.1 (F (F a 2) 1))) : Met l yX10_wouldSet (xw yX10_wouldSet cX10_wouldSet 6 (some .int)) rm_X10_wouldSet (va_Pc [.ref a, .int p0, .int p1, .int p2, .int p3] (XP E K F G)) (XQ E (fun v (u : XG) => ∃ r : Int32, v = .int r ∧ XFr [(F a 11, 3), (F a 9, 6)] [F (F a 11) 0, F (F a 11) 1, F (F a 11) 2, F (F a 9) 0, F (F a 9) 1, F (F a 9) 2, F (F a 9) 3, F (F a 9) 4, F (F a 9) 5, F (F a 5) 0, F (F a 5) 1] [] G u ∧ ((r.toInt = -1 ∧ ¬ ((0 ≤ p0.toInt ∧ p0.toInt < 3) ∧ (0 ≤ p1.toInt ∧ p1.toInt < 30) ∧ (0 ≤ p2.toInt ∧ p2.toInt < 3) ∧ (p3.toInt = -1000 ∨ (-99 ≤ p3.toInt ∧ p3.toInt ≤ 99)))) ∨ (((0 ≤ p0.toInt ∧ p0.toInt < 3) ∧ (0 ≤ p1.toInt ∧ p1.toInt < 30) ∧ (0 ≤ p2.toInt ∧ p2.toInt < 3) ∧ (p3.toInt = -1000 ∨ (-99 ≤ p3.toInt ∧ p3.toInt ≤ 99))) ∧ r.toInt = -2 ∧ cel (vw (G.2.1 (F (F a 3) 0))) p0.toInt p1.toInt 0 = -2000) ∨ (((0 ≤ p0.toInt ∧ p0.toInt < 3) ∧ (0 ≤ p1.toInt ∧ p1.toInt < 30) ∧ (0 ≤ p2.toInt ∧ p2.toInt < 3) ∧ (p3.toInt = -1000 ∨ (-99 ≤ p3.toInt ∧ p3.toInt ≤ 99))) ∧ cel (vw (G.2.1 (F (F a 3) 0))) p0.toInt p1.toInt 0 ≠ -2000 ∧ r.toInt = -4 ∧ cel (vw (G.2.1 (F (F a 3) 0))) p0.toInt p1.toInt p2.toInt = p3.toInt) ∨ (((0 ≤ p0.toInt ∧ p0.toInt < 3) ∧ (0 ≤ p1.toInt ∧ p1.toInt < 30) ∧ (0 ≤ p2.toInt ∧ p2.toInt < 3) ∧ (p3.toInt = -1000 ∨ (-99 ≤ p3.toInt ∧ p3.toInt ≤ 99))) ∧ cel (vw (G.2.1 (F (F a 3) 0))) p0.toInt p1.toInt 0 ≠ -2000 ∧ cel (vw (G.2.1 (F (F a 3) 0))) p0.toInt p1.toInt p2.toInt ≠ p3.toInt ∧ AnsR ((G.1 a 18).toInt) r.toInt (gaL G (G.2.2.1 (F (F a 2) 1)) (vw (G.2.1 (F (F a 3) 0))) (rset (vw (G.2.1 (F (F a 3) 0))) (90 * p0.toInt + 30 * p2.toInt + p1.toInt) p3.toInt) 0 (((G.1 (F a 2) 2).toInt)).toNat)))) (fun u H => TW E K F u H)) 0 0 (xA E) := by
  refine x_enter (by decide) (Nat.le_of_ble_eq_true rfl) ?_
  intro p e s m args below meth c Q S hr hlk hnm hQ hP ls hl
  obtain ⟨hz, hK, hT⟩ := hP
  obtain ⟨hx, hb, -, -, -⟩ := id S
  obtain ⟨H, hT, hS, hgo⟩ : ∃ H : Heap, TW E K F G H ∧ va_S (xA E) s.heap H [] ∧ H = s.heap := ⟨_, hT, va_S.rf, rfl⟩
  rw [← hgo]
  have hl : lv_has ls 6 [(0, .ref a), (1, .int p0), (2, .int p1), (3, .int p2), (4, .int p3)] := hl
  obtain ⟨hk9999, hj9999⟩ := fkX10_11 hT ha
  obtain ⟨hk9999a, hj9999a⟩ := fkX10_9 hT ha
  obtain ⟨hk9999b, hj9999b⟩ := fkX1_0 hT hk9999
  obtain ⟨hk9999c, hj9999c⟩ := fkX1_1 hT hk9999
  obtain ⟨hk9999d, hj9999d⟩ := fkX1_2 hT hk9999
  obtain ⟨hk9999e, hj9999e⟩ := fkX4_0 hT hk9999a
  have hj9999f : F (F (F a 9) 0) 99 = 10 * 1 + 0 := by rw [hj9999e, hj9999a]
  obtain ⟨hk9999f, hj9999g⟩ := fkX4_1 hT hk9999a
  have hj9999h : F (F (F a 9) 1) 99 = 10 * 1 + 1 := by rw [hj9999g, hj9999a]
  obtain ⟨hk9999g, hj9999i⟩ := fkX4_2 hT hk9999a
  have hj9999j : F (F (F a 9) 2) 99 = 10 * 1 + 2 := by rw [hj9999i, hj9999a]
  obtain ⟨hk9999h, hj9999k⟩ := fkX4_3 hT hk9999a
  have hj9999l : F (F (F a 9) 3) 99 = 10 * 1 + 3 := by rw [hj9999k, hj9999a]
  obtain ⟨hk9999i, hj9999m⟩ := fkX4_4 hT hk9999a
  have hj9999n : F (F (F a 9) 4) 99 = 10 * 1 + 4 := by rw [hj9999m, hj9999a]
  obtain ⟨hk9999j, hj9999o⟩ := fkX4_5 hT hk9999a
  have hj9999p : F (F (F a 9) 5) 99 = 10 * 1 + 5 := by rw [hj9999o, hj9999a]
  obtain ⟨hk9999k, hj9999q⟩ := fkX10_5 hT ha
  obtain ⟨hk9999l, hj9999r⟩ := fkX6_0 hT hk9999k
  have hj9999s : F (F (F a 5) 0) 99 = 2 := by rw [hj9999r, hj9999q]
  obtain ⟨hk9999m, hj9999t⟩ := fkX6_1 hT hk9999k
  have hj9999u : F (F (F a 5) 1) 99 = 2 := by rw [hj9999t, hj9999q]
  obtain ⟨hk9999n, hj9999v⟩ := fkX10_2 hT ha
  obtain ⟨hk9999o, hj9999w⟩ := fkX0_1 hT hk9999n
  obtain ⟨hk9999p, hj9999y⟩ := fkX10_3 hT ha
  obtain ⟨hk9999q, hj9999z25⟩ := fkX6_0 hT hk9999p
  have hj9999z26 : F (F (F a 3) 0) 99 = 0 := by rw [hj9999z25, hj9999y]
  obtain ⟨hk9999r, hj9999z27⟩ := fkX6_1 hT hk9999p
  have hj9999z28 : F (F (F a 3) 1) 99 = 0 := by rw [hj9999z27, hj9999y]
  refine lv_aload_n hx hb dX10_wouldSet_0 rfl (lv_at hl 0 rfl) ?_
  refine lv_iload_n hx hb dX10_wouldSet_1 rfl (lv_at hl 1 rfl) ?_
  refine lv_iload_n hx hb dX10_wouldSet_2 rfl (lv_at hl 2 rfl) ?_
  refine lv_iload_n hx hb dX10_wouldSet_3 rfl (lv_at hl 3 rfl) ?_
  refine lv_iload hx hb dX10_wouldSet_4 (lv_at hl 4 rfl) ?_
  refine x_cl0 (x_runV (b := a) (As := [.int p0, .int p1, .int p2, .int p3]) (rest := []) S (c_X10_setOnPaper l E K F G a p0 p1 p2 p3 ha (v_X10_wouldSet_6_1 (F := F) a G ron)) mv_X10_setOnPaper km_X10_210 rfl rfl ⟨Nat.le_of_ble_eq_true rfl, Nat.le_of_ble_eq_true rfl⟩ (rc_12 hK hT ha) hK (fun _ => XP.blind) (fun U hU hW => XP.at hK hz hS hT hU hW) rfl hl.1 (Nat.le_of_ble_eq_true rfl) dX10_wouldSet_6 ⟨Nat.le_of_ble_eq_true rfl, Nat.le_of_ble_eq_true rfl⟩) hS ?_
  rintro _ G6 H locs ⟨x6, rfl, hF6, t6, oq6⟩ hT hS
  have t6 : -4 ≤ x6.toInt ∧ x6.toInt ≤ 0 := t6
  refine lv_istore (lv' := [(5, .int x6), (0, .ref a), (1, .int p0), (2, .int p1), (3, .int p2), (4, .int p3)]) hx hb dX10_wouldSet_9 hl (by decide) rfl (fun ls hl => ?_)
  refine lv_iload hx hb dX10_wouldSet_11 (lv_at hl 0 rfl) ?_
  refine xi_zge (tgt := 21) hx hb (rfl : Int32.toInt x6 = x6.toInt) dX10_wouldSet_13 (by decide) (fun c13 => ?_) (fun c13 => ?_)
  · refine lv_aload_n hx hb dX10_wouldSet_21 rfl (lv_at hl 1 rfl) ?_
    refine x_cl0 (x_runV (b := a) (As := []) (rest := []) S (c_X10_answerOnPaper l E K F G6 a ha (by rw [(show (G6.1 (F a 2) 2).toInt = ((G.1 (F a 2) 2).toInt) from (congrArg Int32.toInt (hF6.1 _ _ xn0)).trans (rfl : Int32.toInt (G.1 (F a 2) 2) = ((G.1 (F a 2) 2).toInt)))] <;> exact (sb)) (v_X10_wouldSet_22_2 (F := F) a G G6 ron (hF6.2.1 _ (xn1 (xne_j hj9999z26 hj9999s (by first | decide | omega)) (xn1 (xne_k hk9999q hk9999m (by decide)) xn0))) (hF6.2.1 _ (xn1 (xne_k hk9999r hk9999l (by decide)) (xn1 (xne_j hj9999z28 hj9999u (by first | decide | omega)) xn0)))) (v_X10_wouldSet_22_3 (F := F) x6 p0 p1 p2 p3 G a G6 oq6 t6 c13) (v_X10_wouldSet_22_4 (K := K) (F := F) a G G6 hF6 bko (hF6.2.2 _ xn0))) mv_X10_answerOnPaper km_X10_352 rfl rfl ⟨Nat.le_of_ble_eq_true rfl, Nat.le_of_ble_eq_true rfl⟩ (rc_12 hK hT ha) hK (fun _ => XP.blind) (fun U hU hW => XP.at hK hz hS hT hU hW) rfl hl.1 (Nat.le_of_ble_eq_true rfl) dX10_wouldSet_22 ⟨Nat.le_of_ble_eq_true rfl, Nat.le_of_ble_eq_true rfl⟩) hS ?_
    rintro _ G22 H locs ⟨x22, rfl, hF22, oq22⟩ hT hS
    have oq22 : AnsR ((G.1 a 18).toInt) x22.toInt (gaL G6 (G6.2.2.1 (F (F a 2) 1)) (vw (G.2.1 (F (F a 3) 0))) (vw (G6.2.1 (F (F a 5) 0))) 0 (((G.1 (F a 2) 2).toInt)).toNat) := by simp only [(show G6.1 a 18 = G.1 a 18 from (hF6.1 _ _ xn0)), (show G6.2.1 (F (F a 3) 0) = G.2.1 (F (F a 3) 0) from (hF6.2.1 _ (xn1 (xne_j hj9999z26 hj9999s (by first | decide | omega)) (xn1 (xne_k hk9999q hk9999m (by decide)) xn0)))), (show G6.1 (F a 2) 2 = G.1 (F a 2) 2 from (hF6.1 _ _ xn0))] at oq22; exact oq22
    exact x_ri hx hb hr hlk hQ (Nat.le_of_ble_eq_true rfl) (Nat.le_of_ble_eq_true rfl) hS dX10_wouldSet_25 G22 ⟨_, rfl, (XFr.call (XFr.call XFr.rf hF6 xm0 (xm1 9 rfl (xm1 10 rfl xm0)) xm0) hF22 (xm1 0 rfl (xm1 1 rfl xm0)) (xm1 0 rfl (xm1 1 rfl (xm1 2 rfl (xm1 3 rfl (xm1 4 rfl (xm1 5 rfl (xm1 6 rfl (xm1 7 rfl (xm1 8 rfl xm0))))))))) xm0), (v_X10_wouldSet_25_5 (K := K) (F := F) a G G6 x6 p0 p1 p2 p3 x22 ha hk9999 hj9999 hk9999a hj9999a hk9999b hj9999b hk9999c hj9999c hk9999d hj9999d hk9999e hj9999f hk9999f hj9999h hk9999g hj9999j hk9999h hj9999l hk9999i hj9999n hk9999j hj9999p hk9999k hj9999q hk9999l hj9999s hk9999m hj9999u hk9999n hj9999v hk9999o hj9999w hk9999p hj9999y hk9999q hj9999z26 hk9999r hj9999z28 hF6 bko oq6 oq22 sb t6 c13 (hF6.2.2 _ xn0))⟩ hT
  · refine lv_iload hx hb dX10_wouldSet_16 (lv_at hl 0 rfl) ?_
    refine lv_goto (tgt := 25) hx hb dX10_wouldSet_18 (by decide) ?_
    exact x_ri hx hb hr hlk hQ (Nat.le_of_ble_eq_true rfl) (Nat.le_of_ble_eq_true rfl) hS dX10_wouldSet_25 G6 ⟨_, rfl, (XFr.call XFr.rf hF6 xm0 (xm1 9 rfl (xm1 10 rfl xm0)) xm0), (v_X10_wouldSet_25_6 (K := K) (F := F) a G G6 x6 p0 p1 p2 p3 ha hk9999 hj9999 hk9999a hj9999a hk9999b hj9999b hk9999c hj9999c hk9999d hj9999d hk9999e hj9999f hk9999f hj9999h hk9999g hj9999j hk9999h hj9999l hk9999i hj9999n hk9999j hj9999p hk9999k hj9999q hk9999l hj9999s hk9999m hj9999u hk9999n hj9999v hk9999o hj9999w hk9999p hj9999y hk9999q hj9999z26 hk9999r hj9999z28 hF6 bko oq6 sb t6 c13 (hF6.2.2 _ xn0))⟩ hT
theorem v_X10_question_27_1 {K : Nat → Nat} {F : Nat → Nat → Nat} (a : Nat) (G : XG) (p0 : Int32) (p1 : Int32) (p2 : Int32)
    (ha : K a = 12)
    (hn5 : (p0.toInt < 0 ∨ 12 ≤ p0.toInt) ∨ G.2.2.1 (F (F a 2) 0) (p0.toInt).toNat = none) :
    (((p0.toInt < 0 ∨ 12 ≤ p0.toInt) ∨ G.2.2.1 (F (F a 2) 0) (p0.toInt).toNat = none) ∧ (-2147483648 : Int) = -2147483648) ∨ (∃ q : Nat, ((0 ≤ p0.toInt ∧ p0.toInt < 12) ∧ G.2.2.1 (F (F a 2) 0) (p0.toInt).toNat = some q) ∧ (-2147483648 : Int) = quS (vw (G.2.1 (F (F a 3) 0))) (G.1 q 0).toInt (G.1 q 2).toInt (G.1 q 3).toInt (G.1 q 4).toInt (G.1 q 5).toInt (G.1 q 6).toInt p1.toInt p2.toInt) := by
  first
    | exact Or.inl ⟨hn5, rfl⟩
    | exact Or.inr ⟨q5, ⟨ht5, hs5⟩, (quS_n (by unfold sbj; omega)).symm⟩
theorem v_X10_question_35_2 {F : Nat → Nat → Nat} (a : Nat) (G : XG)
    (ron : RO (vw (G.2.1 (F (F a 3) 0))) (aI (G.2.1 (F (F a 3) 1)))) :
    RO (vw (G.2.1 (F (F a 3) 0))) (aI (G.2.1 (F (F a 3) 1))) := by exact ron
theorem v_X10_question_35_3 {K : Nat → Nat} {F : Nat → Nat → Nat} (G : XG) (a : Nat) (p0 : Int32) (q5 : Nat)
    (bkn : BKr K G (G.2.2.1 (F (F a 2) 0)))
    (hs5 : G.2.2.1 (F (F a 2) 0) (p0.toInt).toNat = some q5)
    (ht5 : 0 ≤ p0.toInt ∧ p0.toInt < 12) :
    RW (G.1 q5) := by
  exact (bkn p0.toInt.toNat q5 (by omega) hs5).2
theorem v_X10_question_95_4 {F : Nat → Nat → Nat} (a : Nat) (q5 : Nat) (G : XG) (p0 : Int32) (p1 : Int32) (p2 : Int32)
    (hs5 : G.2.2.1 (F (F a 2) 0) (p0.toInt).toNat = some q5)
    (ht5 : 0 ≤ p0.toInt ∧ p0.toInt < 12)
    (c41 : ¬ p2.toInt = 0 ∧ ¬ p2.toInt = 1) :
    (((p0.toInt < 0 ∨ 12 ≤ p0.toInt) ∨ G.2.2.1 (F (F a 2) 0) (p0.toInt).toNat = none) ∧ (-2147483648 : Int) = -2147483648) ∨ (∃ q : Nat, ((0 ≤ p0.toInt ∧ p0.toInt < 12) ∧ G.2.2.1 (F (F a 2) 0) (p0.toInt).toNat = some q) ∧ (-2147483648 : Int) = quS (vw (G.2.1 (F (F a 3) 0))) (G.1 q 0).toInt (G.1 q 2).toInt (G.1 q 3).toInt (G.1 q 4).toInt (G.1 q 5).toInt (G.1 q 6).toInt p1.toInt p2.toInt) := by
  exact Or.inr ⟨q5, ⟨ht5, hs5⟩, (quS_o c41.1 c41.2).symm⟩
theorem v_X10_question_70_5 {K : Nat → Nat} {F : Nat → Nat → Nat} (a : Nat) (q5 : Nat) (G : XG) (p0 : Int32) (p1 : Int32) (x18 : Int32) (p2 : Int32)
    (ha : K a = 12)
    (hs5 : G.2.2.1 (F (F a 2) 0) (p0.toInt).toNat = some q5)
    (ht5 : 0 ≤ p0.toInt ∧ p0.toInt < 12)
    (t18 : ((((((G.1 q5 0).toInt) = 2 ∨ ((G.1 q5 0).toInt) = 4 ∨ ((G.1 q5 0).toInt) = 5) ∧ 0 ≤ p1.toInt ∧ p1.toInt < 30) ∨ (¬ (((G.1 q5 0).toInt) = 2 ∨ ((G.1 q5 0).toInt) = 4 ∨ ((G.1 q5 0).toInt) = 5) ∧ -99 ≤ p1.toInt ∧ p1.toInt ≤ 99)) ∧ x18.toInt = 1) ∨ (¬ (((((G.1 q5 0).toInt) = 2 ∨ ((G.1 q5 0).toInt) = 4 ∨ ((G.1 q5 0).toInt) = 5) ∧ 0 ≤ p1.toInt ∧ p1.toInt < 30) ∨ (¬ (((G.1 q5 0).toInt) = 2 ∨ ((G.1 q5 0).toInt) = 4 ∨ ((G.1 q5 0).toInt) = 5) ∧ -99 ≤ p1.toInt ∧ p1.toInt ≤ 99)) ∧ x18.toInt = 0))
    (c21 : x18.toInt ≠ 0)
    (c41 : p2.toInt = 0) :
    (((p0.toInt < 0 ∨ 12 ≤ p0.toInt) ∨ G.2.2.1 (F (F a 2) 0) (p0.toInt).toNat = none) ∧ (stt (vw (G.2.1 (F (F a 3) 0))) ((G.1 q5 0).toInt) ((G.1 q5 2).toInt) ((G.1 q5 3).toInt) ((G.1 q5 4).toInt) (p1.toInt)) = -2147483648) ∨ (∃ q : Nat, ((0 ≤ p0.toInt ∧ p0.toInt < 12) ∧ G.2.2.1 (F (F a 2) 0) (p0.toInt).toNat = some q) ∧ (stt (vw (G.2.1 (F (F a 3) 0))) ((G.1 q5 0).toInt) ((G.1 q5 2).toInt) ((G.1 q5 3).toInt) ((G.1 q5 4).toInt) (p1.toInt)) = quS (vw (G.2.1 (F (F a 3) 0))) (G.1 q 0).toInt (G.1 q 2).toInt (G.1 q 3).toInt (G.1 q 4).toInt (G.1 q 5).toInt (G.1 q 6).toInt p1.toInt p2.toInt) := by
  exact Or.inr ⟨q5, ⟨ht5, hs5⟩, (quS_0 (by unfold sbj; omega) c41).symm⟩
theorem v_X10_question_80_6 {F : Nat → Nat → Nat} (a : Nat) (G : XG)
    (ron : RO (vw (G.2.1 (F (F a 3) 0))) (aI (G.2.1 (F (F a 3) 1)))) :
    RO (vw (G.2.1 (F (F a 3) 0))) (aI (G.2.1 (F (F a 3) 1))) := by exact ron
theorem v_X10_question_80_7 {K : Nat → Nat} {F : Nat → Nat → Nat} (G : XG) (a : Nat) (p0 : Int32) (q5 : Nat)
    (bkn : BKr K G (G.2.2.1 (F (F a 2) 0)))
    (hs5 : G.2.2.1 (F (F a 2) 0) (p0.toInt).toNat = some q5)
    (ht5 : 0 ≤ p0.toInt ∧ p0.toInt < 12) :
    RW (G.1 q5) := by
  exact (bkn p0.toInt.toNat q5 (by omega) hs5).2
theorem v_X10_question_91_8 {K : Nat → Nat} {F : Nat → Nat → Nat} (a : Nat) (q5 : Nat) (G : XG) (p0 : Int32) (p1 : Int32) (x18 : Int32) (p2 : Int32) (x80 : Int32)
    (ha : K a = 12)
    (hs5 : G.2.2.1 (F (F a 2) 0) (p0.toInt).toNat = some q5)
    (ht5 : 0 ≤ p0.toInt ∧ p0.toInt < 12)
    (t18 : ((((((G.1 q5 0).toInt) = 2 ∨ ((G.1 q5 0).toInt) = 4 ∨ ((G.1 q5 0).toInt) = 5) ∧ 0 ≤ p1.toInt ∧ p1.toInt < 30) ∨ (¬ (((G.1 q5 0).toInt) = 2 ∨ ((G.1 q5 0).toInt) = 4 ∨ ((G.1 q5 0).toInt) = 5) ∧ -99 ≤ p1.toInt ∧ p1.toInt ≤ 99)) ∧ x18.toInt = 1) ∨ (¬ (((((G.1 q5 0).toInt) = 2 ∨ ((G.1 q5 0).toInt) = 4 ∨ ((G.1 q5 0).toInt) = 5) ∧ 0 ≤ p1.toInt ∧ p1.toInt < 30) ∨ (¬ (((G.1 q5 0).toInt) = 2 ∨ ((G.1 q5 0).toInt) = 4 ∨ ((G.1 q5 0).toInt) = 5) ∧ -99 ≤ p1.toInt ∧ p1.toInt ≤ 99)) ∧ x18.toInt = 0))
    (c21 : x18.toInt ≠ 0)
    (c41 : p2.toInt = 1)
    (t80 : x80.toInt = (flq (vw (G.2.1 (F (F a 3) 0))) ((G.1 q5 0).toInt) ((G.1 q5 2).toInt) ((G.1 q5 3).toInt) ((G.1 q5 5).toInt) ((G.1 q5 6).toInt) (p1.toInt) (stt (vw (G.2.1 (F (F a 3) 0))) ((G.1 q5 0).toInt) ((G.1 q5 2).toInt) ((G.1 q5 3).toInt) ((G.1 q5 4).toInt) (p1.toInt))))
    (f21 : x80.toInt = 0 ∨ x80.toInt = 1)
    (c83 : x80.toInt = 0) :
    (((p0.toInt < 0 ∨ 12 ≤ p0.toInt) ∨ G.2.2.1 (F (F a 2) 0) (p0.toInt).toNat = none) ∧ (0 : Int) = -2147483648) ∨ (∃ q : Nat, ((0 ≤ p0.toInt ∧ p0.toInt < 12) ∧ G.2.2.1 (F (F a 2) 0) (p0.toInt).toNat = some q) ∧ (0 : Int) = quS (vw (G.2.1 (F (F a 3) 0))) (G.1 q 0).toInt (G.1 q 2).toInt (G.1 q 3).toInt (G.1 q 4).toInt (G.1 q 5).toInt (G.1 q 6).toInt p1.toInt p2.toInt) := by
  exact Or.inr ⟨q5, ⟨ht5, hs5⟩, (by rw [quS_1 (by unfold sbj; omega) c41, ← t80]; omega)⟩
theorem v_X10_question_91_9 {K : Nat → Nat} {F : Nat → Nat → Nat} (a : Nat) (q5 : Nat) (G : XG) (p0 : Int32) (p1 : Int32) (x18 : Int32) (p2 : Int32) (x80 : Int32)
    (ha : K a = 12)
    (hs5 : G.2.2.1 (F (F a 2) 0) (p0.toInt).toNat = some q5)
    (ht5 : 0 ≤ p0.toInt ∧ p0.toInt < 12)
    (t18 : ((((((G.1 q5 0).toInt) = 2 ∨ ((G.1 q5 0).toInt) = 4 ∨ ((G.1 q5 0).toInt) = 5) ∧ 0 ≤ p1.toInt ∧ p1.toInt < 30) ∨ (¬ (((G.1 q5 0).toInt) = 2 ∨ ((G.1 q5 0).toInt) = 4 ∨ ((G.1 q5 0).toInt) = 5) ∧ -99 ≤ p1.toInt ∧ p1.toInt ≤ 99)) ∧ x18.toInt = 1) ∨ (¬ (((((G.1 q5 0).toInt) = 2 ∨ ((G.1 q5 0).toInt) = 4 ∨ ((G.1 q5 0).toInt) = 5) ∧ 0 ≤ p1.toInt ∧ p1.toInt < 30) ∨ (¬ (((G.1 q5 0).toInt) = 2 ∨ ((G.1 q5 0).toInt) = 4 ∨ ((G.1 q5 0).toInt) = 5) ∧ -99 ≤ p1.toInt ∧ p1.toInt ≤ 99)) ∧ x18.toInt = 0))
    (c21 : x18.toInt ≠ 0)
    (c41 : p2.toInt = 1)
    (t80 : x80.toInt = (flq (vw (G.2.1 (F (F a 3) 0))) ((G.1 q5 0).toInt) ((G.1 q5 2).toInt) ((G.1 q5 3).toInt) ((G.1 q5 5).toInt) ((G.1 q5 6).toInt) (p1.toInt) (stt (vw (G.2.1 (F (F a 3) 0))) ((G.1 q5 0).toInt) ((G.1 q5 2).toInt) ((G.1 q5 3).toInt) ((G.1 q5 4).toInt) (p1.toInt))))
    (f21 : x80.toInt = 0 ∨ x80.toInt = 1)
    (c83 : ¬ (x80.toInt = 0)) :
    (((p0.toInt < 0 ∨ 12 ≤ p0.toInt) ∨ G.2.2.1 (F (F a 2) 0) (p0.toInt).toNat = none) ∧ (1 : Int) = -2147483648) ∨ (∃ q : Nat, ((0 ≤ p0.toInt ∧ p0.toInt < 12) ∧ G.2.2.1 (F (F a 2) 0) (p0.toInt).toNat = some q) ∧ (1 : Int) = quS (vw (G.2.1 (F (F a 3) 0))) (G.1 q 0).toInt (G.1 q 2).toInt (G.1 q 3).toInt (G.1 q 4).toInt (G.1 q 5).toInt (G.1 q 6).toInt p1.toInt p2.toInt) := by
  exact Or.inr ⟨q5, ⟨ht5, hs5⟩, (by rw [quS_1 (by unfold sbj; omega) c41, ← t80]; omega)⟩
theorem v_X10_question_27_10 {K : Nat → Nat} {F : Nat → Nat → Nat} (a : Nat) (q5 : Nat) (G : XG) (p0 : Int32) (p1 : Int32) (x18 : Int32) (p2 : Int32)
    (ha : K a = 12)
    (hs5 : G.2.2.1 (F (F a 2) 0) (p0.toInt).toNat = some q5)
    (ht5 : 0 ≤ p0.toInt ∧ p0.toInt < 12)
    (t18 : ((((((G.1 q5 0).toInt) = 2 ∨ ((G.1 q5 0).toInt) = 4 ∨ ((G.1 q5 0).toInt) = 5) ∧ 0 ≤ p1.toInt ∧ p1.toInt < 30) ∨ (¬ (((G.1 q5 0).toInt) = 2 ∨ ((G.1 q5 0).toInt) = 4 ∨ ((G.1 q5 0).toInt) = 5) ∧ -99 ≤ p1.toInt ∧ p1.toInt ≤ 99)) ∧ x18.toInt = 1) ∨ (¬ (((((G.1 q5 0).toInt) = 2 ∨ ((G.1 q5 0).toInt) = 4 ∨ ((G.1 q5 0).toInt) = 5) ∧ 0 ≤ p1.toInt ∧ p1.toInt < 30) ∨ (¬ (((G.1 q5 0).toInt) = 2 ∨ ((G.1 q5 0).toInt) = 4 ∨ ((G.1 q5 0).toInt) = 5) ∧ -99 ≤ p1.toInt ∧ p1.toInt ≤ 99)) ∧ x18.toInt = 0))
    (c21 : ¬ (x18.toInt ≠ 0)) :
    (((p0.toInt < 0 ∨ 12 ≤ p0.toInt) ∨ G.2.2.1 (F (F a 2) 0) (p0.toInt).toNat = none) ∧ (-2147483648 : Int) = -2147483648) ∨ (∃ q : Nat, ((0 ≤ p0.toInt ∧ p0.toInt < 12) ∧ G.2.2.1 (F (F a 2) 0) (p0.toInt).toNat = some q) ∧ (-2147483648 : Int) = quS (vw (G.2.1 (F (F a 3) 0))) (G.1 q 0).toInt (G.1 q 2).toInt (G.1 q 3).toInt (G.1 q 4).toInt (G.1 q 5).toInt (G.1 q 6).toInt p1.toInt p2.toInt) := by
  first
    | exact Or.inl ⟨hn5, rfl⟩
    | exact Or.inr ⟨q5, ⟨ht5, hs5⟩, (quS_n (by unfold sbj; omega)).symm⟩
theorem v_X10_depth_37_1 {K : Nat → Nat} {F : Nat → Nat → Nat} (a : Nat) (G : XG) (p0 : Int32) (p1 : Int32)
    (ha : K a = 12)
    (hn5 : (p0.toInt < 0 ∨ 12 ≤ p0.toInt) ∨ G.2.2.1 (F (F a 2) 0) (p0.toInt).toNat = none) :
    (((p0.toInt < 0 ∨ 12 ≤ p0.toInt) ∨ G.2.2.1 (F (F a 2) 0) (p0.toInt).toNat = none) ∧ (-1 : Int) = -1) ∨ (∃ q : Nat, ((0 ≤ p0.toInt ∧ p0.toInt < 12) ∧ G.2.2.1 (F (F a 2) 0) (p0.toInt).toNat = some q) ∧ (-1 : Int) = dpS (vw (G.2.1 (F (F a 3) 0))) (G.1 q 0).toInt (G.1 q 2).toInt (G.1 q 3).toInt p1.toInt) := by
  first
    | exact Or.inl ⟨hn5, rfl⟩
    | exact Or.inr ⟨q5, ⟨ht5, hs5⟩, (dpS_n (by omega)).symm⟩
theorem v_X10_depth_37_2 {K : Nat → Nat} {F : Nat → Nat → Nat} (a : Nat) (q5 : Nat) (G : XG) (p0 : Int32) (p1 : Int32)
    (ha : K a = 12)
    (hs5 : G.2.2.1 (F (F a 2) 0) (p0.toInt).toNat = some q5)
    (ht5 : 0 ≤ p0.toInt ∧ p0.toInt < 12)
    (c18 : ((G.1 q5 0).toInt) ≠ (5 : Int)) :
    (((p0.toInt < 0 ∨ 12 ≤ p0.toInt) ∨ G.2.2.1 (F (F a 2) 0) (p0.toInt).toNat = none) ∧ (-1 : Int) = -1) ∨ (∃ q : Nat, ((0 ≤ p0.toInt ∧ p0.toInt < 12) ∧ G.2.2.1 (F (F a 2) 0) (p0.toInt).toNat = some q) ∧ (-1 : Int) = dpS (vw (G.2.1 (F (F a 3) 0))) (G.1 q 0).toInt (G.1 q 2).toInt (G.1 q 3).toInt p1.toInt) := by
  first
    | exact Or.inl ⟨hn5, rfl⟩
    | exact Or.inr ⟨q5, ⟨ht5, hs5⟩, (dpS_n (by omega)).symm⟩
theorem v_X10_depth_30_3 {F : Nat → Nat → Nat} (a : Nat) (G : XG)
    (ron : RO (vw (G.2.1 (F (F a 3) 0))) (aI (G.2.1 (F (F a 3) 1)))) :
    RO (vw (G.2.1 (F (F a 3) 0))) (aI (G.2.1 (F (F a 3) 1))) := by exact ron
theorem v_X10_depth_101_4 {K : Nat → Nat} {F : Nat → Nat → Nat} (a : Nat) (q5 : Nat) (G : XG) (p0 : Int32) (p1 : Int32) (l5_44 : Int32) (l4_44 : Int32) (x30 : Int32) (N44 : Nat)
    (ha : K a = 12)
    (hs5 : G.2.2.1 (F (F a 2) 0) (p0.toInt).toNat = some q5)
    (dp : dpF (vw (G.2.1 (F (F a 3) 0))) ((G.1 q5 2).toInt) ((G.1 q5 3).toInt) 31 0 (p1.toInt) = dpF (vw (G.2.1 (F (F a 3) 0))) ((G.1 q5 2).toInt) ((G.1 q5 3).toInt) (31 - l5_44.toInt).toNat (l5_44.toInt) (l4_44.toInt))
    (ht5 : 0 ≤ p0.toInt ∧ p0.toInt < 12)
    (c18 : ¬ (((G.1 q5 0).toInt) ≠ (5 : Int)))
    (t30 : (x30.toInt = 1 ∧ (cel (vw (G.2.1 (F (F a 3) 0))) ((G.1 q5 2).toInt) (p1.toInt) 0) ≠ -2000) ∨ (x30.toInt = 0 ∧ (cel (vw (G.2.1 (F (F a 3) 0))) ((G.1 q5 2).toInt) (p1.toInt) 0) = -2000))
    (c33 : x30.toInt ≠ 0)
    (I44_0 : 0 ≤ l5_44.toInt ∧ l5_44.toInt ≤ 31)
    (hm44 : 100 - l5_44.toInt < (((N44) + 1 : Nat) : Int))
    (c48 : (30 : Int) < l5_44.toInt) :
    (((p0.toInt < 0 ∨ 12 ≤ p0.toInt) ∨ G.2.2.1 (F (F a 2) 0) (p0.toInt).toNat = none) ∧ (-2 : Int) = -1) ∨ (∃ q : Nat, ((0 ≤ p0.toInt ∧ p0.toInt < 12) ∧ G.2.2.1 (F (F a 2) 0) (p0.toInt).toNat = some q) ∧ (-2 : Int) = dpS (vw (G.2.1 (F (F a 3) 0))) (G.1 q 0).toInt (G.1 q 2).toInt (G.1 q 3).toInt p1.toInt) := by
  have e : (31 - l5_44.toInt).toNat = 0 := by omega
  rw [e] at dp
  exact Or.inr ⟨q5, ⟨ht5, hs5⟩, ((dpS_i (by omega)).trans dp).symm⟩
theorem v_X10_depth_80_5 {F : Nat → Nat → Nat} (a : Nat) (G : XG)
    (ron : RO (vw (G.2.1 (F (F a 3) 0))) (aI (G.2.1 (F (F a 3) 1)))) :
    RO (vw (G.2.1 (F (F a 3) 0))) (aI (G.2.1 (F (F a 3) 1))) := by exact ron
theorem v_X10_depth_96_6 {K : Nat → Nat} {F : Nat → Nat → Nat} (a : Nat) (q5 : Nat) (G : XG) (p0 : Int32) (p1 : Int32) (l5_44 : Int32) (l4_44 : Int32) (x30 : Int32) (N44 : Nat) (x80 : Int32)
    (ha : K a = 12)
    (hs5 : G.2.2.1 (F (F a 2) 0) (p0.toInt).toNat = some q5)
    (dp : dpF (vw (G.2.1 (F (F a 3) 0))) ((G.1 q5 2).toInt) ((G.1 q5 3).toInt) 31 0 (p1.toInt) = dpF (vw (G.2.1 (F (F a 3) 0))) ((G.1 q5 2).toInt) ((G.1 q5 3).toInt) (31 - l5_44.toInt).toNat (l5_44.toInt) (l4_44.toInt))
    (ht5 : 0 ≤ p0.toInt ∧ p0.toInt < 12)
    (c18 : ¬ (((G.1 q5 0).toInt) ≠ (5 : Int)))
    (t30 : (x30.toInt = 1 ∧ (cel (vw (G.2.1 (F (F a 3) 0))) ((G.1 q5 2).toInt) (p1.toInt) 0) ≠ -2000) ∨ (x30.toInt = 0 ∧ (cel (vw (G.2.1 (F (F a 3) 0))) ((G.1 q5 2).toInt) (p1.toInt) 0) = -2000))
    (c33 : x30.toInt ≠ 0)
    (I44_0 : 0 ≤ l5_44.toInt ∧ l5_44.toInt ≤ 31)
    (hm44 : 100 - l5_44.toInt < (((N44) + 1 : Nat) : Int))
    (c48 : ¬ ((30 : Int) < l5_44.toInt))
    (t80 : (x80.toInt = 1 ∧ (cel (vw (G.2.1 (F (F a 3) 0))) ((G.1 q5 2).toInt) (cel (vw (G.2.1 (F (F a 3) 0))) ((G.1 q5 2).toInt) (l4_44.toInt) ((G.1 q5 3).toInt)) 0) ≠ -2000) ∨ (x80.toInt = 0 ∧ (cel (vw (G.2.1 (F (F a 3) 0))) ((G.1 q5 2).toInt) (cel (vw (G.2.1 (F (F a 3) 0))) ((G.1 q5 2).toInt) (l4_44.toInt) ((G.1 q5 3).toInt)) 0) = -2000))
    (c83 : x80.toInt ≠ 0) :
    dpF (vw (G.2.1 (F (F a 3) 0))) ((G.1 q5 2).toInt) ((G.1 q5 3).toInt) 31 0 (p1.toInt) = dpF (vw (G.2.1 (F (F a 3) 0))) ((G.1 q5 2).toInt) ((G.1 q5 3).toInt) (31 - (l5_44.toInt + 1)).toNat (l5_44.toInt + 1) ((cel (vw (G.2.1 (F (F a 3) 0))) ((G.1 q5 2).toInt) (l4_44.toInt) ((G.1 q5 3).toInt))) := by
  have e : (31 - l5_44.toInt).toNat = (31 - (l5_44.toInt + 1)).toNat + 1 := by omega
  rw [e] at dp
  exact dp.trans (dpF_s (by omega))
theorem v_X10_depth_88_7 {K : Nat → Nat} {F : Nat → Nat → Nat} (a : Nat) (q5 : Nat) (G : XG) (p0 : Int32) (p1 : Int32) (l5_44 : Int32) (l4_44 : Int32) (x30 : Int32) (N44 : Nat) (x80 : Int32)
    (ha : K a = 12)
    (hs5 : G.2.2.1 (F (F a 2) 0) (p0.toInt).toNat = some q5)
    (dp : dpF (vw (G.2.1 (F (F a 3) 0))) ((G.1 q5 2).toInt) ((G.1 q5 3).toInt) 31 0 (p1.toInt) = dpF (vw (G.2.1 (F (F a 3) 0))) ((G.1 q5 2).toInt) ((G.1 q5 3).toInt) (31 - l5_44.toInt).toNat (l5_44.toInt) (l4_44.toInt))
    (ht5 : 0 ≤ p0.toInt ∧ p0.toInt < 12)
    (c18 : ¬ (((G.1 q5 0).toInt) ≠ (5 : Int)))
    (t30 : (x30.toInt = 1 ∧ (cel (vw (G.2.1 (F (F a 3) 0))) ((G.1 q5 2).toInt) (p1.toInt) 0) ≠ -2000) ∨ (x30.toInt = 0 ∧ (cel (vw (G.2.1 (F (F a 3) 0))) ((G.1 q5 2).toInt) (p1.toInt) 0) = -2000))
    (c33 : x30.toInt ≠ 0)
    (I44_0 : 0 ≤ l5_44.toInt ∧ l5_44.toInt ≤ 31)
    (hm44 : 100 - l5_44.toInt < (((N44) + 1 : Nat) : Int))
    (c48 : ¬ ((30 : Int) < l5_44.toInt))
    (t80 : (x80.toInt = 1 ∧ (cel (vw (G.2.1 (F (F a 3) 0))) ((G.1 q5 2).toInt) (cel (vw (G.2.1 (F (F a 3) 0))) ((G.1 q5 2).toInt) (l4_44.toInt) ((G.1 q5 3).toInt)) 0) ≠ -2000) ∨ (x80.toInt = 0 ∧ (cel (vw (G.2.1 (F (F a 3) 0))) ((G.1 q5 2).toInt) (cel (vw (G.2.1 (F (F a 3) 0))) ((G.1 q5 2).toInt) (l4_44.toInt) ((G.1 q5 3).toInt)) 0) = -2000))
    (c83 : ¬ (x80.toInt ≠ 0)) :
    (((p0.toInt < 0 ∨ 12 ≤ p0.toInt) ∨ G.2.2.1 (F (F a 2) 0) (p0.toInt).toNat = none) ∧ l5_44.toInt = -1) ∨ (∃ q : Nat, ((0 ≤ p0.toInt ∧ p0.toInt < 12) ∧ G.2.2.1 (F (F a 2) 0) (p0.toInt).toNat = some q) ∧ l5_44.toInt = dpS (vw (G.2.1 (F (F a 3) 0))) (G.1 q 0).toInt (G.1 q 2).toInt (G.1 q 3).toInt p1.toInt) := by
  have e : (31 - l5_44.toInt).toNat = (30 - l5_44.toInt).toNat + 1 := by omega
  rw [e] at dp
  exact Or.inr ⟨q5, ⟨ht5, hs5⟩, ((dpS_i (by omega)).trans (dp.trans (dpF_o (by omega)))).symm⟩
theorem v_X10_depth_42_8 {F : Nat → Nat → Nat} (a : Nat) (q5 : Nat) (G : XG) (p1 : Int32) :
    dpF (vw (G.2.1 (F (F a 3) 0))) ((G.1 q5 2).toInt) ((G.1 q5 3).toInt) 31 0 (p1.toInt) = dpF (vw (G.2.1 (F (F a 3) 0))) ((G.1 q5 2).toInt) ((G.1 q5 3).toInt) (31 - (0 : Int)).toNat (0 : Int) (p1.toInt) := by
  have e : ((31 : Int) - (0 : Int)).toNat = 31 := by decide
  rw [e]
theorem v_X10_depth_37_9 {K : Nat → Nat} {F : Nat → Nat → Nat} (a : Nat) (q5 : Nat) (G : XG) (p0 : Int32) (x30 : Int32) (p1 : Int32)
    (ha : K a = 12)
    (hs5 : G.2.2.1 (F (F a 2) 0) (p0.toInt).toNat = some q5)
    (ht5 : 0 ≤ p0.toInt ∧ p0.toInt < 12)
    (c18 : ¬ (((G.1 q5 0).toInt) ≠ (5 : Int)))
    (t30 : (x30.toInt = 1 ∧ (cel (vw (G.2.1 (F (F a 3) 0))) ((G.1 q5 2).toInt) (p1.toInt) 0) ≠ -2000) ∨ (x30.toInt = 0 ∧ (cel (vw (G.2.1 (F (F a 3) 0))) ((G.1 q5 2).toInt) (p1.toInt) 0) = -2000))
    (c33 : ¬ (x30.toInt ≠ 0)) :
    (((p0.toInt < 0 ∨ 12 ≤ p0.toInt) ∨ G.2.2.1 (F (F a 2) 0) (p0.toInt).toNat = none) ∧ (-1 : Int) = -1) ∨ (∃ q : Nat, ((0 ≤ p0.toInt ∧ p0.toInt < 12) ∧ G.2.2.1 (F (F a 2) 0) (p0.toInt).toNat = some q) ∧ (-1 : Int) = dpS (vw (G.2.1 (F (F a 3) 0))) (G.1 q 0).toInt (G.1 q 2).toInt (G.1 q 3).toInt p1.toInt) := by
  first
    | exact Or.inl ⟨hn5, rfl⟩
    | exact Or.inr ⟨q5, ⟨ht5, hs5⟩, (dpS_n (by omega)).symm⟩
theorem v_X10_changedSince_72_1 {K : Nat → Nat} {F : Nat → Nat → Nat} (a : Nat) (p0 : Nat) (G : XG) (l2_4 : Int32) (l3_4 : Int32) (N4 : Nat)
    (ha : K a = 12)
    (hp0 : K p0 = 8)
    (pc : l2_4.toInt = smS (fun j => chQ G (G.2.2.1 (F (F a 2) 0)) (vw (G.2.1 (F p0 0))) (qtI G F (F a 8) j)) 0 l3_4.toInt)
    (w8 : 0 ≤ ((G.1 (F a 8) 6).toInt) ∧ ((G.1 (F a 8) 6).toInt) ≤ 1080)
    (I4_0 : 0 ≤ l3_4.toInt ∧ l3_4.toInt ≤ ((G.1 (F a 8) 6).toInt))
    (I4_1 : 0 ≤ l2_4.toInt ∧ l2_4.toInt ≤ l3_4.toInt)
    (hm4 : 5000 - l3_4.toInt < (((N4) + 1 : Nat) : Int))
    (c12 : ((G.1 (F a 8) 6).toInt) ≤ l3_4.toInt) :
    l2_4.toInt = smQ (chQ G (G.2.2.1 (F (F a 2) 0)) (vw (G.2.1 (F p0 0)))) (qL G F (F a 8)) := by
  rw [pc, show l3_4.toInt = (G.1 (F a 8) 6).toInt from by omega, smS_qL]
theorem v_X10_changedSince_68_2 {K : Nat → Nat} {F : Nat → Nat → Nat} (a : Nat) (p0 : Nat) (G : XG) (l2_4 : Int32) (l3_4 : Int32) (x24 : Int32) (N4 : Nat)
    (ha : K a = 12)
    (hp0 : K p0 = 8)
    (pc : l2_4.toInt = smS (fun j => chQ G (G.2.2.1 (F (F a 2) 0)) (vw (G.2.1 (F p0 0))) (qtI G F (F a 8) j)) 0 l3_4.toInt)
    (hn27 : (x24.toInt < 0 ∨ 12 ≤ x24.toInt) ∨ G.2.2.1 (F (F a 2) 0) (x24.toInt).toNat = none)
    (w8 : 0 ≤ ((G.1 (F a 8) 6).toInt) ∧ ((G.1 (F a 8) 6).toInt) ≤ 1080)
    (I4_0 : 0 ≤ l3_4.toInt ∧ l3_4.toInt ≤ ((G.1 (F a 8) 6).toInt))
    (I4_1 : 0 ≤ l2_4.toInt ∧ l2_4.toInt ≤ l3_4.toInt)
    (hm4 : 5000 - l3_4.toInt < (((N4) + 1 : Nat) : Int))
    (c12 : ¬ (((G.1 (F a 8) 6).toInt) ≤ l3_4.toInt))
    (t24 : ((0 ≤ l3_4.toInt ∧ l3_4.toInt < ((G.1 (F a 8) 6).toInt) ∧ l3_4.toInt < 1080) ∧ x24.toInt = (aI (G.2.1 (F (F a 8) 0)) (l3_4.toInt))) ∨ (¬ (0 ≤ l3_4.toInt ∧ l3_4.toInt < ((G.1 (F a 8) 6).toInt) ∧ l3_4.toInt < 1080) ∧ x24.toInt = -1)) :
    l2_4.toInt = smS (fun j => chQ G (G.2.2.1 (F (F a 2) 0)) (vw (G.2.1 (F p0 0))) (qtI G F (F a 8) j)) 0 (l3_4.toInt + 1) := by
  have e24 : x24.toInt = aI (G.2.1 (F (F a 8) 0)) l3_4.toInt := by omega
  rw [smS_s (by omega)]
  first
    | (rw [chQ_n (x := qtI G F (F a 8) l3_4.toInt) (z := x24.toInt) e24.symm hn27]; omega)
    | (have e45 : x45.toInt = aI (G.2.1 (F (F a 8) 1)) l3_4.toInt := by omega
       have e56 : x56.toInt = aI (G.2.1 (F (F a 8) 3)) l3_4.toInt := by omega
       have k := chQ_y (G := G) (v := vw (G.2.1 (F p0 0))) (x := qtI G F (F a 8) l3_4.toInt) e24.symm ht27 hs27 e45.symm e56.symm t48
       omega)
theorem v_X10_changedSince_48_3 {F : Nat → Nat → Nat} (p0 : Nat) (G : XG)
    (rox : RO (vw (G.2.1 (F p0 0))) (aI (G.2.1 (F p0 1)))) :
    RO (vw (G.2.1 (F p0 0))) (aI (G.2.1 (F p0 1))) := by exact rox
theorem v_X10_changedSince_48_4 {K : Nat → Nat} {F : Nat → Nat → Nat} (G : XG) (a : Nat) (x24 : Int32) (q27 : Nat) (l3_4 : Int32)
    (bkn : BKr K G (G.2.2.1 (F (F a 2) 0)))
    (hs27 : G.2.2.1 (F (F a 2) 0) (x24.toInt).toNat = some q27)
    (t24 : ((0 ≤ l3_4.toInt ∧ l3_4.toInt < ((G.1 (F a 8) 6).toInt) ∧ l3_4.toInt < 1080) ∧ x24.toInt = (aI (G.2.1 (F (F a 8) 0)) (l3_4.toInt))) ∨ (¬ (0 ≤ l3_4.toInt ∧ l3_4.toInt < ((G.1 (F a 8) 6).toInt) ∧ l3_4.toInt < 1080) ∧ x24.toInt = -1))
    (ht27 : 0 ≤ x24.toInt ∧ x24.toInt < 12) :
    RW (G.1 q27) := by
  exact (bkn x24.toInt.toNat q27 (by omega) hs27).2
theorem v_X10_changedSince_68_5 {K : Nat → Nat} {F : Nat → Nat → Nat} (a : Nat) (p0 : Nat) (q27 : Nat) (G : XG) (l2_4 : Int32) (l3_4 : Int32) (x24 : Int32) (x48 : Int32) (x45 : Int32) (N4 : Nat) (x56 : Int32)
    (ha : K a = 12)
    (hp0 : K p0 = 8)
    (pc : l2_4.toInt = smS (fun j => chQ G (G.2.2.1 (F (F a 2) 0)) (vw (G.2.1 (F p0 0))) (qtI G F (F a 8) j)) 0 l3_4.toInt)
    (hs27 : G.2.2.1 (F (F a 2) 0) (x24.toInt).toNat = some q27)
    (t48 : x48.toInt = (stt (vw (G.2.1 (F p0 0))) ((G.1 q27 0).toInt) ((G.1 q27 2).toInt) ((G.1 q27 3).toInt) ((G.1 q27 4).toInt) (x45.toInt)))
    (w8 : 0 ≤ ((G.1 (F a 8) 6).toInt) ∧ ((G.1 (F a 8) 6).toInt) ≤ 1080)
    (I4_0 : 0 ≤ l3_4.toInt ∧ l3_4.toInt ≤ ((G.1 (F a 8) 6).toInt))
    (I4_1 : 0 ≤ l2_4.toInt ∧ l2_4.toInt ≤ l3_4.toInt)
    (hm4 : 5000 - l3_4.toInt < (((N4) + 1 : Nat) : Int))
    (c12 : ¬ (((G.1 (F a 8) 6).toInt) ≤ l3_4.toInt))
    (t24 : ((0 ≤ l3_4.toInt ∧ l3_4.toInt < ((G.1 (F a 8) 6).toInt) ∧ l3_4.toInt < 1080) ∧ x24.toInt = (aI (G.2.1 (F (F a 8) 0)) (l3_4.toInt))) ∨ (¬ (0 ≤ l3_4.toInt ∧ l3_4.toInt < ((G.1 (F a 8) 6).toInt) ∧ l3_4.toInt < 1080) ∧ x24.toInt = -1))
    (ht27 : 0 ≤ x24.toInt ∧ x24.toInt < 12)
    (t45 : ((0 ≤ l3_4.toInt ∧ l3_4.toInt < ((G.1 (F a 8) 6).toInt) ∧ l3_4.toInt < 1080) ∧ x45.toInt = (aI (G.2.1 (F (F a 8) 1)) (l3_4.toInt))) ∨ (¬ (0 ≤ l3_4.toInt ∧ l3_4.toInt < ((G.1 (F a 8) 6).toInt) ∧ l3_4.toInt < 1080) ∧ x45.toInt = -1))
    (t56 : ((0 ≤ l3_4.toInt ∧ l3_4.toInt < ((G.1 (F a 8) 6).toInt) ∧ l3_4.toInt < 1080) ∧ x56.toInt = (aI (G.2.1 (F (F a 8) 3)) (l3_4.toInt))) ∨ (¬ (0 ≤ l3_4.toInt ∧ l3_4.toInt < ((G.1 (F a 8) 6).toInt) ∧ l3_4.toInt < 1080) ∧ x56.toInt = -2000))
    (c59 : (stt (vw (G.2.1 (F p0 0))) ((G.1 q27 0).toInt) ((G.1 q27 2).toInt) ((G.1 q27 3).toInt) ((G.1 q27 4).toInt) (x45.toInt)) = x56.toInt) :
    l2_4.toInt = smS (fun j => chQ G (G.2.2.1 (F (F a 2) 0)) (vw (G.2.1 (F p0 0))) (qtI G F (F a 8) j)) 0 (l3_4.toInt + 1) := by
  have e24 : x24.toInt = aI (G.2.1 (F (F a 8) 0)) l3_4.toInt := by omega
  rw [smS_s (by omega)]
  first
    | (rw [chQ_n (x := qtI G F (F a 8) l3_4.toInt) (z := x24.toInt) e24.symm hn27]; omega)
    | (have e45 : x45.toInt = aI (G.2.1 (F (F a 8) 1)) l3_4.toInt := by omega
       have e56 : x56.toInt = aI (G.2.1 (F (F a 8) 3)) l3_4.toInt := by omega
       have k := chQ_y (G := G) (v := vw (G.2.1 (F p0 0))) (x := qtI G F (F a 8) l3_4.toInt) e24.symm ht27 hs27 e45.symm e56.symm t48
       omega)
theorem v_X10_changedSince_68_6 {K : Nat → Nat} {F : Nat → Nat → Nat} (a : Nat) (p0 : Nat) (q27 : Nat) (G : XG) (l2_4 : Int32) (l3_4 : Int32) (x24 : Int32) (x48 : Int32) (x45 : Int32) (N4 : Nat) (x56 : Int32)
    (ha : K a = 12)
    (hp0 : K p0 = 8)
    (pc : l2_4.toInt = smS (fun j => chQ G (G.2.2.1 (F (F a 2) 0)) (vw (G.2.1 (F p0 0))) (qtI G F (F a 8) j)) 0 l3_4.toInt)
    (hs27 : G.2.2.1 (F (F a 2) 0) (x24.toInt).toNat = some q27)
    (t48 : x48.toInt = (stt (vw (G.2.1 (F p0 0))) ((G.1 q27 0).toInt) ((G.1 q27 2).toInt) ((G.1 q27 3).toInt) ((G.1 q27 4).toInt) (x45.toInt)))
    (w8 : 0 ≤ ((G.1 (F a 8) 6).toInt) ∧ ((G.1 (F a 8) 6).toInt) ≤ 1080)
    (I4_0 : 0 ≤ l3_4.toInt ∧ l3_4.toInt ≤ ((G.1 (F a 8) 6).toInt))
    (I4_1 : 0 ≤ l2_4.toInt ∧ l2_4.toInt ≤ l3_4.toInt)
    (hm4 : 5000 - l3_4.toInt < (((N4) + 1 : Nat) : Int))
    (c12 : ¬ (((G.1 (F a 8) 6).toInt) ≤ l3_4.toInt))
    (t24 : ((0 ≤ l3_4.toInt ∧ l3_4.toInt < ((G.1 (F a 8) 6).toInt) ∧ l3_4.toInt < 1080) ∧ x24.toInt = (aI (G.2.1 (F (F a 8) 0)) (l3_4.toInt))) ∨ (¬ (0 ≤ l3_4.toInt ∧ l3_4.toInt < ((G.1 (F a 8) 6).toInt) ∧ l3_4.toInt < 1080) ∧ x24.toInt = -1))
    (ht27 : 0 ≤ x24.toInt ∧ x24.toInt < 12)
    (t45 : ((0 ≤ l3_4.toInt ∧ l3_4.toInt < ((G.1 (F a 8) 6).toInt) ∧ l3_4.toInt < 1080) ∧ x45.toInt = (aI (G.2.1 (F (F a 8) 1)) (l3_4.toInt))) ∨ (¬ (0 ≤ l3_4.toInt ∧ l3_4.toInt < ((G.1 (F a 8) 6).toInt) ∧ l3_4.toInt < 1080) ∧ x45.toInt = -1))
    (t56 : ((0 ≤ l3_4.toInt ∧ l3_4.toInt < ((G.1 (F a 8) 6).toInt) ∧ l3_4.toInt < 1080) ∧ x56.toInt = (aI (G.2.1 (F (F a 8) 3)) (l3_4.toInt))) ∨ (¬ (0 ≤ l3_4.toInt ∧ l3_4.toInt < ((G.1 (F a 8) 6).toInt) ∧ l3_4.toInt < 1080) ∧ x56.toInt = -2000))
    (c59 : ¬ ((stt (vw (G.2.1 (F p0 0))) ((G.1 q27 0).toInt) ((G.1 q27 2).toInt) ((G.1 q27 3).toInt) ((G.1 q27 4).toInt) (x45.toInt)) = x56.toInt)) :
    (l2_4.toInt + 1) = smS (fun j => chQ G (G.2.2.1 (F (F a 2) 0)) (vw (G.2.1 (F p0 0))) (qtI G F (F a 8) j)) 0 (l3_4.toInt + 1) := by
  have e24 : x24.toInt = aI (G.2.1 (F (F a 8) 0)) l3_4.toInt := by omega
  rw [smS_s (by omega)]
  first
    | (rw [chQ_n (x := qtI G F (F a 8) l3_4.toInt) (z := x24.toInt) e24.symm hn27]; omega)
    | (have e45 : x45.toInt = aI (G.2.1 (F (F a 8) 1)) l3_4.toInt := by omega
       have e56 : x56.toInt = aI (G.2.1 (F (F a 8) 3)) l3_4.toInt := by omega
       have k := chQ_y (G := G) (v := vw (G.2.1 (F p0 0))) (x := qtI G F (F a 8) l3_4.toInt) e24.symm ht27 hs27 e45.symm e56.symm t48
       omega)
theorem v_X10_changedSince_3_7 {F : Nat → Nat → Nat} (a : Nat) (p0 : Nat) (G : XG) :
    (0 : Int) = smS (fun j => chQ G (G.2.2.1 (F (F a 2) 0)) (vw (G.2.1 (F p0 0))) (qtI G F (F a 8) j)) 0 (0 : Int) := by
  exact (smS_0 _ _).symm
theorem v_X10_settledSince_11_1 {F : Nat → Nat → Nat} (a : Nat) (G : XG)
    (rob : RO (vw (G.2.1 (F (F a 4) 0))) (aI (G.2.1 (F (F a 4) 1)))) :
    RO (vw (G.2.1 (F (F a 4) 0))) (aI (G.2.1 (F (F a 4) 1))) := by exact rob
theorem v_X10_settledSince_11_2 {F : Nat → Nat → Nat} (p0 : Nat) (G : XG)
    (rox : RO (vw (G.2.1 (F p0 0))) (aI (G.2.1 (F p0 1)))) :
    RO (vw (G.2.1 (F p0 0))) (aI (G.2.1 (F p0 1))) := by exact rox
theorem v_X10_settledSince_11_3 {K : Nat → Nat} {F : Nat → Nat → Nat} (G : XG) (a : Nat)
    (bko : BKr K G (G.2.2.1 (F (F a 2) 1))) :
    ∀ (i q : Nat), i < 12 → G.2.2.1 (F (F a 2) 1) i = some q → RW (G.1 q) := by
  exact bko.rw
theorem v_X10_settledSince_11_4 {K : Nat → Nat} {F : Nat → Nat → Nat} (a : Nat) (p0 : Nat) (G : XG)
    (ha : K a = 12)
    (hp0 : K p0 = 8)
    (hk9999 : K (F a 11) = 3)
    (hj9999 : F (F a 11) 99 = 0)
    (hk9999a : K (F a 9) = 6)
    (hj9999a : F (F a 9) 99 = 1)
    (hk9999b : K (F (F a 11) 0) = 21)
    (hj9999b : F (F (F a 11) 0) 99 = 100)
    (hk9999c : K (F (F a 11) 1) = 21)
    (hj9999c : F (F (F a 11) 1) 99 = 101)
    (hk9999d : K (F (F a 11) 2) = 24)
    (hj9999d : F (F (F a 11) 2) 99 = 4)
    (hk9999e : K (F (F a 9) 0) = 22)
    (hj9999f : F (F (F a 9) 0) 99 = 10 * 1 + 0)
    (hk9999f : K (F (F a 9) 1) = 22)
    (hj9999h : F (F (F a 9) 1) 99 = 10 * 1 + 1)
    (hk9999g : K (F (F a 9) 2) = 22)
    (hj9999j : F (F (F a 9) 2) 99 = 10 * 1 + 2)
    (hk9999h : K (F (F a 9) 3) = 22)
    (hj9999l : F (F (F a 9) 3) 99 = 10 * 1 + 3)
    (hk9999i : K (F (F a 9) 4) = 23)
    (hj9999n : F (F (F a 9) 4) 99 = 10 * 1 + 4)
    (hk9999j : K (F (F a 9) 5) = 23)
    (hj9999p : F (F (F a 9) 5) 99 = 10 * 1 + 5)
    (hk9999k : K (F a 2) = 2)
    (hj9999q : F (F a 2) 99 = 0)
    (hk9999l : K (F (F a 2) 0) = 15)
    (hj9999r : F (F (F a 2) 0) 99 = 0)
    (hk9999m : K (F (F a 2) 1) = 15)
    (hj9999s : F (F (F a 2) 1) 99 = 1)
    (hk9999n : K (F p0 0) = 20)
    (hj9999t : F (F p0 0) 99 = F p0 99)
    (hk9999o : K (F p0 1) = 21)
    (hj9999u : F (F p0 1) 99 = F p0 99)
    (hk9999p : K (F a 4) = 8)
    (hj9999v : F (F a 4) 99 = 1)
    (hk9999q : K (F (F a 4) 0) = 20)
    (hj9999y : F (F (F a 4) 0) 99 = 1)
    (hk9999r : K (F (F a 4) 1) = 21)
    (hj9999z26 : F (F (F a 4) 1) 99 = 1)
    (hk9999s : K (F a 3) = 8)
    (hj9999z27 : F (F a 3) 99 = 0)
    (hk9999t : K (F (F a 3) 0) = 20)
    (hj9999z29 : F (F (F a 3) 0) 99 = 0)
    (hk9999u : K (F (F a 3) 1) = 21)
    (hj9999z31 : F (F (F a 3) 1) 99 = 0)
    (rox : RO (vw (G.2.1 (F p0 0))) (aI (G.2.1 (F p0 1))))
    (j0 : F p0 99 < 12)
    (rob : RO (vw (G.2.1 (F (F a 4) 0))) (aI (G.2.1 (F (F a 4) 1))))
    (ron : RO (vw (G.2.1 (F (F a 3) 0))) (aI (G.2.1 (F (F a 3) 1))))
    (bko : BKr K G (G.2.2.1 (F (F a 2) 1)))
    (bkn : BKr K G (G.2.2.1 (F (F a 2) 0)))
    (sb : 0 ≤ ((G.1 (F a 2) 2).toInt) ∧ ((G.1 (F a 2) 2).toInt) ≤ 12) :
    F (F a 4) 99 < 12 := by
  first | assumption | omega
theorem v_X10_settledSince_11_5 {F : Nat → Nat → Nat} (p0 : Nat)
    (j0 : F p0 99 < 12) :
    F p0 99 < 12 := by exact j0
theorem v_X10_settledSince_89_6 {K : Nat → Nat} {F : Nat → Nat → Nat} (a : Nat) (p0 : Nat) (G : XG) (G11 : XG) (l2_18 : Int32) (l3_18 : Int32) (N18 : Nat)
    (ha : K a = 12)
    (hp0 : K p0 = 8)
    (j0 : F p0 99 < 12)
    (oq11 : qL G11 F (F a 9) = gaL G (G.2.2.1 (F (F a 2) 1)) (vw (G.2.1 (F (F a 4) 0))) (vw (G.2.1 (F p0 0))) (1 : Int) (((G.1 (F a 2) 2).toInt)).toNat)
    (pc : l2_18.toInt = smS (fun j => seQ G (G.2.2.1 (F (F a 2) 0)) (vw (G.2.1 (F (F a 3) 0))) (qtI G11 F (F a 9) j)) 0 l3_18.toInt)
    (sb : 0 ≤ ((G.1 (F a 2) 2).toInt) ∧ ((G.1 (F a 2) 2).toInt) ≤ 12)
    (t11 : 0 ≤ ((G11.1 (F a 9) 6).toInt) ∧ ((G11.1 (F a 9) 6).toInt) ≤ 1080)
    (I18_0 : 0 ≤ l3_18.toInt ∧ l3_18.toInt ≤ ((G11.1 (F a 9) 6).toInt))
    (I18_1 : 0 ≤ l2_18.toInt ∧ l2_18.toInt ≤ l3_18.toInt)
    (hm18 : 5000 - l3_18.toInt < (((N18) + 1 : Nat) : Int))
    (c26 : ((G11.1 (F a 9) 6).toInt) ≤ l3_18.toInt) :
    l2_18.toInt = smQ (seQ G (G.2.2.1 (F (F a 2) 0)) (vw (G.2.1 (F (F a 3) 0)))) (gaL G (G.2.2.1 (F (F a 2) 1)) (vw (G.2.1 (F (F a 4) 0))) (vw (G.2.1 (F p0 0))) 1 (((G.1 (F a 2) 2).toInt)).toNat) := by
  rw [pc, show l3_18.toInt = (G11.1 (F a 9) 6).toInt from by omega, smS_qL, oq11]
theorem v_X10_settledSince_85_7 {K : Nat → Nat} {F : Nat → Nat → Nat} (a : Nat) (p0 : Nat) (G : XG) (G11 : XG) (l2_18 : Int32) (l3_18 : Int32) (x38 : Int32) (N18 : Nat)
    (ha : K a = 12)
    (hp0 : K p0 = 8)
    (j0 : F p0 99 < 12)
    (pc : l2_18.toInt = smS (fun j => seQ G (G.2.2.1 (F (F a 2) 0)) (vw (G.2.1 (F (F a 3) 0))) (qtI G11 F (F a 9) j)) 0 l3_18.toInt)
    (hn41 : (x38.toInt < 0 ∨ 12 ≤ x38.toInt) ∨ G11.2.2.1 (F (F a 2) 0) (x38.toInt).toNat = none)
    (sb : 0 ≤ ((G.1 (F a 2) 2).toInt) ∧ ((G.1 (F a 2) 2).toInt) ≤ 12)
    (t11 : 0 ≤ ((G11.1 (F a 9) 6).toInt) ∧ ((G11.1 (F a 9) 6).toInt) ≤ 1080)
    (I18_0 : 0 ≤ l3_18.toInt ∧ l3_18.toInt ≤ ((G11.1 (F a 9) 6).toInt))
    (I18_1 : 0 ≤ l2_18.toInt ∧ l2_18.toInt ≤ l3_18.toInt)
    (hm18 : 5000 - l3_18.toInt < (((N18) + 1 : Nat) : Int))
    (c26 : ¬ (((G11.1 (F a 9) 6).toInt) ≤ l3_18.toInt))
    (t38 : ((0 ≤ l3_18.toInt ∧ l3_18.toInt < ((G11.1 (F a 9) 6).toInt) ∧ l3_18.toInt < 1080) ∧ x38.toInt = (aI (G11.2.1 (F (F a 9) 0)) (l3_18.toInt))) ∨ (¬ (0 ≤ l3_18.toInt ∧ l3_18.toInt < ((G11.1 (F a 9) 6).toInt) ∧ l3_18.toInt < 1080) ∧ x38.toInt = -1))
    (r_G11_F_F_a_2_0 : G11.2.2.1 (F (F a 2) 0) = G.2.2.1 (F (F a 2) 0)) :
    l2_18.toInt = smS (fun j => seQ G (G.2.2.1 (F (F a 2) 0)) (vw (G.2.1 (F (F a 3) 0))) (qtI G11 F (F a 9) j)) 0 (l3_18.toInt + 1) := by
  have e38 : x38.toInt = aI (G11.2.1 (F (F a 9) 0)) l3_18.toInt := by omega
  rw [smS_s (by omega)]
  first
    | (rw [r_G11_F_F_a_2_0] at hn41
       rw [seQ_n (x := qtI G11 F (F a 9) l3_18.toInt) (z := x38.toInt) e38.symm hn41]; omega)
    | (rw [r_G11_F_F_a_2_0] at hs41
       have e62 : x62.toInt = aI (G11.2.1 (F (F a 9) 1)) l3_18.toInt := by omega
       have eB : x73.toInt = aI (G11.2.1 (F (F a 9) 2)) l3_18.toInt := by omega
       have k := seQ_y (G := G) (v := vw (G.2.1 (F (F a 3) 0))) (x := qtI G11 F (F a 9) l3_18.toInt) e38.symm ht41 hs41 e62.symm eB.symm t65
       omega)
theorem v_X10_settledSince_65_8 {F : Nat → Nat → Nat} (a : Nat) (p0 : Nat) (G : XG) (G11 : XG)
    (rox : RO (vw (G.2.1 (F p0 0))) (aI (G.2.1 (F p0 1))))
    (rob : RO (vw (G.2.1 (F (F a 4) 0))) (aI (G.2.1 (F (F a 4) 1))))
    (ron : RO (vw (G.2.1 (F (F a 3) 0))) (aI (G.2.1 (F (F a 3) 1))))
    (c_G11_F_F_a_3_0 : G11.2.1 (F (F a 3) 0) = G.2.1 (F (F a 3) 0))
    (c_G11_F_F_a_3_1 : G11.2.1 (F (F a 3) 1) = G.2.1 (F (F a 3) 1)) :
    RO (vw (G11.2.1 (F (F a 3) 0))) (aI (G11.2.1 (F (F a 3) 1))) := by simp only [c_G11_F_F_a_3_0, c_G11_F_F_a_3_1]; assumption
theorem v_X10_settledSince_65_9 {K : Nat → Nat} {F : Nat → Nat → Nat} (G : XG) (a : Nat) (G11 : XG) (x38 : Int32) (q41 : Nat)
    (bkn : BKr K G (G.2.2.1 (F (F a 2) 0)))
    (hs41 : G11.2.2.1 (F (F a 2) 0) (x38.toInt).toNat = some q41)
    (ht41 : 0 ≤ x38.toInt ∧ x38.toInt < 12)
    (r_G11_F_F_a_2_0 : G11.2.2.1 (F (F a 2) 0) = G.2.2.1 (F (F a 2) 0))
    (D_G11_q41 : G11.1 q41 = G.1 q41) :
    RW (G11.1 q41) := by
  rw [D_G11_q41]
  exact (bkn x38.toInt.toNat q41 (by omega) (by rw [← r_G11_F_F_a_2_0]; exact hs41)).2
theorem v_X10_settledSince_85_10 {K : Nat → Nat} {F : Nat → Nat → Nat} (a : Nat) (p0 : Nat) (q41 : Nat) (G : XG) (G11 : XG) (l2_18 : Int32) (l3_18 : Int32) (x38 : Int32) (x65 : Int32) (x62 : Int32) (N18 : Nat) (x73 : Int32)
    (ha : K a = 12)
    (hp0 : K p0 = 8)
    (j0 : F p0 99 < 12)
    (pc : l2_18.toInt = smS (fun j => seQ G (G.2.2.1 (F (F a 2) 0)) (vw (G.2.1 (F (F a 3) 0))) (qtI G11 F (F a 9) j)) 0 l3_18.toInt)
    (hs41 : G11.2.2.1 (F (F a 2) 0) (x38.toInt).toNat = some q41)
    (t65 : x65.toInt = (stt (vw (G.2.1 (F (F a 3) 0))) ((G.1 q41 0).toInt) ((G.1 q41 2).toInt) ((G.1 q41 3).toInt) ((G.1 q41 4).toInt) (x62.toInt)))
    (sb : 0 ≤ ((G.1 (F a 2) 2).toInt) ∧ ((G.1 (F a 2) 2).toInt) ≤ 12)
    (t11 : 0 ≤ ((G11.1 (F a 9) 6).toInt) ∧ ((G11.1 (F a 9) 6).toInt) ≤ 1080)
    (I18_0 : 0 ≤ l3_18.toInt ∧ l3_18.toInt ≤ ((G11.1 (F a 9) 6).toInt))
    (I18_1 : 0 ≤ l2_18.toInt ∧ l2_18.toInt ≤ l3_18.toInt)
    (hm18 : 5000 - l3_18.toInt < (((N18) + 1 : Nat) : Int))
    (c26 : ¬ (((G11.1 (F a 9) 6).toInt) ≤ l3_18.toInt))
    (t38 : ((0 ≤ l3_18.toInt ∧ l3_18.toInt < ((G11.1 (F a 9) 6).toInt) ∧ l3_18.toInt < 1080) ∧ x38.toInt = (aI (G11.2.1 (F (F a 9) 0)) (l3_18.toInt))) ∨ (¬ (0 ≤ l3_18.toInt ∧ l3_18.toInt < ((G11.1 (F a 9) 6).toInt) ∧ l3_18.toInt < 1080) ∧ x38.toInt = -1))
    (ht41 : 0 ≤ x38.toInt ∧ x38.toInt < 12)
    (t62 : ((0 ≤ l3_18.toInt ∧ l3_18.toInt < ((G11.1 (F a 9) 6).toInt) ∧ l3_18.toInt < 1080) ∧ x62.toInt = (aI (G11.2.1 (F (F a 9) 1)) (l3_18.toInt))) ∨ (¬ (0 ≤ l3_18.toInt ∧ l3_18.toInt < ((G11.1 (F a 9) 6).toInt) ∧ l3_18.toInt < 1080) ∧ x62.toInt = -1))
    (t73 : ((0 ≤ l3_18.toInt ∧ l3_18.toInt < ((G11.1 (F a 9) 6).toInt) ∧ l3_18.toInt < 1080) ∧ x73.toInt = (aI (G11.2.1 (F (F a 9) 2)) (l3_18.toInt))) ∨ (¬ (0 ≤ l3_18.toInt ∧ l3_18.toInt < ((G11.1 (F a 9) 6).toInt) ∧ l3_18.toInt < 1080) ∧ x73.toInt = -2000))
    (c76 : (stt (vw (G.2.1 (F (F a 3) 0))) ((G.1 q41 0).toInt) ((G.1 q41 2).toInt) ((G.1 q41 3).toInt) ((G.1 q41 4).toInt) (x62.toInt)) ≠ x73.toInt)
    (r_G11_F_F_a_2_0 : G11.2.2.1 (F (F a 2) 0) = G.2.2.1 (F (F a 2) 0)) :
    l2_18.toInt = smS (fun j => seQ G (G.2.2.1 (F (F a 2) 0)) (vw (G.2.1 (F (F a 3) 0))) (qtI G11 F (F a 9) j)) 0 (l3_18.toInt + 1) := by
  have e38 : x38.toInt = aI (G11.2.1 (F (F a 9) 0)) l3_18.toInt := by omega
  rw [smS_s (by omega)]
  first
    | (rw [r_G11_F_F_a_2_0] at hn41
       rw [seQ_n (x := qtI G11 F (F a 9) l3_18.toInt) (z := x38.toInt) e38.symm hn41]; omega)
    | (rw [r_G11_F_F_a_2_0] at hs41
       have e62 : x62.toInt = aI (G11.2.1 (F (F a 9) 1)) l3_18.toInt := by omega
       have eB : x73.toInt = aI (G11.2.1 (F (F a 9) 2)) l3_18.toInt := by omega
       have k := seQ_y (G := G) (v := vw (G.2.1 (F (F a 3) 0))) (x := qtI G11 F (F a 9) l3_18.toInt) e38.symm ht41 hs41 e62.symm eB.symm t65
       omega)
theorem v_X10_settledSince_85_11 {K : Nat → Nat} {F : Nat → Nat → Nat} (a : Nat) (p0 : Nat) (q41 : Nat) (G : XG) (G11 : XG) (l2_18 : Int32) (l3_18 : Int32) (x38 : Int32) (x65 : Int32) (x62 : Int32) (N18 : Nat) (x73 : Int32)
    (ha : K a = 12)
    (hp0 : K p0 = 8)
    (j0 : F p0 99 < 12)
    (pc : l2_18.toInt = smS (fun j => seQ G (G.2.2.1 (F (F a 2) 0)) (vw (G.2.1 (F (F a 3) 0))) (qtI G11 F (F a 9) j)) 0 l3_18.toInt)
    (hs41 : G11.2.2.1 (F (F a 2) 0) (x38.toInt).toNat = some q41)
    (t65 : x65.toInt = (stt (vw (G.2.1 (F (F a 3) 0))) ((G.1 q41 0).toInt) ((G.1 q41 2).toInt) ((G.1 q41 3).toInt) ((G.1 q41 4).toInt) (x62.toInt)))
    (sb : 0 ≤ ((G.1 (F a 2) 2).toInt) ∧ ((G.1 (F a 2) 2).toInt) ≤ 12)
    (t11 : 0 ≤ ((G11.1 (F a 9) 6).toInt) ∧ ((G11.1 (F a 9) 6).toInt) ≤ 1080)
    (I18_0 : 0 ≤ l3_18.toInt ∧ l3_18.toInt ≤ ((G11.1 (F a 9) 6).toInt))
    (I18_1 : 0 ≤ l2_18.toInt ∧ l2_18.toInt ≤ l3_18.toInt)
    (hm18 : 5000 - l3_18.toInt < (((N18) + 1 : Nat) : Int))
    (c26 : ¬ (((G11.1 (F a 9) 6).toInt) ≤ l3_18.toInt))
    (t38 : ((0 ≤ l3_18.toInt ∧ l3_18.toInt < ((G11.1 (F a 9) 6).toInt) ∧ l3_18.toInt < 1080) ∧ x38.toInt = (aI (G11.2.1 (F (F a 9) 0)) (l3_18.toInt))) ∨ (¬ (0 ≤ l3_18.toInt ∧ l3_18.toInt < ((G11.1 (F a 9) 6).toInt) ∧ l3_18.toInt < 1080) ∧ x38.toInt = -1))
    (ht41 : 0 ≤ x38.toInt ∧ x38.toInt < 12)
    (t62 : ((0 ≤ l3_18.toInt ∧ l3_18.toInt < ((G11.1 (F a 9) 6).toInt) ∧ l3_18.toInt < 1080) ∧ x62.toInt = (aI (G11.2.1 (F (F a 9) 1)) (l3_18.toInt))) ∨ (¬ (0 ≤ l3_18.toInt ∧ l3_18.toInt < ((G11.1 (F a 9) 6).toInt) ∧ l3_18.toInt < 1080) ∧ x62.toInt = -1))
    (t73 : ((0 ≤ l3_18.toInt ∧ l3_18.toInt < ((G11.1 (F a 9) 6).toInt) ∧ l3_18.toInt < 1080) ∧ x73.toInt = (aI (G11.2.1 (F (F a 9) 2)) (l3_18.toInt))) ∨ (¬ (0 ≤ l3_18.toInt ∧ l3_18.toInt < ((G11.1 (F a 9) 6).toInt) ∧ l3_18.toInt < 1080) ∧ x73.toInt = -2000))
    (c76 : ¬ ((stt (vw (G.2.1 (F (F a 3) 0))) ((G.1 q41 0).toInt) ((G.1 q41 2).toInt) ((G.1 q41 3).toInt) ((G.1 q41 4).toInt) (x62.toInt)) ≠ x73.toInt))
    (r_G11_F_F_a_2_0 : G11.2.2.1 (F (F a 2) 0) = G.2.2.1 (F (F a 2) 0)) :
    (l2_18.toInt + 1) = smS (fun j => seQ G (G.2.2.1 (F (F a 2) 0)) (vw (G.2.1 (F (F a 3) 0))) (qtI G11 F (F a 9) j)) 0 (l3_18.toInt + 1) := by
  have e38 : x38.toInt = aI (G11.2.1 (F (F a 9) 0)) l3_18.toInt := by omega
  rw [smS_s (by omega)]
  first
    | (rw [r_G11_F_F_a_2_0] at hn41
       rw [seQ_n (x := qtI G11 F (F a 9) l3_18.toInt) (z := x38.toInt) e38.symm hn41]; omega)
    | (rw [r_G11_F_F_a_2_0] at hs41
       have e62 : x62.toInt = aI (G11.2.1 (F (F a 9) 1)) l3_18.toInt := by omega
       have eB : x73.toInt = aI (G11.2.1 (F (F a 9) 2)) l3_18.toInt := by omega
       have k := seQ_y (G := G) (v := vw (G.2.1 (F (F a 3) 0))) (x := qtI G11 F (F a 9) l3_18.toInt) e38.symm ht41 hs41 e62.symm eB.symm t65
       omega)
theorem v_X10_settledSince_17_12 {F : Nat → Nat → Nat} (a : Nat) (G : XG) (G11 : XG) :
    (0 : Int) = smS (fun j => seQ G (G.2.2.1 (F (F a 2) 0)) (vw (G.2.1 (F (F a 3) 0))) (qtI G11 F (F a 9) j)) 0 (0 : Int) := by
  exact (smS_0 _ _).symm
theorem v_X10_fresh_11_1 {F : Nat → Nat → Nat} (a : Nat) (G : XG) (p0 : Int32) (p1 : Int32)
    (hn2 : p0.toInt < 0 ∨ ((G.1 a 17).toInt) ≤ p0.toInt ∨ 8 ≤ p0.toInt) :
    (((p0.toInt < 0 ∨ ((G.1 a 17).toInt) ≤ p0.toInt ∨ 8 ≤ p0.toInt) ∨ p1.toInt < 0 ∨ 1 < p1.toInt) ∧ (-1 : Int) = -1) ∨ (∃ q : Nat, (0 ≤ p0.toInt ∧ p0.toInt < ((G.1 a 17).toInt) ∧ p0.toInt < 8) ∧ G.2.2.1 (F a 7) (p0.toInt).toNat = some q ∧ ((p1.toInt = 0 ∧ (-1 : Int) = smQ (chQ G (G.2.2.1 (F (F a 2) 0)) (vw (G.2.1 (F q 0)))) (qL G F (F a 8))) ∨ (p1.toInt = 1 ∧ (-1 : Int) = smQ (seQ G (G.2.2.1 (F (F a 2) 0)) (vw (G.2.1 (F (F a 3) 0)))) (gaL G (G.2.2.1 (F (F a 2) 1)) (vw (G.2.1 (F (F a 4) 0))) (vw (G.2.1 (F q 0))) 1 (((G.1 (F a 2) 2).toInt)).toNat)))) := by
  exact Or.inl ⟨Or.inl hn2, rfl⟩
theorem v_X10_fresh_53_2 {K : Nat → Nat} {F : Nat → Nat → Nat} (a : Nat) (q2 : Nat) (p0 : Int32) (G : XG) (p1 : Int32)
    (ha : K a = 12)
    (f46 : F q2 99 = 4 + (p0.toInt).toNat)
    (hs2 : F q2 99 = 4 + (p0.toInt).toNat ∧ G.2.2.1 (F a 7) (p0.toInt).toNat = some q2)
    (sb : 0 ≤ ((G.1 (F a 2) 2).toInt) ∧ ((G.1 (F a 2) 2).toInt) ≤ 12)
    (w8 : 0 ≤ ((G.1 (F a 8) 6).toInt) ∧ ((G.1 (F a 8) 6).toInt) ≤ 1080)
    (ht2 : 0 ≤ p0.toInt ∧ p0.toInt < ((G.1 a 17).toInt) ∧ p0.toInt < 8)
    (c13 : ¬ p1.toInt = 0 ∧ ¬ p1.toInt = 1) :
    (((p0.toInt < 0 ∨ ((G.1 a 17).toInt) ≤ p0.toInt ∨ 8 ≤ p0.toInt) ∨ p1.toInt < 0 ∨ 1 < p1.toInt) ∧ (-1 : Int) = -1) ∨ (∃ q : Nat, (0 ≤ p0.toInt ∧ p0.toInt < ((G.1 a 17).toInt) ∧ p0.toInt < 8) ∧ G.2.2.1 (F a 7) (p0.toInt).toNat = some q ∧ ((p1.toInt = 0 ∧ (-1 : Int) = smQ (chQ G (G.2.2.1 (F (F a 2) 0)) (vw (G.2.1 (F q 0)))) (qL G F (F a 8))) ∨ (p1.toInt = 1 ∧ (-1 : Int) = smQ (seQ G (G.2.2.1 (F (F a 2) 0)) (vw (G.2.1 (F (F a 3) 0)))) (gaL G (G.2.2.1 (F (F a 2) 1)) (vw (G.2.1 (F (F a 4) 0))) (vw (G.2.1 (F q 0))) 1 (((G.1 (F a 2) 2).toInt)).toNat)))) := by
  exact Or.inl ⟨Or.inr (by omega), rfl⟩
theorem v_X10_fresh_42_3 {F : Nat → Nat → Nat} (G : XG) (a : Nat) (q2 : Nat) (p0 : Int32)
    (rok : ∀ (i q : Nat), i < 8 → G.2.2.1 (F a 7) i = some q → RO (vw (G.2.1 (F q 0))) (aI (G.2.1 (F q 1))))
    (hs2 : F q2 99 = 4 + (p0.toInt).toNat ∧ G.2.2.1 (F a 7) (p0.toInt).toNat = some q2)
    (ht2 : 0 ≤ p0.toInt ∧ p0.toInt < ((G.1 a 17).toInt) ∧ p0.toInt < 8) :
    RO (vw (G.2.1 (F q2 0))) (aI (G.2.1 (F q2 1))) := by
  exact rok p0.toInt.toNat q2 (by omega) hs2.2
theorem v_X10_fresh_42_4 {K : Nat → Nat} {F : Nat → Nat → Nat} (a : Nat) (G : XG)
    (bkn : BKr K G (G.2.2.1 (F (F a 2) 0))) :
    BKr K G (G.2.2.1 (F (F a 2) 0)) := by exact bkn
theorem v_X10_fresh_45_5 {F : Nat → Nat → Nat} (a : Nat) (q2 : Nat) (p0 : Int32) (G : XG) (x42 : Int32) (p1 : Int32)
    (hs2 : F q2 99 = 4 + (p0.toInt).toNat ∧ G.2.2.1 (F a 7) (p0.toInt).toNat = some q2)
    (oq42 : x42.toInt = smQ (chQ G (G.2.2.1 (F (F a 2) 0)) (vw (G.2.1 (F q2 0)))) (qL G F (F a 8)))
    (ht2 : 0 ≤ p0.toInt ∧ p0.toInt < ((G.1 a 17).toInt) ∧ p0.toInt < 8)
    (c13 : p1.toInt = 0) :
    (((p0.toInt < 0 ∨ ((G.1 a 17).toInt) ≤ p0.toInt ∨ 8 ≤ p0.toInt) ∨ p1.toInt < 0 ∨ 1 < p1.toInt) ∧ x42.toInt = -1) ∨ (∃ q : Nat, (0 ≤ p0.toInt ∧ p0.toInt < ((G.1 a 17).toInt) ∧ p0.toInt < 8) ∧ G.2.2.1 (F a 7) (p0.toInt).toNat = some q ∧ ((p1.toInt = 0 ∧ x42.toInt = smQ (chQ G (G.2.2.1 (F (F a 2) 0)) (vw (G.2.1 (F q 0)))) (qL G F (F a 8))) ∨ (p1.toInt = 1 ∧ x42.toInt = smQ (seQ G (G.2.2.1 (F (F a 2) 0)) (vw (G.2.1 (F (F a 3) 0)))) (gaL G (G.2.2.1 (F (F a 2) 1)) (vw (G.2.1 (F (F a 4) 0))) (vw (G.2.1 (F q 0))) 1 (((G.1 (F a 2) 2).toInt)).toNat)))) := by
  exact Or.inr ⟨q2, ht2, hs2.2, Or.inl ⟨c13, oq42⟩⟩
theorem v_X10_fresh_48_6 {F : Nat → Nat → Nat} (G : XG) (a : Nat) (q2 : Nat) (p0 : Int32)
    (rok : ∀ (i q : Nat), i < 8 → G.2.2.1 (F a 7) i = some q → RO (vw (G.2.1 (F q 0))) (aI (G.2.1 (F q 1))))
    (hs2 : F q2 99 = 4 + (p0.toInt).toNat ∧ G.2.2.1 (F a 7) (p0.toInt).toNat = some q2)
    (ht2 : 0 ≤ p0.toInt ∧ p0.toInt < ((G.1 a 17).toInt) ∧ p0.toInt < 8) :
    RO (vw (G.2.1 (F q2 0))) (aI (G.2.1 (F q2 1))) := by
  exact rok p0.toInt.toNat q2 (by omega) hs2.2
theorem v_X10_fresh_48_7 {F : Nat → Nat → Nat} (q2 : Nat) (p0 : Int32) (G : XG) (a : Nat)
    (hs2 : F q2 99 = 4 + (p0.toInt).toNat ∧ G.2.2.1 (F a 7) (p0.toInt).toNat = some q2)
    (ht2 : 0 ≤ p0.toInt ∧ p0.toInt < ((G.1 a 17).toInt) ∧ p0.toInt < 8) :
    F q2 99 < 12 := by
  rw [hs2.1]; omega
theorem v_X10_fresh_48_8 {F : Nat → Nat → Nat} (a : Nat) (G : XG)
    (rob : RO (vw (G.2.1 (F (F a 4) 0))) (aI (G.2.1 (F (F a 4) 1)))) :
    RO (vw (G.2.1 (F (F a 4) 0))) (aI (G.2.1 (F (F a 4) 1))) := by exact rob
theorem v_X10_fresh_48_9 {F : Nat → Nat → Nat} (a : Nat) (G : XG)
    (ron : RO (vw (G.2.1 (F (F a 3) 0))) (aI (G.2.1 (F (F a 3) 1)))) :
    RO (vw (G.2.1 (F (F a 3) 0))) (aI (G.2.1 (F (F a 3) 1))) := by exact ron
theorem v_X10_fresh_48_10 {K : Nat → Nat} {F : Nat → Nat → Nat} (a : Nat) (G : XG)
    (bko : BKr K G (G.2.2.1 (F (F a 2) 1))) :
    BKr K G (G.2.2.1 (F (F a 2) 1)) := by exact bko
theorem v_X10_fresh_48_11 {K : Nat → Nat} {F : Nat → Nat → Nat} (a : Nat) (G : XG)
    (bkn : BKr K G (G.2.2.1 (F (F a 2) 0))) :
    BKr K G (G.2.2.1 (F (F a 2) 0)) := by exact bkn
theorem v_X10_fresh_51_12 {F : Nat → Nat → Nat} (a : Nat) (q2 : Nat) (p0 : Int32) (G : XG) (x48 : Int32) (p1 : Int32)
    (hs2 : F q2 99 = 4 + (p0.toInt).toNat ∧ G.2.2.1 (F a 7) (p0.toInt).toNat = some q2)
    (oq48 : x48.toInt = smQ (seQ G (G.2.2.1 (F (F a 2) 0)) (vw (G.2.1 (F (F a 3) 0)))) (gaL G (G.2.2.1 (F (F a 2) 1)) (vw (G.2.1 (F (F a 4) 0))) (vw (G.2.1 (F q2 0))) 1 (((G.1 (F a 2) 2).toInt)).toNat))
    (ht2 : 0 ≤ p0.toInt ∧ p0.toInt < ((G.1 a 17).toInt) ∧ p0.toInt < 8)
    (c13 : p1.toInt = 1) :
    (((p0.toInt < 0 ∨ ((G.1 a 17).toInt) ≤ p0.toInt ∨ 8 ≤ p0.toInt) ∨ p1.toInt < 0 ∨ 1 < p1.toInt) ∧ x48.toInt = -1) ∨ (∃ q : Nat, (0 ≤ p0.toInt ∧ p0.toInt < ((G.1 a 17).toInt) ∧ p0.toInt < 8) ∧ G.2.2.1 (F a 7) (p0.toInt).toNat = some q ∧ ((p1.toInt = 0 ∧ x48.toInt = smQ (chQ G (G.2.2.1 (F (F a 2) 0)) (vw (G.2.1 (F q 0)))) (qL G F (F a 8))) ∨ (p1.toInt = 1 ∧ x48.toInt = smQ (seQ G (G.2.2.1 (F (F a 2) 0)) (vw (G.2.1 (F (F a 3) 0)))) (gaL G (G.2.2.1 (F (F a 2) 1)) (vw (G.2.1 (F (F a 4) 0))) (vw (G.2.1 (F q 0))) 1 (((G.1 (F a 2) 2).toInt)).toNat)))) := by
  exact Or.inr ⟨q2, ht2, hs2.2, Or.inr ⟨c13, oq48⟩⟩
theorem v_X10_wouldCut_6_1 {F : Nat → Nat → Nat} (a : Nat) (G : XG)
    (ron : RO (vw (G.2.1 (F (F a 3) 0))) (aI (G.2.1 (F (F a 3) 1)))) :
    RO (vw (G.2.1 (F (F a 3) 0))) (aI (G.2.1 (F (F a 3) 1))) := by exact ron
theorem v_X10_wouldCut_22_2 {F : Nat → Nat → Nat} (a : Nat) (G : XG)
    (ron : RO (vw (G.2.1 (F (F a 3) 0))) (aI (G.2.1 (F (F a 3) 1)))) :
    RO (vw (G.2.1 (F (F a 3) 0))) (aI (G.2.1 (F (F a 3) 1))) := by exact ron
theorem v_X10_wouldCut_39_3 {F : Nat → Nat → Nat} (G22 : XG) (a : Nat)
    (oq22a : RO (vw (G22.2.1 (F (F a 5) 0))) (aI (G22.2.1 (F (F a 5) 1)))) :
    RO (vw (G22.2.1 (F (F a 5) 0))) (aI (G22.2.1 (F (F a 5) 1))) := by
  exact oq22a
theorem v_X10_wouldCut_39_4 {K : Nat → Nat} {F : Nat → Nat → Nat} (a : Nat) (G : XG) (G22 : XG) (p0 : Int32) (p1 : Int32) (x6 : Int32)
    (ha : K a = 12)
    (hk9999 : K (F a 11) = 3)
    (hj9999 : F (F a 11) 99 = 0)
    (hk9999a : K (F a 9) = 6)
    (hj9999a : F (F a 9) 99 = 1)
    (hk9999b : K (F a 12) = 4)
    (hj9999b : F (F a 12) 99 = 0)
    (hk9999c : K (F (F a 11) 0) = 21)
    (hj9999c : F (F (F a 11) 0) 99 = 100)
    (hk9999d : K (F (F a 11) 1) = 21)
    (hj9999d : F (F (F a 11) 1) 99 = 101)
    (hk9999e : K (F (F a 11) 2) = 24)
    (hj9999e : F (F (F a 11) 2) 99 = 4)
    (hk9999f : K (F (F a 9) 0) = 22)
    (hj9999g : F (F (F a 9) 0) 99 = 10 * 1 + 0)
    (hk9999g : K (F (F a 9) 1) = 22)
    (hj9999i : F (F (F a 9) 1) 99 = 10 * 1 + 1)
    (hk9999h : K (F (F a 9) 2) = 22)
    (hj9999k : F (F (F a 9) 2) 99 = 10 * 1 + 2)
    (hk9999i : K (F (F a 9) 3) = 22)
    (hj9999m : F (F (F a 9) 3) 99 = 10 * 1 + 3)
    (hk9999j : K (F (F a 9) 4) = 23)
    (hj9999o : F (F (F a 9) 4) 99 = 10 * 1 + 4)
    (hk9999k : K (F (F a 9) 5) = 23)
    (hj9999q : F (F (F a 9) 5) 99 = 10 * 1 + 5)
    (hk9999l : K (F a 5) = 8)
    (hj9999r : F (F a 5) 99 = 2)
    (hk9999m : K (F (F a 5) 0) = 20)
    (hj9999t : F (F (F a 5) 0) 99 = 2)
    (hk9999n : K (F (F a 5) 1) = 21)
    (hj9999v : F (F (F a 5) 1) 99 = 2)
    (hk9999o : K (F (F a 12) 0) = 24)
    (hj9999w : F (F (F a 12) 0) 99 = 0)
    (hk9999p : K (F (F a 12) 1) = 24)
    (hj9999y : F (F (F a 12) 1) 99 = 1)
    (hk9999q : K (F (F a 12) 2) = 24)
    (hj9999z25 : F (F (F a 12) 2) 99 = 2)
    (hk9999r : K (F (F a 12) 3) = 24)
    (hj9999z26 : F (F (F a 12) 3) 99 = 3)
    (hk9999s : K (F a 2) = 2)
    (hj9999z27 : F (F a 2) 99 = 0)
    (hk9999t : K (F (F a 2) 1) = 15)
    (hj9999z28 : F (F (F a 2) 1) 99 = 1)
    (hk9999u : K (F (F a 2) 0) = 15)
    (hj9999z29 : F (F (F a 2) 0) 99 = 0)
    (hk9999v : K (F a 3) = 8)
    (hj9999z30 : F (F a 3) 99 = 0)
    (hk9999w : K (F (F a 3) 0) = 20)
    (hj9999z32 : F (F (F a 3) 0) 99 = 0)
    (hk9999y : K (F (F a 3) 1) = 21)
    (hj9999z34 : F (F (F a 3) 1) 99 = 0)
    (hfr : XFr [(F a 11, 3), (F a 9, 6), (F a 12, 4)] [F (F a 11) 0, F (F a 11) 1, F (F a 11) 2, F (F a 9) 0, F (F a 9) 1, F (F a 9) 2, F (F a 9) 3, F (F a 9) 4, F (F a 9) 5, F (F a 5) 0, F (F a 5) 1, F (F a 12) 0, F (F a 12) 1, F (F a 12) 2, F (F a 12) 3] [] G G22)
    (hF22 : XFr [] [F (F a 5) 0, F (F a 5) 1] [] G G22)
    (ron : RO (vw (G.2.1 (F (F a 3) 0))) (aI (G.2.1 (F (F a 3) 1))))
    (bko : BKr K G (G.2.2.1 (F (F a 2) 1)))
    (bkn : BKr K G (G.2.2.1 (F (F a 2) 0)))
    (hac : ACo G (G.2.2.1 (F (F a 2) 0)))
    (oq22 : (vw (G22.2.1 (F (F a 5) 0))) = (vw (G.2.1 (F (F a 3) 0))))
    (oq22a : RO (vw (G22.2.1 (F (F a 5) 0))) (aI (G22.2.1 (F (F a 5) 1))))
    (sb : 0 ≤ ((G.1 (F a 2) 2).toInt) ∧ ((G.1 (F a 2) 2).toInt) ≤ 12)
    (z5 : ¬ (0 ≤ p0.toInt ∧ p0.toInt < 3 ∧ 0 ≤ p1.toInt ∧ p1.toInt < 30) → (cel (vw (G.2.1 (F (F a 3) 0))) (p0.toInt) (p1.toInt) 0) = -2000)
    (t6 : (x6.toInt = 1 ∧ (cel (vw (G.2.1 (F (F a 3) 0))) (p0.toInt) (p1.toInt) 0) ≠ -2000) ∨ (x6.toInt = 0 ∧ (cel (vw (G.2.1 (F (F a 3) 0))) (p0.toInt) (p1.toInt) 0) = -2000))
    (c9 : x6.toInt ≠ 0)
    (z25 : (cel (vw (G22.2.1 (F (F a 5) 0))) (p0.toInt) (p1.toInt) 0) = (cel (vw (G.2.1 (F (F a 3) 0))) (p0.toInt) (p1.toInt) 0))
    (c_G22_F_F_a_11_0 : G22.2.1 (F (F a 11) 0) = G.2.1 (F (F a 11) 0))
    (c_G22_F_F_a_11_1 : G22.2.1 (F (F a 11) 1) = G.2.1 (F (F a 11) 1))
    (c_G22_F_F_a_11_2 : G22.2.1 (F (F a 11) 2) = G.2.1 (F (F a 11) 2))
    (c_G22_F_F_a_12_0 : G22.2.1 (F (F a 12) 0) = G.2.1 (F (F a 12) 0))
    (c_G22_F_F_a_12_1 : G22.2.1 (F (F a 12) 1) = G.2.1 (F (F a 12) 1))
    (c_G22_F_F_a_12_2 : G22.2.1 (F (F a 12) 2) = G.2.1 (F (F a 12) 2))
    (c_G22_F_F_a_12_3 : G22.2.1 (F (F a 12) 3) = G.2.1 (F (F a 12) 3))
    (c_G22_F_F_a_9_0 : G22.2.1 (F (F a 9) 0) = G.2.1 (F (F a 9) 0))
    (c_G22_F_F_a_9_1 : G22.2.1 (F (F a 9) 1) = G.2.1 (F (F a 9) 1))
    (c_G22_F_F_a_9_2 : G22.2.1 (F (F a 9) 2) = G.2.1 (F (F a 9) 2))
    (c_G22_F_F_a_9_3 : G22.2.1 (F (F a 9) 3) = G.2.1 (F (F a 9) 3))
    (c_G22_F_F_a_9_4 : G22.2.1 (F (F a 9) 4) = G.2.1 (F (F a 9) 4))
    (c_G22_F_F_a_9_5 : G22.2.1 (F (F a 9) 5) = G.2.1 (F (F a 9) 5))
    (r_G22_F_F_a_2_0 : G22.2.2.1 (F (F a 2) 0) = G.2.2.1 (F (F a 2) 0))
    (d_G22_F_a_11_3 : G22.1 (F a 11) 3 = G.1 (F a 11) 3)
    (d_G22_F_a_12_4 : G22.1 (F a 12) 4 = G.1 (F a 12) 4)
    (d_G22_F_a_9_6 : G22.1 (F a 9) 6 = G.1 (F a 9) 6) :
    BKr K G22 (G22.2.2.1 (F (F a 2) 0)) := by
  have hd : ∀ p, p ∈ [(F a 11, 3), (F a 9, 6), (F a 12, 4)] → K p.1 ≠ 9 := (List.forall_mem_cons.mpr ⟨(show K (F a 11) ≠ 9 by omega), List.forall_mem_cons.mpr ⟨(show K (F a 9) ≠ 9 by omega), List.forall_mem_cons.mpr ⟨(show K (F a 12) ≠ 9 by omega), fun _ h => by cases h⟩⟩⟩)
  rw [show G22.2.2.1 (F (F a 2) 0) = G.2.2.1 (F (F a 2) 0) by assumption]
  exact bkn.fr hfr hd
theorem v_X10_wouldCut_39_5 {K : Nat → Nat} {F : Nat → Nat → Nat} (a : Nat) (G : XG) (G22 : XG) (p0 : Int32) (p1 : Int32) (x6 : Int32)
    (ha : K a = 12)
    (hk9999 : K (F a 11) = 3)
    (hj9999 : F (F a 11) 99 = 0)
    (hk9999a : K (F a 9) = 6)
    (hj9999a : F (F a 9) 99 = 1)
    (hk9999b : K (F a 12) = 4)
    (hj9999b : F (F a 12) 99 = 0)
    (hk9999c : K (F (F a 11) 0) = 21)
    (hj9999c : F (F (F a 11) 0) 99 = 100)
    (hk9999d : K (F (F a 11) 1) = 21)
    (hj9999d : F (F (F a 11) 1) 99 = 101)
    (hk9999e : K (F (F a 11) 2) = 24)
    (hj9999e : F (F (F a 11) 2) 99 = 4)
    (hk9999f : K (F (F a 9) 0) = 22)
    (hj9999g : F (F (F a 9) 0) 99 = 10 * 1 + 0)
    (hk9999g : K (F (F a 9) 1) = 22)
    (hj9999i : F (F (F a 9) 1) 99 = 10 * 1 + 1)
    (hk9999h : K (F (F a 9) 2) = 22)
    (hj9999k : F (F (F a 9) 2) 99 = 10 * 1 + 2)
    (hk9999i : K (F (F a 9) 3) = 22)
    (hj9999m : F (F (F a 9) 3) 99 = 10 * 1 + 3)
    (hk9999j : K (F (F a 9) 4) = 23)
    (hj9999o : F (F (F a 9) 4) 99 = 10 * 1 + 4)
    (hk9999k : K (F (F a 9) 5) = 23)
    (hj9999q : F (F (F a 9) 5) 99 = 10 * 1 + 5)
    (hk9999l : K (F a 5) = 8)
    (hj9999r : F (F a 5) 99 = 2)
    (hk9999m : K (F (F a 5) 0) = 20)
    (hj9999t : F (F (F a 5) 0) 99 = 2)
    (hk9999n : K (F (F a 5) 1) = 21)
    (hj9999v : F (F (F a 5) 1) 99 = 2)
    (hk9999o : K (F (F a 12) 0) = 24)
    (hj9999w : F (F (F a 12) 0) 99 = 0)
    (hk9999p : K (F (F a 12) 1) = 24)
    (hj9999y : F (F (F a 12) 1) 99 = 1)
    (hk9999q : K (F (F a 12) 2) = 24)
    (hj9999z25 : F (F (F a 12) 2) 99 = 2)
    (hk9999r : K (F (F a 12) 3) = 24)
    (hj9999z26 : F (F (F a 12) 3) 99 = 3)
    (hk9999s : K (F a 2) = 2)
    (hj9999z27 : F (F a 2) 99 = 0)
    (hk9999t : K (F (F a 2) 1) = 15)
    (hj9999z28 : F (F (F a 2) 1) 99 = 1)
    (hk9999u : K (F (F a 2) 0) = 15)
    (hj9999z29 : F (F (F a 2) 0) 99 = 0)
    (hk9999v : K (F a 3) = 8)
    (hj9999z30 : F (F a 3) 99 = 0)
    (hk9999w : K (F (F a 3) 0) = 20)
    (hj9999z32 : F (F (F a 3) 0) 99 = 0)
    (hk9999y : K (F (F a 3) 1) = 21)
    (hj9999z34 : F (F (F a 3) 1) 99 = 0)
    (hfr : XFr [(F a 11, 3), (F a 9, 6), (F a 12, 4)] [F (F a 11) 0, F (F a 11) 1, F (F a 11) 2, F (F a 9) 0, F (F a 9) 1, F (F a 9) 2, F (F a 9) 3, F (F a 9) 4, F (F a 9) 5, F (F a 5) 0, F (F a 5) 1, F (F a 12) 0, F (F a 12) 1, F (F a 12) 2, F (F a 12) 3] [] G G22)
    (hF22 : XFr [] [F (F a 5) 0, F (F a 5) 1] [] G G22)
    (ron : RO (vw (G.2.1 (F (F a 3) 0))) (aI (G.2.1 (F (F a 3) 1))))
    (bko : BKr K G (G.2.2.1 (F (F a 2) 1)))
    (bkn : BKr K G (G.2.2.1 (F (F a 2) 0)))
    (hac : ACo G (G.2.2.1 (F (F a 2) 0)))
    (oq22 : (vw (G22.2.1 (F (F a 5) 0))) = (vw (G.2.1 (F (F a 3) 0))))
    (oq22a : RO (vw (G22.2.1 (F (F a 5) 0))) (aI (G22.2.1 (F (F a 5) 1))))
    (sb : 0 ≤ ((G.1 (F a 2) 2).toInt) ∧ ((G.1 (F a 2) 2).toInt) ≤ 12)
    (z5 : ¬ (0 ≤ p0.toInt ∧ p0.toInt < 3 ∧ 0 ≤ p1.toInt ∧ p1.toInt < 30) → (cel (vw (G.2.1 (F (F a 3) 0))) (p0.toInt) (p1.toInt) 0) = -2000)
    (t6 : (x6.toInt = 1 ∧ (cel (vw (G.2.1 (F (F a 3) 0))) (p0.toInt) (p1.toInt) 0) ≠ -2000) ∨ (x6.toInt = 0 ∧ (cel (vw (G.2.1 (F (F a 3) 0))) (p0.toInt) (p1.toInt) 0) = -2000))
    (c9 : x6.toInt ≠ 0)
    (z25 : (cel (vw (G22.2.1 (F (F a 5) 0))) (p0.toInt) (p1.toInt) 0) = (cel (vw (G.2.1 (F (F a 3) 0))) (p0.toInt) (p1.toInt) 0))
    (c_G22_F_F_a_11_0 : G22.2.1 (F (F a 11) 0) = G.2.1 (F (F a 11) 0))
    (c_G22_F_F_a_11_1 : G22.2.1 (F (F a 11) 1) = G.2.1 (F (F a 11) 1))
    (c_G22_F_F_a_11_2 : G22.2.1 (F (F a 11) 2) = G.2.1 (F (F a 11) 2))
    (c_G22_F_F_a_12_0 : G22.2.1 (F (F a 12) 0) = G.2.1 (F (F a 12) 0))
    (c_G22_F_F_a_12_1 : G22.2.1 (F (F a 12) 1) = G.2.1 (F (F a 12) 1))
    (c_G22_F_F_a_12_2 : G22.2.1 (F (F a 12) 2) = G.2.1 (F (F a 12) 2))
    (c_G22_F_F_a_12_3 : G22.2.1 (F (F a 12) 3) = G.2.1 (F (F a 12) 3))
    (c_G22_F_F_a_9_0 : G22.2.1 (F (F a 9) 0) = G.2.1 (F (F a 9) 0))
    (c_G22_F_F_a_9_1 : G22.2.1 (F (F a 9) 1) = G.2.1 (F (F a 9) 1))
    (c_G22_F_F_a_9_2 : G22.2.1 (F (F a 9) 2) = G.2.1 (F (F a 9) 2))
    (c_G22_F_F_a_9_3 : G22.2.1 (F (F a 9) 3) = G.2.1 (F (F a 9) 3))
    (c_G22_F_F_a_9_4 : G22.2.1 (F (F a 9) 4) = G.2.1 (F (F a 9) 4))
    (c_G22_F_F_a_9_5 : G22.2.1 (F (F a 9) 5) = G.2.1 (F (F a 9) 5))
    (r_G22_F_F_a_2_0 : G22.2.2.1 (F (F a 2) 0) = G.2.2.1 (F (F a 2) 0))
    (d_G22_F_a_11_3 : G22.1 (F a 11) 3 = G.1 (F a 11) 3)
    (d_G22_F_a_12_4 : G22.1 (F a 12) 4 = G.1 (F a 12) 4)
    (d_G22_F_a_9_6 : G22.1 (F a 9) 6 = G.1 (F a 9) 6) :
    ACo G22 (G22.2.2.1 (F (F a 2) 0)) := by
  have hd : ∀ p, p ∈ [(F a 11, 3), (F a 9, 6), (F a 12, 4)] → K p.1 ≠ 9 := (List.forall_mem_cons.mpr ⟨(show K (F a 11) ≠ 9 by omega), List.forall_mem_cons.mpr ⟨(show K (F a 9) ≠ 9 by omega), List.forall_mem_cons.mpr ⟨(show K (F a 12) ≠ 9 by omega), fun _ h => by cases h⟩⟩⟩)
  rw [show G22.2.2.1 (F (F a 2) 0) = G.2.2.1 (F (F a 2) 0) by assumption]
  exact hac.cg (fun i q hi hq => hfr.rule hd (bkn i q hi hq).1)
theorem v_X10_wouldCut_102_6 {K : Nat → Nat} {F : Nat → Nat → Nat} (a : Nat) (G : XG) (G22 : XG) (p0 : Int32) (p1 : Int32) (x6 : Int32) (p2 : Int32)
    (ha : K a = 12)
    (sb : 0 ≤ ((G.1 (F a 2) 2).toInt) ∧ ((G.1 (F a 2) 2).toInt) ≤ 12)
    (z5 : ¬ (0 ≤ p0.toInt ∧ p0.toInt < 3 ∧ 0 ≤ p1.toInt ∧ p1.toInt < 30) → (cel (vw (G.2.1 (F (F a 3) 0))) (p0.toInt) (p1.toInt) 0) = -2000)
    (t6 : (x6.toInt = 1 ∧ (cel (vw (G.2.1 (F (F a 3) 0))) (p0.toInt) (p1.toInt) 0) ≠ -2000) ∨ (x6.toInt = 0 ∧ (cel (vw (G.2.1 (F (F a 3) 0))) (p0.toInt) (p1.toInt) 0) = -2000))
    (c9 : x6.toInt ≠ 0)
    (z25 : (cel (vw (G22.2.1 (F (F a 5) 0))) (p0.toInt) (p1.toInt) 0) = (cel (vw (G.2.1 (F (F a 3) 0))) (p0.toInt) (p1.toInt) 0))
    (c43 : p2.toInt < 0 ∨ 2 < p2.toInt) :
    (cel (vw (G.2.1 (F (F a 3) 0))) p0.toInt p1.toInt 0 = -2000 ∧ (-1 : Int) = -1) ∨ (cel (vw (G.2.1 (F (F a 3) 0))) p0.toInt p1.toInt 0 ≠ -2000 ∧ ((p2.toInt = 0 ∧ ∃ b : Int → Int, RO (cfin (clsA G (G.2.2.1 (F (F a 2) 0))) (clsT G (G.2.2.1 (F (F a 2) 0))) (clsC G (G.2.2.1 (F (F a 2) 0))) ([(p0.toInt, p1.toInt, 0, 0)], rfil (vw (G.2.1 (F (F a 3) 0))) p0.toInt p1.toInt (-2000) 3)) b ∧ (-1 : Int) = toB (aI (G.2.1 (F (F a 3) 1))) 3 - toB b 3) ∨ (p2.toInt = 1 ∧ (-1 : Int) = bsI (nn1 (cfin (clsA G (G.2.2.1 (F (F a 2) 0))) (clsT G (G.2.2.1 (F (F a 2) 0))) (clsC G (G.2.2.1 (F (F a 2) 0))) ([(p0.toInt, p1.toInt, 0, 0)], rfil (vw (G.2.1 (F (F a 3) 0))) p0.toInt p1.toInt (-2000) 3)) (vw (G.2.1 (F (F a 3) 0)))) 270) ∨ (p2.toInt = 2 ∧ AnsR ((G.1 a 18).toInt) (-1 : Int) (gaL G (G.2.2.1 (F (F a 2) 1)) (vw (G.2.1 (F (F a 3) 0))) (cfin (clsA G (G.2.2.1 (F (F a 2) 0))) (clsT G (G.2.2.1 (F (F a 2) 0))) (clsC G (G.2.2.1 (F (F a 2) 0))) ([(p0.toInt, p1.toInt, 0, 0)], rfil (vw (G.2.1 (F (F a 3) 0))) p0.toInt p1.toInt (-2000) 3)) 0 (((G.1 (F a 2) 2).toInt)).toNat)) ∨ ((p2.toInt < 0 ∨ 2 < p2.toInt) ∧ (-1 : Int) = -1))) := by
  exact Or.inr ⟨by omega, Or.inr (Or.inr (Or.inr ⟨by omega, rfl⟩))⟩
theorem v_X10_wouldCut_72_7 {F : Nat → Nat → Nat} (a : Nat) (G : XG) (G39 : XG) (G22 : XG)
    (ron : RO (vw (G.2.1 (F (F a 3) 0))) (aI (G.2.1 (F (F a 3) 1))))
    (oq22a : RO (vw (G22.2.1 (F (F a 5) 0))) (aI (G22.2.1 (F (F a 5) 1))))
    (oq39a : RO (vw (G39.2.1 (F (F a 5) 0))) (aI (G39.2.1 (F (F a 5) 1))))
    (c_G39_F_F_a_3_0 : G39.2.1 (F (F a 3) 0) = G.2.1 (F (F a 3) 0))
    (c_G39_F_F_a_3_1 : G39.2.1 (F (F a 3) 1) = G.2.1 (F (F a 3) 1)) :
    RO (vw (G39.2.1 (F (F a 3) 0))) (aI (G39.2.1 (F (F a 3) 1))) := by simp only [c_G39_F_F_a_3_0, c_G39_F_F_a_3_1]; assumption
theorem v_X10_wouldCut_79_8 {F : Nat → Nat → Nat} (G39 : XG) (a : Nat)
    (oq39a : RO (vw (G39.2.1 (F (F a 5) 0))) (aI (G39.2.1 (F (F a 5) 1)))) :
    RO (vw (G39.2.1 (F (F a 5) 0))) (aI (G39.2.1 (F (F a 5) 1))) := by
  exact oq39a
theorem v_X10_wouldCut_83_9 {K : Nat → Nat} {F : Nat → Nat → Nat} (a : Nat) (G : XG) (G39 : XG) (G22 : XG) (p0 : Int32) (p1 : Int32) (x72 : Int32) (x79 : Int32) (x6 : Int32) (p2 : Int32)
    (ha : K a = 12)
    (hk9999 : K (F a 11) = 3)
    (hj9999 : F (F a 11) 99 = 0)
    (hk9999a : K (F a 9) = 6)
    (hj9999a : F (F a 9) 99 = 1)
    (hk9999b : K (F a 12) = 4)
    (hj9999b : F (F a 12) 99 = 0)
    (hk9999c : K (F (F a 11) 0) = 21)
    (hj9999c : F (F (F a 11) 0) 99 = 100)
    (hk9999d : K (F (F a 11) 1) = 21)
    (hj9999d : F (F (F a 11) 1) 99 = 101)
    (hk9999e : K (F (F a 11) 2) = 24)
    (hj9999e : F (F (F a 11) 2) 99 = 4)
    (hk9999f : K (F (F a 9) 0) = 22)
    (hj9999g : F (F (F a 9) 0) 99 = 10 * 1 + 0)
    (hk9999g : K (F (F a 9) 1) = 22)
    (hj9999i : F (F (F a 9) 1) 99 = 10 * 1 + 1)
    (hk9999h : K (F (F a 9) 2) = 22)
    (hj9999k : F (F (F a 9) 2) 99 = 10 * 1 + 2)
    (hk9999i : K (F (F a 9) 3) = 22)
    (hj9999m : F (F (F a 9) 3) 99 = 10 * 1 + 3)
    (hk9999j : K (F (F a 9) 4) = 23)
    (hj9999o : F (F (F a 9) 4) 99 = 10 * 1 + 4)
    (hk9999k : K (F (F a 9) 5) = 23)
    (hj9999q : F (F (F a 9) 5) 99 = 10 * 1 + 5)
    (hk9999l : K (F a 5) = 8)
    (hj9999r : F (F a 5) 99 = 2)
    (hk9999m : K (F (F a 5) 0) = 20)
    (hj9999t : F (F (F a 5) 0) 99 = 2)
    (hk9999n : K (F (F a 5) 1) = 21)
    (hj9999v : F (F (F a 5) 1) 99 = 2)
    (hk9999o : K (F (F a 12) 0) = 24)
    (hj9999w : F (F (F a 12) 0) 99 = 0)
    (hk9999p : K (F (F a 12) 1) = 24)
    (hj9999y : F (F (F a 12) 1) 99 = 1)
    (hk9999q : K (F (F a 12) 2) = 24)
    (hj9999z25 : F (F (F a 12) 2) 99 = 2)
    (hk9999r : K (F (F a 12) 3) = 24)
    (hj9999z26 : F (F (F a 12) 3) 99 = 3)
    (hk9999s : K (F a 2) = 2)
    (hj9999z27 : F (F a 2) 99 = 0)
    (hk9999t : K (F (F a 2) 1) = 15)
    (hj9999z28 : F (F (F a 2) 1) 99 = 1)
    (hk9999u : K (F (F a 2) 0) = 15)
    (hj9999z29 : F (F (F a 2) 0) 99 = 0)
    (hk9999v : K (F a 3) = 8)
    (hj9999z30 : F (F a 3) 99 = 0)
    (hk9999w : K (F (F a 3) 0) = 20)
    (hj9999z32 : F (F (F a 3) 0) 99 = 0)
    (hk9999y : K (F (F a 3) 1) = 21)
    (hj9999z34 : F (F (F a 3) 1) 99 = 0)
    (hF22 : XFr [] [F (F a 5) 0, F (F a 5) 1] [] G G22)
    (bkn : BKr K G (G.2.2.1 (F (F a 2) 0)))
    (oq22 : (vw (G22.2.1 (F (F a 5) 0))) = (vw (G.2.1 (F (F a 3) 0))))
    (oq39 : (vw (G39.2.1 (F (F a 5) 0))) = cfin (clsA G22 (G22.2.2.1 (F (F a 2) 0))) (clsT G22 (G22.2.2.1 (F (F a 2) 0))) (clsC G22 (G22.2.2.1 (F (F a 2) 0))) ([(p0.toInt, p1.toInt, 0, 0)], rfil (vw (G22.2.1 (F (F a 5) 0))) p0.toInt p1.toInt (-2000) 3))
    (oq39a : RO (vw (G39.2.1 (F (F a 5) 0))) (aI (G39.2.1 (F (F a 5) 1))))
    (sb : 0 ≤ ((G.1 (F a 2) 2).toInt) ∧ ((G.1 (F a 2) 2).toInt) ≤ 12)
    (z5 : ¬ (0 ≤ p0.toInt ∧ p0.toInt < 3 ∧ 0 ≤ p1.toInt ∧ p1.toInt < 30) → (cel (vw (G.2.1 (F (F a 3) 0))) (p0.toInt) (p1.toInt) 0) = -2000)
    (t6 : (x6.toInt = 1 ∧ (cel (vw (G.2.1 (F (F a 3) 0))) (p0.toInt) (p1.toInt) 0) ≠ -2000) ∨ (x6.toInt = 0 ∧ (cel (vw (G.2.1 (F (F a 3) 0))) (p0.toInt) (p1.toInt) 0) = -2000))
    (c9 : x6.toInt ≠ 0)
    (z25 : (cel (vw (G22.2.1 (F (F a 5) 0))) (p0.toInt) (p1.toInt) 0) = (cel (vw (G.2.1 (F (F a 3) 0))) (p0.toInt) (p1.toInt) 0))
    (c43 : p2.toInt = 0)
    (t72 : x72.toInt = (toB (aI (G.2.1 (F (F a 3) 1))) 3) ∧ (0 ≤ x72.toInt ∧ x72.toInt ≤ 90))
    (t79 : x79.toInt = (toB (aI (G39.2.1 (F (F a 5) 1))) 3) ∧ (0 ≤ x79.toInt ∧ x79.toInt ≤ 90))
    (r_G22_F_F_a_2_0 : G22.2.2.1 (F (F a 2) 0) = G.2.2.1 (F (F a 2) 0)) :
    (cel (vw (G.2.1 (F (F a 3) 0))) p0.toInt p1.toInt 0 = -2000 ∧ (x72.toInt - x79.toInt) = -1) ∨ (cel (vw (G.2.1 (F (F a 3) 0))) p0.toInt p1.toInt 0 ≠ -2000 ∧ ((p2.toInt = 0 ∧ ∃ b : Int → Int, RO (cfin (clsA G (G.2.2.1 (F (F a 2) 0))) (clsT G (G.2.2.1 (F (F a 2) 0))) (clsC G (G.2.2.1 (F (F a 2) 0))) ([(p0.toInt, p1.toInt, 0, 0)], rfil (vw (G.2.1 (F (F a 3) 0))) p0.toInt p1.toInt (-2000) 3)) b ∧ (x72.toInt - x79.toInt) = toB (aI (G.2.1 (F (F a 3) 1))) 3 - toB b 3) ∨ (p2.toInt = 1 ∧ (x72.toInt - x79.toInt) = bsI (nn1 (cfin (clsA G (G.2.2.1 (F (F a 2) 0))) (clsT G (G.2.2.1 (F (F a 2) 0))) (clsC G (G.2.2.1 (F (F a 2) 0))) ([(p0.toInt, p1.toInt, 0, 0)], rfil (vw (G.2.1 (F (F a 3) 0))) p0.toInt p1.toInt (-2000) 3)) (vw (G.2.1 (F (F a 3) 0)))) 270) ∨ (p2.toInt = 2 ∧ AnsR ((G.1 a 18).toInt) (x72.toInt - x79.toInt) (gaL G (G.2.2.1 (F (F a 2) 1)) (vw (G.2.1 (F (F a 3) 0))) (cfin (clsA G (G.2.2.1 (F (F a 2) 0))) (clsT G (G.2.2.1 (F (F a 2) 0))) (clsC G (G.2.2.1 (F (F a 2) 0))) ([(p0.toInt, p1.toInt, 0, 0)], rfil (vw (G.2.1 (F (F a 3) 0))) p0.toInt p1.toInt (-2000) 3)) 0 (((G.1 (F a 2) 2).toInt)).toNat)) ∨ ((p2.toInt < 0 ∨ 2 < p2.toInt) ∧ (x72.toInt - x79.toInt) = -1))) := by
  have hd0 : ∀ p, p ∈ ([] : List (Nat × Nat)) → K p.1 ≠ 9 := fun _ h => by cases h
  have hd4 : ∀ p, p ∈ [(F a 12, 4)] → K p.1 ≠ 9 := (List.forall_mem_cons.mpr ⟨(show K (F a 12) ≠ 9 by omega), fun _ h => by cases h⟩)
  have h0 : ∀ (i q : Nat), i < 12 → G.2.2.1 (F (F a 2) 0) i = some q → G22.1 q = G.1 q := fun i q hi hq => hF22.rule hd0 (bkn i q hi hq).1
  rw [r_G22_F_F_a_2_0, (cls_cg h0).1, (cls_cg h0).2.1, (cls_cg h0).2.2, oq22] at oq39
  exact Or.inr ⟨by omega, Or.inl ⟨by omega, aI (G39.2.1 (F (F a 5) 1)), by rw [← oq39]; exact oq39a, by omega⟩⟩
theorem v_X10_wouldCut_95_10 {K : Nat → Nat} {F : Nat → Nat → Nat} (a : Nat) (G : XG) (G39 : XG) (G22 : XG) (p0 : Int32) (p1 : Int32) (x6 : Int32) (p2 : Int32)
    (ha : K a = 12)
    (hk9999 : K (F a 11) = 3)
    (hj9999 : F (F a 11) 99 = 0)
    (hk9999a : K (F a 9) = 6)
    (hj9999a : F (F a 9) 99 = 1)
    (hk9999b : K (F a 12) = 4)
    (hj9999b : F (F a 12) 99 = 0)
    (hk9999c : K (F (F a 11) 0) = 21)
    (hj9999c : F (F (F a 11) 0) 99 = 100)
    (hk9999d : K (F (F a 11) 1) = 21)
    (hj9999d : F (F (F a 11) 1) 99 = 101)
    (hk9999e : K (F (F a 11) 2) = 24)
    (hj9999e : F (F (F a 11) 2) 99 = 4)
    (hk9999f : K (F (F a 9) 0) = 22)
    (hj9999g : F (F (F a 9) 0) 99 = 10 * 1 + 0)
    (hk9999g : K (F (F a 9) 1) = 22)
    (hj9999i : F (F (F a 9) 1) 99 = 10 * 1 + 1)
    (hk9999h : K (F (F a 9) 2) = 22)
    (hj9999k : F (F (F a 9) 2) 99 = 10 * 1 + 2)
    (hk9999i : K (F (F a 9) 3) = 22)
    (hj9999m : F (F (F a 9) 3) 99 = 10 * 1 + 3)
    (hk9999j : K (F (F a 9) 4) = 23)
    (hj9999o : F (F (F a 9) 4) 99 = 10 * 1 + 4)
    (hk9999k : K (F (F a 9) 5) = 23)
    (hj9999q : F (F (F a 9) 5) 99 = 10 * 1 + 5)
    (hk9999l : K (F a 5) = 8)
    (hj9999r : F (F a 5) 99 = 2)
    (hk9999m : K (F (F a 5) 0) = 20)
    (hj9999t : F (F (F a 5) 0) 99 = 2)
    (hk9999n : K (F (F a 5) 1) = 21)
    (hj9999v : F (F (F a 5) 1) 99 = 2)
    (hk9999o : K (F (F a 12) 0) = 24)
    (hj9999w : F (F (F a 12) 0) 99 = 0)
    (hk9999p : K (F (F a 12) 1) = 24)
    (hj9999y : F (F (F a 12) 1) 99 = 1)
    (hk9999q : K (F (F a 12) 2) = 24)
    (hj9999z25 : F (F (F a 12) 2) 99 = 2)
    (hk9999r : K (F (F a 12) 3) = 24)
    (hj9999z26 : F (F (F a 12) 3) 99 = 3)
    (hk9999s : K (F a 2) = 2)
    (hj9999z27 : F (F a 2) 99 = 0)
    (hk9999t : K (F (F a 2) 1) = 15)
    (hj9999z28 : F (F (F a 2) 1) 99 = 1)
    (hk9999u : K (F (F a 2) 0) = 15)
    (hj9999z29 : F (F (F a 2) 0) 99 = 0)
    (hk9999v : K (F a 3) = 8)
    (hj9999z30 : F (F a 3) 99 = 0)
    (hk9999w : K (F (F a 3) 0) = 20)
    (hj9999z32 : F (F (F a 3) 0) 99 = 0)
    (hk9999y : K (F (F a 3) 1) = 21)
    (hj9999z34 : F (F (F a 3) 1) 99 = 0)
    (hF22 : XFr [] [F (F a 5) 0, F (F a 5) 1] [] G G22)
    (bkn : BKr K G (G.2.2.1 (F (F a 2) 0)))
    (oq22 : (vw (G22.2.1 (F (F a 5) 0))) = (vw (G.2.1 (F (F a 3) 0))))
    (oq39 : (vw (G39.2.1 (F (F a 5) 0))) = cfin (clsA G22 (G22.2.2.1 (F (F a 2) 0))) (clsT G22 (G22.2.2.1 (F (F a 2) 0))) (clsC G22 (G22.2.2.1 (F (F a 2) 0))) ([(p0.toInt, p1.toInt, 0, 0)], rfil (vw (G22.2.1 (F (F a 5) 0))) p0.toInt p1.toInt (-2000) 3))
    (sb : 0 ≤ ((G.1 (F a 2) 2).toInt) ∧ ((G.1 (F a 2) 2).toInt) ≤ 12)
    (z5 : ¬ (0 ≤ p0.toInt ∧ p0.toInt < 3 ∧ 0 ≤ p1.toInt ∧ p1.toInt < 30) → (cel (vw (G.2.1 (F (F a 3) 0))) (p0.toInt) (p1.toInt) 0) = -2000)
    (t6 : (x6.toInt = 1 ∧ (cel (vw (G.2.1 (F (F a 3) 0))) (p0.toInt) (p1.toInt) 0) ≠ -2000) ∨ (x6.toInt = 0 ∧ (cel (vw (G.2.1 (F (F a 3) 0))) (p0.toInt) (p1.toInt) 0) = -2000))
    (c9 : x6.toInt ≠ 0)
    (z25 : (cel (vw (G22.2.1 (F (F a 5) 0))) (p0.toInt) (p1.toInt) 0) = (cel (vw (G.2.1 (F (F a 3) 0))) (p0.toInt) (p1.toInt) 0))
    (c43 : p2.toInt = 1)
    (r_G22_F_F_a_2_0 : G22.2.2.1 (F (F a 2) 0) = G.2.2.1 (F (F a 2) 0)) :
    (cel (vw (G.2.1 (F (F a 3) 0))) p0.toInt p1.toInt 0 = -2000 ∧ (bsI (nn1 (vw (G39.2.1 (F (F a 5) 0))) (vw (G.2.1 (F (F a 3) 0)))) 270) = -1) ∨ (cel (vw (G.2.1 (F (F a 3) 0))) p0.toInt p1.toInt 0 ≠ -2000 ∧ ((p2.toInt = 0 ∧ ∃ b : Int → Int, RO (cfin (clsA G (G.2.2.1 (F (F a 2) 0))) (clsT G (G.2.2.1 (F (F a 2) 0))) (clsC G (G.2.2.1 (F (F a 2) 0))) ([(p0.toInt, p1.toInt, 0, 0)], rfil (vw (G.2.1 (F (F a 3) 0))) p0.toInt p1.toInt (-2000) 3)) b ∧ (bsI (nn1 (vw (G39.2.1 (F (F a 5) 0))) (vw (G.2.1 (F (F a 3) 0)))) 270) = toB (aI (G.2.1 (F (F a 3) 1))) 3 - toB b 3) ∨ (p2.toInt = 1 ∧ (bsI (nn1 (vw (G39.2.1 (F (F a 5) 0))) (vw (G.2.1 (F (F a 3) 0)))) 270) = bsI (nn1 (cfin (clsA G (G.2.2.1 (F (F a 2) 0))) (clsT G (G.2.2.1 (F (F a 2) 0))) (clsC G (G.2.2.1 (F (F a 2) 0))) ([(p0.toInt, p1.toInt, 0, 0)], rfil (vw (G.2.1 (F (F a 3) 0))) p0.toInt p1.toInt (-2000) 3)) (vw (G.2.1 (F (F a 3) 0)))) 270) ∨ (p2.toInt = 2 ∧ AnsR ((G.1 a 18).toInt) (bsI (nn1 (vw (G39.2.1 (F (F a 5) 0))) (vw (G.2.1 (F (F a 3) 0)))) 270) (gaL G (G.2.2.1 (F (F a 2) 1)) (vw (G.2.1 (F (F a 3) 0))) (cfin (clsA G (G.2.2.1 (F (F a 2) 0))) (clsT G (G.2.2.1 (F (F a 2) 0))) (clsC G (G.2.2.1 (F (F a 2) 0))) ([(p0.toInt, p1.toInt, 0, 0)], rfil (vw (G.2.1 (F (F a 3) 0))) p0.toInt p1.toInt (-2000) 3)) 0 (((G.1 (F a 2) 2).toInt)).toNat)) ∨ ((p2.toInt < 0 ∨ 2 < p2.toInt) ∧ (bsI (nn1 (vw (G39.2.1 (F (F a 5) 0))) (vw (G.2.1 (F (F a 3) 0)))) 270) = -1))) := by
  have hd0 : ∀ p, p ∈ ([] : List (Nat × Nat)) → K p.1 ≠ 9 := fun _ h => by cases h
  have hd4 : ∀ p, p ∈ [(F a 12, 4)] → K p.1 ≠ 9 := (List.forall_mem_cons.mpr ⟨(show K (F a 12) ≠ 9 by omega), fun _ h => by cases h⟩)
  have h0 : ∀ (i q : Nat), i < 12 → G.2.2.1 (F (F a 2) 0) i = some q → G22.1 q = G.1 q := fun i q hi hq => hF22.rule hd0 (bkn i q hi hq).1
  rw [r_G22_F_F_a_2_0, (cls_cg h0).1, (cls_cg h0).2.1, (cls_cg h0).2.2, oq22] at oq39
  rw [← oq39]
  exact Or.inr ⟨by omega, Or.inr (Or.inl ⟨by omega, by first | rfl | omega⟩)⟩
theorem v_X10_wouldCut_97_11 {F : Nat → Nat → Nat} (a : Nat) (G : XG) (G39 : XG) (G22 : XG)
    (ron : RO (vw (G.2.1 (F (F a 3) 0))) (aI (G.2.1 (F (F a 3) 1))))
    (oq22a : RO (vw (G22.2.1 (F (F a 5) 0))) (aI (G22.2.1 (F (F a 5) 1))))
    (oq39a : RO (vw (G39.2.1 (F (F a 5) 0))) (aI (G39.2.1 (F (F a 5) 1))))
    (c_G39_F_F_a_3_0 : G39.2.1 (F (F a 3) 0) = G.2.1 (F (F a 3) 0))
    (c_G39_F_F_a_3_1 : G39.2.1 (F (F a 3) 1) = G.2.1 (F (F a 3) 1)) :
    RO (vw (G39.2.1 (F (F a 3) 0))) (aI (G39.2.1 (F (F a 3) 1))) := by simp only [c_G39_F_F_a_3_0, c_G39_F_F_a_3_1]; assumption
theorem v_X10_wouldCut_97_12 {F : Nat → Nat → Nat} (G39 : XG) (a : Nat)
    (oq39a : RO (vw (G39.2.1 (F (F a 5) 0))) (aI (G39.2.1 (F (F a 5) 1)))) :
    RO (vw (G39.2.1 (F (F a 5) 0))) (aI (G39.2.1 (F (F a 5) 1))) := by
  exact oq39a
theorem v_X10_wouldCut_97_13 {K : Nat → Nat} {F : Nat → Nat → Nat} (a : Nat) (G : XG) (G39 : XG) (G22 : XG) (p0 : Int32) (p1 : Int32) (x6 : Int32) (p2 : Int32)
    (ha : K a = 12)
    (hk9999 : K (F a 11) = 3)
    (hj9999 : F (F a 11) 99 = 0)
    (hk9999a : K (F a 9) = 6)
    (hj9999a : F (F a 9) 99 = 1)
    (hk9999b : K (F a 12) = 4)
    (hj9999b : F (F a 12) 99 = 0)
    (hk9999c : K (F (F a 11) 0) = 21)
    (hj9999c : F (F (F a 11) 0) 99 = 100)
    (hk9999d : K (F (F a 11) 1) = 21)
    (hj9999d : F (F (F a 11) 1) 99 = 101)
    (hk9999e : K (F (F a 11) 2) = 24)
    (hj9999e : F (F (F a 11) 2) 99 = 4)
    (hk9999f : K (F (F a 9) 0) = 22)
    (hj9999g : F (F (F a 9) 0) 99 = 10 * 1 + 0)
    (hk9999g : K (F (F a 9) 1) = 22)
    (hj9999i : F (F (F a 9) 1) 99 = 10 * 1 + 1)
    (hk9999h : K (F (F a 9) 2) = 22)
    (hj9999k : F (F (F a 9) 2) 99 = 10 * 1 + 2)
    (hk9999i : K (F (F a 9) 3) = 22)
    (hj9999m : F (F (F a 9) 3) 99 = 10 * 1 + 3)
    (hk9999j : K (F (F a 9) 4) = 23)
    (hj9999o : F (F (F a 9) 4) 99 = 10 * 1 + 4)
    (hk9999k : K (F (F a 9) 5) = 23)
    (hj9999q : F (F (F a 9) 5) 99 = 10 * 1 + 5)
    (hk9999l : K (F a 5) = 8)
    (hj9999r : F (F a 5) 99 = 2)
    (hk9999m : K (F (F a 5) 0) = 20)
    (hj9999t : F (F (F a 5) 0) 99 = 2)
    (hk9999n : K (F (F a 5) 1) = 21)
    (hj9999v : F (F (F a 5) 1) 99 = 2)
    (hk9999o : K (F (F a 12) 0) = 24)
    (hj9999w : F (F (F a 12) 0) 99 = 0)
    (hk9999p : K (F (F a 12) 1) = 24)
    (hj9999y : F (F (F a 12) 1) 99 = 1)
    (hk9999q : K (F (F a 12) 2) = 24)
    (hj9999z25 : F (F (F a 12) 2) 99 = 2)
    (hk9999r : K (F (F a 12) 3) = 24)
    (hj9999z26 : F (F (F a 12) 3) 99 = 3)
    (hk9999s : K (F a 2) = 2)
    (hj9999z27 : F (F a 2) 99 = 0)
    (hk9999t : K (F (F a 2) 1) = 15)
    (hj9999z28 : F (F (F a 2) 1) 99 = 1)
    (hk9999u : K (F (F a 2) 0) = 15)
    (hj9999z29 : F (F (F a 2) 0) 99 = 0)
    (hk9999v : K (F a 3) = 8)
    (hj9999z30 : F (F a 3) 99 = 0)
    (hk9999w : K (F (F a 3) 0) = 20)
    (hj9999z32 : F (F (F a 3) 0) 99 = 0)
    (hk9999y : K (F (F a 3) 1) = 21)
    (hj9999z34 : F (F (F a 3) 1) 99 = 0)
    (hfr : XFr [(F a 11, 3), (F a 9, 6), (F a 12, 4)] [F (F a 11) 0, F (F a 11) 1, F (F a 11) 2, F (F a 9) 0, F (F a 9) 1, F (F a 9) 2, F (F a 9) 3, F (F a 9) 4, F (F a 9) 5, F (F a 5) 0, F (F a 5) 1, F (F a 12) 0, F (F a 12) 1, F (F a 12) 2, F (F a 12) 3] [] G G39)
    (hF22 : XFr [] [F (F a 5) 0, F (F a 5) 1] [] G G22)
    (hF39 : XFr [(F a 12, 4)] [F (F a 12) 0, F (F a 12) 1, F (F a 12) 2, F (F a 12) 3, F (F a 5) 0, F (F a 5) 1] [] G22 G39)
    (ron : RO (vw (G.2.1 (F (F a 3) 0))) (aI (G.2.1 (F (F a 3) 1))))
    (bko : BKr K G (G.2.2.1 (F (F a 2) 1)))
    (bkn : BKr K G (G.2.2.1 (F (F a 2) 0)))
    (hac : ACo G (G.2.2.1 (F (F a 2) 0)))
    (oq22 : (vw (G22.2.1 (F (F a 5) 0))) = (vw (G.2.1 (F (F a 3) 0))))
    (oq22a : RO (vw (G22.2.1 (F (F a 5) 0))) (aI (G22.2.1 (F (F a 5) 1))))
    (oq39 : (vw (G39.2.1 (F (F a 5) 0))) = cfin (clsA G22 (G22.2.2.1 (F (F a 2) 0))) (clsT G22 (G22.2.2.1 (F (F a 2) 0))) (clsC G22 (G22.2.2.1 (F (F a 2) 0))) ([(p0.toInt, p1.toInt, 0, 0)], rfil (vw (G22.2.1 (F (F a 5) 0))) p0.toInt p1.toInt (-2000) 3))
    (oq39a : RO (vw (G39.2.1 (F (F a 5) 0))) (aI (G39.2.1 (F (F a 5) 1))))
    (sb : 0 ≤ ((G.1 (F a 2) 2).toInt) ∧ ((G.1 (F a 2) 2).toInt) ≤ 12)
    (z5 : ¬ (0 ≤ p0.toInt ∧ p0.toInt < 3 ∧ 0 ≤ p1.toInt ∧ p1.toInt < 30) → (cel (vw (G.2.1 (F (F a 3) 0))) (p0.toInt) (p1.toInt) 0) = -2000)
    (t6 : (x6.toInt = 1 ∧ (cel (vw (G.2.1 (F (F a 3) 0))) (p0.toInt) (p1.toInt) 0) ≠ -2000) ∨ (x6.toInt = 0 ∧ (cel (vw (G.2.1 (F (F a 3) 0))) (p0.toInt) (p1.toInt) 0) = -2000))
    (c9 : x6.toInt ≠ 0)
    (z25 : (cel (vw (G22.2.1 (F (F a 5) 0))) (p0.toInt) (p1.toInt) 0) = (cel (vw (G.2.1 (F (F a 3) 0))) (p0.toInt) (p1.toInt) 0))
    (c43 : p2.toInt = 2)
    (c_G39_F_F_a_11_0 : G39.2.1 (F (F a 11) 0) = G.2.1 (F (F a 11) 0))
    (c_G39_F_F_a_11_1 : G39.2.1 (F (F a 11) 1) = G.2.1 (F (F a 11) 1))
    (c_G39_F_F_a_11_2 : G39.2.1 (F (F a 11) 2) = G.2.1 (F (F a 11) 2))
    (c_G39_F_F_a_9_0 : G39.2.1 (F (F a 9) 0) = G.2.1 (F (F a 9) 0))
    (c_G39_F_F_a_9_1 : G39.2.1 (F (F a 9) 1) = G.2.1 (F (F a 9) 1))
    (c_G39_F_F_a_9_2 : G39.2.1 (F (F a 9) 2) = G.2.1 (F (F a 9) 2))
    (c_G39_F_F_a_9_3 : G39.2.1 (F (F a 9) 3) = G.2.1 (F (F a 9) 3))
    (c_G39_F_F_a_9_4 : G39.2.1 (F (F a 9) 4) = G.2.1 (F (F a 9) 4))
    (c_G39_F_F_a_9_5 : G39.2.1 (F (F a 9) 5) = G.2.1 (F (F a 9) 5))
    (r_G22_F_F_a_2_0 : G22.2.2.1 (F (F a 2) 0) = G.2.2.1 (F (F a 2) 0))
    (r_G39_F_F_a_2_1 : G39.2.2.1 (F (F a 2) 1) = G.2.2.1 (F (F a 2) 1))
    (d_G39_F_a_11_3 : G39.1 (F a 11) 3 = G.1 (F a 11) 3)
    (d_G39_F_a_9_6 : G39.1 (F a 9) 6 = G.1 (F a 9) 6) :
    BKr K G39 (G39.2.2.1 (F (F a 2) 1)) := by
  have hd : ∀ p, p ∈ [(F a 11, 3), (F a 9, 6), (F a 12, 4)] → K p.1 ≠ 9 := (List.forall_mem_cons.mpr ⟨(show K (F a 11) ≠ 9 by omega), List.forall_mem_cons.mpr ⟨(show K (F a 9) ≠ 9 by omega), List.forall_mem_cons.mpr ⟨(show K (F a 12) ≠ 9 by omega), fun _ h => by cases h⟩⟩⟩)
  rw [show G39.2.2.1 (F (F a 2) 1) = G.2.2.1 (F (F a 2) 1) by assumption]
  exact bko.fr hfr hd
theorem v_X10_wouldCut_100_14 {K : Nat → Nat} {F : Nat → Nat → Nat} (a : Nat) (G : XG) (G22 : XG) (G39 : XG) (p0 : Int32) (p1 : Int32) (x97 : Int32) (x6 : Int32) (p2 : Int32)
    (ha : K a = 12)
    (hk9999 : K (F a 11) = 3)
    (hj9999 : F (F a 11) 99 = 0)
    (hk9999a : K (F a 9) = 6)
    (hj9999a : F (F a 9) 99 = 1)
    (hk9999b : K (F a 12) = 4)
    (hj9999b : F (F a 12) 99 = 0)
    (hk9999c : K (F (F a 11) 0) = 21)
    (hj9999c : F (F (F a 11) 0) 99 = 100)
    (hk9999d : K (F (F a 11) 1) = 21)
    (hj9999d : F (F (F a 11) 1) 99 = 101)
    (hk9999e : K (F (F a 11) 2) = 24)
    (hj9999e : F (F (F a 11) 2) 99 = 4)
    (hk9999f : K (F (F a 9) 0) = 22)
    (hj9999g : F (F (F a 9) 0) 99 = 10 * 1 + 0)
    (hk9999g : K (F (F a 9) 1) = 22)
    (hj9999i : F (F (F a 9) 1) 99 = 10 * 1 + 1)
    (hk9999h : K (F (F a 9) 2) = 22)
    (hj9999k : F (F (F a 9) 2) 99 = 10 * 1 + 2)
    (hk9999i : K (F (F a 9) 3) = 22)
    (hj9999m : F (F (F a 9) 3) 99 = 10 * 1 + 3)
    (hk9999j : K (F (F a 9) 4) = 23)
    (hj9999o : F (F (F a 9) 4) 99 = 10 * 1 + 4)
    (hk9999k : K (F (F a 9) 5) = 23)
    (hj9999q : F (F (F a 9) 5) 99 = 10 * 1 + 5)
    (hk9999l : K (F a 5) = 8)
    (hj9999r : F (F a 5) 99 = 2)
    (hk9999m : K (F (F a 5) 0) = 20)
    (hj9999t : F (F (F a 5) 0) 99 = 2)
    (hk9999n : K (F (F a 5) 1) = 21)
    (hj9999v : F (F (F a 5) 1) 99 = 2)
    (hk9999o : K (F (F a 12) 0) = 24)
    (hj9999w : F (F (F a 12) 0) 99 = 0)
    (hk9999p : K (F (F a 12) 1) = 24)
    (hj9999y : F (F (F a 12) 1) 99 = 1)
    (hk9999q : K (F (F a 12) 2) = 24)
    (hj9999z25 : F (F (F a 12) 2) 99 = 2)
    (hk9999r : K (F (F a 12) 3) = 24)
    (hj9999z26 : F (F (F a 12) 3) 99 = 3)
    (hk9999s : K (F a 2) = 2)
    (hj9999z27 : F (F a 2) 99 = 0)
    (hk9999t : K (F (F a 2) 1) = 15)
    (hj9999z28 : F (F (F a 2) 1) 99 = 1)
    (hk9999u : K (F (F a 2) 0) = 15)
    (hj9999z29 : F (F (F a 2) 0) 99 = 0)
    (hk9999v : K (F a 3) = 8)
    (hj9999z30 : F (F a 3) 99 = 0)
    (hk9999w : K (F (F a 3) 0) = 20)
    (hj9999z32 : F (F (F a 3) 0) 99 = 0)
    (hk9999y : K (F (F a 3) 1) = 21)
    (hj9999z34 : F (F (F a 3) 1) 99 = 0)
    (hF22 : XFr [] [F (F a 5) 0, F (F a 5) 1] [] G G22)
    (hF39 : XFr [(F a 12, 4)] [F (F a 12) 0, F (F a 12) 1, F (F a 12) 2, F (F a 12) 3, F (F a 5) 0, F (F a 5) 1] [] G22 G39)
    (bko : BKr K G (G.2.2.1 (F (F a 2) 1)))
    (bkn : BKr K G (G.2.2.1 (F (F a 2) 0)))
    (oq22 : (vw (G22.2.1 (F (F a 5) 0))) = (vw (G.2.1 (F (F a 3) 0))))
    (oq39 : (vw (G39.2.1 (F (F a 5) 0))) = cfin (clsA G22 (G22.2.2.1 (F (F a 2) 0))) (clsT G22 (G22.2.2.1 (F (F a 2) 0))) (clsC G22 (G22.2.2.1 (F (F a 2) 0))) ([(p0.toInt, p1.toInt, 0, 0)], rfil (vw (G22.2.1 (F (F a 5) 0))) p0.toInt p1.toInt (-2000) 3))
    (oq97 : AnsR ((G.1 a 18).toInt) x97.toInt (gaL G39 (G39.2.2.1 (F (F a 2) 1)) (vw (G.2.1 (F (F a 3) 0))) (vw (G39.2.1 (F (F a 5) 0))) 0 (((G.1 (F a 2) 2).toInt)).toNat))
    (sb : 0 ≤ ((G.1 (F a 2) 2).toInt) ∧ ((G.1 (F a 2) 2).toInt) ≤ 12)
    (z5 : ¬ (0 ≤ p0.toInt ∧ p0.toInt < 3 ∧ 0 ≤ p1.toInt ∧ p1.toInt < 30) → (cel (vw (G.2.1 (F (F a 3) 0))) (p0.toInt) (p1.toInt) 0) = -2000)
    (t6 : (x6.toInt = 1 ∧ (cel (vw (G.2.1 (F (F a 3) 0))) (p0.toInt) (p1.toInt) 0) ≠ -2000) ∨ (x6.toInt = 0 ∧ (cel (vw (G.2.1 (F (F a 3) 0))) (p0.toInt) (p1.toInt) 0) = -2000))
    (c9 : x6.toInt ≠ 0)
    (z25 : (cel (vw (G22.2.1 (F (F a 5) 0))) (p0.toInt) (p1.toInt) 0) = (cel (vw (G.2.1 (F (F a 3) 0))) (p0.toInt) (p1.toInt) 0))
    (c43 : p2.toInt = 2)
    (r_G22_F_F_a_2_0 : G22.2.2.1 (F (F a 2) 0) = G.2.2.1 (F (F a 2) 0))
    (r_G39_F_F_a_2_1 : G39.2.2.1 (F (F a 2) 1) = G.2.2.1 (F (F a 2) 1)) :
    (cel (vw (G.2.1 (F (F a 3) 0))) p0.toInt p1.toInt 0 = -2000 ∧ x97.toInt = -1) ∨ (cel (vw (G.2.1 (F (F a 3) 0))) p0.toInt p1.toInt 0 ≠ -2000 ∧ ((p2.toInt = 0 ∧ ∃ b : Int → Int, RO (cfin (clsA G (G.2.2.1 (F (F a 2) 0))) (clsT G (G.2.2.1 (F (F a 2) 0))) (clsC G (G.2.2.1 (F (F a 2) 0))) ([(p0.toInt, p1.toInt, 0, 0)], rfil (vw (G.2.1 (F (F a 3) 0))) p0.toInt p1.toInt (-2000) 3)) b ∧ x97.toInt = toB (aI (G.2.1 (F (F a 3) 1))) 3 - toB b 3) ∨ (p2.toInt = 1 ∧ x97.toInt = bsI (nn1 (cfin (clsA G (G.2.2.1 (F (F a 2) 0))) (clsT G (G.2.2.1 (F (F a 2) 0))) (clsC G (G.2.2.1 (F (F a 2) 0))) ([(p0.toInt, p1.toInt, 0, 0)], rfil (vw (G.2.1 (F (F a 3) 0))) p0.toInt p1.toInt (-2000) 3)) (vw (G.2.1 (F (F a 3) 0)))) 270) ∨ (p2.toInt = 2 ∧ AnsR ((G.1 a 18).toInt) x97.toInt (gaL G (G.2.2.1 (F (F a 2) 1)) (vw (G.2.1 (F (F a 3) 0))) (cfin (clsA G (G.2.2.1 (F (F a 2) 0))) (clsT G (G.2.2.1 (F (F a 2) 0))) (clsC G (G.2.2.1 (F (F a 2) 0))) ([(p0.toInt, p1.toInt, 0, 0)], rfil (vw (G.2.1 (F (F a 3) 0))) p0.toInt p1.toInt (-2000) 3)) 0 (((G.1 (F a 2) 2).toInt)).toNat)) ∨ ((p2.toInt < 0 ∨ 2 < p2.toInt) ∧ x97.toInt = -1))) := by
  have hd0 : ∀ p, p ∈ ([] : List (Nat × Nat)) → K p.1 ≠ 9 := fun _ h => by cases h
  have hd4 : ∀ p, p ∈ [(F a 12, 4)] → K p.1 ≠ 9 := (List.forall_mem_cons.mpr ⟨(show K (F a 12) ≠ 9 by omega), fun _ h => by cases h⟩)
  have h0 : ∀ (i q : Nat), i < 12 → G.2.2.1 (F (F a 2) 0) i = some q → G22.1 q = G.1 q := fun i q hi hq => hF22.rule hd0 (bkn i q hi hq).1
  rw [r_G22_F_F_a_2_0, (cls_cg h0).1, (cls_cg h0).2.1, (cls_cg h0).2.2, oq22] at oq39
  have hc : ∀ (i q : Nat), i < ((G.1 (F a 2) 2).toInt).toNat → G.2.2.1 (F (F a 2) 1) i = some q → G39.1 q = G.1 q := fun i q hi hq => (hF39.rule hd4 (bko i q (by omega) hq).1).trans (hF22.rule hd0 (bko i q (by omega) hq).1)
  rw [oq39, r_G39_F_F_a_2_1, gaL_cg hc] at oq97
  exact Or.inr ⟨by omega, Or.inr (Or.inr (Or.inl ⟨by omega, oq97⟩))⟩
theorem v_X10_wouldCut_13_15 {K : Nat → Nat} {F : Nat → Nat → Nat} (a : Nat) (G : XG) (p0 : Int32) (p1 : Int32) (x6 : Int32) (p2 : Int32)
    (ha : K a = 12)
    (sb : 0 ≤ ((G.1 (F a 2) 2).toInt) ∧ ((G.1 (F a 2) 2).toInt) ≤ 12)
    (z5 : ¬ (0 ≤ p0.toInt ∧ p0.toInt < 3 ∧ 0 ≤ p1.toInt ∧ p1.toInt < 30) → (cel (vw (G.2.1 (F (F a 3) 0))) (p0.toInt) (p1.toInt) 0) = -2000)
    (t6 : (x6.toInt = 1 ∧ (cel (vw (G.2.1 (F (F a 3) 0))) (p0.toInt) (p1.toInt) 0) ≠ -2000) ∨ (x6.toInt = 0 ∧ (cel (vw (G.2.1 (F (F a 3) 0))) (p0.toInt) (p1.toInt) 0) = -2000))
    (c9 : ¬ (x6.toInt ≠ 0)) :
    (cel (vw (G.2.1 (F (F a 3) 0))) p0.toInt p1.toInt 0 = -2000 ∧ (-1 : Int) = -1) ∨ (cel (vw (G.2.1 (F (F a 3) 0))) p0.toInt p1.toInt 0 ≠ -2000 ∧ ((p2.toInt = 0 ∧ ∃ b : Int → Int, RO (cfin (clsA G (G.2.2.1 (F (F a 2) 0))) (clsT G (G.2.2.1 (F (F a 2) 0))) (clsC G (G.2.2.1 (F (F a 2) 0))) ([(p0.toInt, p1.toInt, 0, 0)], rfil (vw (G.2.1 (F (F a 3) 0))) p0.toInt p1.toInt (-2000) 3)) b ∧ (-1 : Int) = toB (aI (G.2.1 (F (F a 3) 1))) 3 - toB b 3) ∨ (p2.toInt = 1 ∧ (-1 : Int) = bsI (nn1 (cfin (clsA G (G.2.2.1 (F (F a 2) 0))) (clsT G (G.2.2.1 (F (F a 2) 0))) (clsC G (G.2.2.1 (F (F a 2) 0))) ([(p0.toInt, p1.toInt, 0, 0)], rfil (vw (G.2.1 (F (F a 3) 0))) p0.toInt p1.toInt (-2000) 3)) (vw (G.2.1 (F (F a 3) 0)))) 270) ∨ (p2.toInt = 2 ∧ AnsR ((G.1 a 18).toInt) (-1 : Int) (gaL G (G.2.2.1 (F (F a 2) 1)) (vw (G.2.1 (F (F a 3) 0))) (cfin (clsA G (G.2.2.1 (F (F a 2) 0))) (clsT G (G.2.2.1 (F (F a 2) 0))) (clsC G (G.2.2.1 (F (F a 2) 0))) ([(p0.toInt, p1.toInt, 0, 0)], rfil (vw (G.2.1 (F (F a 3) 0))) p0.toInt p1.toInt (-2000) 3)) 0 (((G.1 (F a 2) 2).toInt)).toNat)) ∨ ((p2.toInt < 0 ∨ 2 < p2.toInt) ∧ (-1 : Int) = -1))) := by
  exact Or.inl ⟨by omega, rfl⟩
theorem z_X10_question_1 (a0 : Int) : (¬ a0 = 0 ∧ ¬ a0 = 1) ∨ (a0 = 0) ∨ (a0 = 1) := by omega
abbrev rm_X10_question : Room := { frames := 4, cells := 0, slots := 0, locals := 91 }
set_option maxHeartbeats 4000000 in
set_option maxRecDepth 100000 in
theorem c_X10_question (l : Launch) (E : XE) (K : Nat → Nat) (F : Nat → Nat → Nat) (G : XG) (h0 : Heap) (a : Nat) (p0 : Int32) (p1 : Int32) (p2 : Int32) (ha : K a = 12) (ron : RO (vw (G.2.1 (F (F a 3) 0))) (aI (G.2.1 (F (F a 3) 1)))) (bkn : BKr K G (G.2.2.1 (F (F a 2) 0))) : Met l yX10_question (xw yX10_question cX10_question 6 (some .int)) rm_X10_question (va_Pc [.ref a, .int p0, .int p1, .int p2] (XPh E K F G h0)) (XQ E (fun v (u : Unit) => ∃ r : Int32, v = .int r ∧ ((((p0.toInt < 0 ∨ 12 ≤ p0.toInt) ∨ G.2.2.1 (F (F a 2) 0) (p0.toInt).toNat = none) ∧ r.toInt = -2147483648) ∨ (∃ q : Nat, ((0 ≤ p0.toInt ∧ p0.toInt < 12) ∧ G.2.2.1 (F (F a 2) 0) (p0.toInt).toNat = some q) ∧ r.toInt = quS (vw (G.2.1 (F (F a 3) 0))) (G.1 q 0).toInt (G.1 q 2).toInt (G.1 q 3).toInt (G.1 q 4).toInt (G.1 q 5).toInt (G.1 q 6).toInt p1.toInt p2.toInt))) (fun _ H => H = h0)) 0 0 (xA E) := by
  refine x_enter (by decide) (Nat.le_of_ble_eq_true rfl) ?_
  intro p e s m args below meth c Q S hr hlk hnm hQ hP ls hl
  obtain ⟨⟨hz, hK, hT⟩, hh⟩ := hP
  obtain ⟨hx, hb, -, -, -⟩ := id S
  have hS : va_S (xA E) s.heap s.heap [] := va_S.rf
  have hl : lv_has ls 6 [(0, .ref a), (1, .int p0), (2, .int p1), (3, .int p2)] := hl
  obtain ⟨hk9999, hj9999⟩ := fkX10_2 hT ha
  obtain ⟨hk9999a, hj9999a⟩ := fkX0_0 hT hk9999
  obtain ⟨hk9999b, hj9999b⟩ := fkX10_3 hT ha
  obtain ⟨hk9999c, hj9999c⟩ := fkX6_0 hT hk9999b
  have hj9999d : F (F (F a 3) 0) 99 = 0 := by rw [hj9999c, hj9999b]
  obtain ⟨hk9999d, hj9999e⟩ := fkX6_1 hT hk9999b
  have hj9999f : F (F (F a 3) 1) 99 = 0 := by rw [hj9999e, hj9999b]
  refine lv_aload_n hx hb dX10_question_0 rfl (lv_at hl 0 rfl) ?_
  refine gX10_2 S hK hT ha kf_X10_30 dX10_question_1 (fun _ _ => ?_)
  refine lv_iload_n hx hb dX10_question_4 rfl (lv_at hl 1 rfl) ?_
  refine x_clp (x_runV (b := (F a 2)) (As := [.int p0]) (rest := []) S (c_X0_get l E K F G s.heap (F a 2) p0 hk9999) mv_X0_get km_X10_159 rfl rfl ⟨Nat.le_of_ble_eq_true rfl, Nat.le_of_ble_eq_true rfl⟩ (rc_2 hK hT hk9999) hK (fun _ => XPh.blind) (fun U hU hW => XPh.at hK hz hS hT hU hW) rfl hl.1 (Nat.le_of_ble_eq_true rfl) dX10_question_5 ⟨Nat.le_of_ble_eq_true rfl, Nat.le_of_ble_eq_true rfl⟩) hS ?_
  rintro _ _ locs (⟨rfl, hn5⟩ | ⟨q5, rfl, hk5, ht5, hs5⟩) hS
  · refine lv_astoreN (lv' := [(4, .null), (0, .ref a), (1, .int p0), (2, .int p1), (3, .int p2)]) hx hb dX10_question_8 hl (by decide) rfl (fun ls hl => ?_)
    refine lv_aloadN hx hb dX10_question_10 (lv_at hl 0 rfl) ?_
    refine lv_ifnullN (tgt := 24) hx hb dX10_question_12 (by decide) ?_
    refine lv_ldcw (v := (-2147483648)) hx hb S.2.2.2.1 (S.2.2.2.2 _ (List.mem_cons_of_mem _ kc_X10_274)) dX10_question_24 ?_
    exact x_ri hx hb hr hlk hQ (Nat.le_of_ble_eq_true rfl) (Nat.le_of_ble_eq_true rfl) hS dX10_question_27 () ⟨_, rfl, (by rw [((by decide) : Int32.toInt (-2147483648) = (-2147483648 : Int))] <;> exact (v_X10_question_27_1 (K := K) (F := F) a G p0 p1 p2 ha hn5))⟩ hh
  · have ht5 : 0 ≤ p0.toInt ∧ p0.toInt < 12 := ht5
    refine lv_astore (lv' := [(4, .ref q5), (0, .ref a), (1, .int p0), (2, .int p1), (3, .int p2)]) hx hb dX10_question_8 hl (by decide) rfl (fun ls hl => ?_)
    refine lv_aload hx hb dX10_question_10 (lv_at hl 0 rfl) ?_
    refine lv_ifnull hx hb dX10_question_12 ?_
    refine lv_aload hx hb dX10_question_15 (lv_at hl 0 rfl) ?_
    refine lv_iload_n hx hb dX10_question_17 rfl (lv_at hl 3 rfl) ?_
    refine x_clp (x_runV (b := q5) (As := [.int p1]) (rest := []) S (c_X7_isSubject l E K F G s.heap q5 p1 hk5) mv_X7_isSubject km_X10_325 rfl rfl ⟨Nat.le_of_ble_eq_true rfl, Nat.le_of_ble_eq_true rfl⟩ (rc_9 hK hT hk5) hK (fun _ => XPh.blind) (fun U hU hW => XPh.at hK hz hS hT hU hW) rfl hl.1 (Nat.le_of_ble_eq_true rfl) dX10_question_18 ⟨Nat.le_of_ble_eq_true rfl, Nat.le_of_ble_eq_true rfl⟩) hS ?_
    rintro _ _ locs ⟨x18, rfl, b18, t18⟩ hS
    have t18 : ((((((G.1 q5 0).toInt) = 2 ∨ ((G.1 q5 0).toInt) = 4 ∨ ((G.1 q5 0).toInt) = 5) ∧ 0 ≤ p1.toInt ∧ p1.toInt < 30) ∨ (¬ (((G.1 q5 0).toInt) = 2 ∨ ((G.1 q5 0).toInt) = 4 ∨ ((G.1 q5 0).toInt) = 5) ∧ -99 ≤ p1.toInt ∧ p1.toInt ≤ 99)) ∧ x18.toInt = 1) ∨ (¬ (((((G.1 q5 0).toInt) = 2 ∨ ((G.1 q5 0).toInt) = 4 ∨ ((G.1 q5 0).toInt) = 5) ∧ 0 ≤ p1.toInt ∧ p1.toInt < 30) ∨ (¬ (((G.1 q5 0).toInt) = 2 ∨ ((G.1 q5 0).toInt) = 4 ∨ ((G.1 q5 0).toInt) = 5) ∧ -99 ≤ p1.toInt ∧ p1.toInt ≤ 99)) ∧ x18.toInt = 0) := t18
    refine xi_zne (tgt := 28) hx hb (rfl : Int32.toInt x18 = x18.toInt) dX10_question_21 (by decide) (fun c21 => ?_) (fun c21 => ?_)
    · refine lv_aload hx hb dX10_question_28 (lv_at hl 0 rfl) ?_
      refine lv_aload_n hx hb dX10_question_30 rfl (lv_at hl 1 rfl) ?_
      refine gX10_3 S hK hT ha kf_X10_37 dX10_question_31 (fun _ _ => ?_)
      refine lv_iload_n hx hb dX10_question_34 rfl (lv_at hl 3 rfl) ?_
      refine x_clp (x_runV (b := q5) (As := [.ref (F a 3), .int p1]) (rest := []) S (c_X7_state l E K F G s.heap q5 (F a 3) p1 hk5 hk9999b (v_X10_question_35_2 (F := F) a G ron) (v_X10_question_35_3 (K := K) (F := F) G a p0 q5 bkn hs5 ht5)) mv_X7_state km_X10_328 rfl rfl ⟨Nat.le_of_ble_eq_true rfl, Nat.le_of_ble_eq_true rfl⟩ (rc_9 hK hT hk5) hK (fun _ => XPh.blind) (fun U hU hW => XPh.at hK hz hS hT hU hW) rfl hl.1 (Nat.le_of_ble_eq_true rfl) dX10_question_35 ⟨Nat.le_of_ble_eq_true rfl, Nat.le_of_ble_eq_true rfl⟩) hS ?_
      rintro _ _ locs ⟨x35, rfl, t35⟩ hS
      have t35 : x35.toInt = (stt (vw (G.2.1 (F (F a 3) 0))) ((G.1 q5 0).toInt) ((G.1 q5 2).toInt) ((G.1 q5 3).toInt) ((G.1 q5 4).toInt) (p1.toInt)) := t35
      refine lv_istore (lv' := [(5, .int x35), (4, .ref q5), (0, .ref a), (1, .int p0), (2, .int p1), (3, .int p2)]) hx hb dX10_question_38 hl (by decide) rfl (fun ls hl => ?_)
      refine lv_iload_n hx hb dX10_question_40 rfl (lv_at hl 5 rfl) ?_
      rcases ((z_X10_question_1 p2.toInt) : (¬ p2.toInt = 0 ∧ ¬ p2.toInt = 1) ∨ (p2.toInt = 0) ∨ (p2.toInt = 1)) with c41 | c41 | c41
      · refine lv_lookup (off := 51) (tgt := 92) hx hb dX10_question_41 (by decide) (by first | (simp only [Op.lookupswitch.offset_cons, Op.lookupswitch.offset_nil]; (repeat' split) <;> omega) | (simp [Op.lookupswitch.offset]; (repeat' split) <;> omega) | (simp [Op.lookupswitch.offset]; omega)) (by decide) ?_
        refine lv_ldcw (v := (-2147483648)) hx hb S.2.2.2.1 (S.2.2.2.2 _ (List.mem_cons_of_mem _ kc_X10_274)) dX10_question_92 ?_
        exact x_ri hx hb hr hlk hQ (Nat.le_of_ble_eq_true rfl) (Nat.le_of_ble_eq_true rfl) hS dX10_question_95 () ⟨_, rfl, (by rw [((by decide) : Int32.toInt (-2147483648) = (-2147483648 : Int))] <;> exact (v_X10_question_95_4 (F := F) a q5 G p0 p1 p2 hs5 ht5 c41))⟩ hh
      · refine lv_lookup (off := 27) (tgt := 68) hx hb dX10_question_41 (by decide) (by rw [c41]; rfl) (by decide) ?_
        refine lv_iload hx hb dX10_question_68 (lv_at hl 0 rfl) ?_
        exact x_ri hx hb hr hlk hQ (Nat.le_of_ble_eq_true rfl) (Nat.le_of_ble_eq_true rfl) hS dX10_question_70 () ⟨_, rfl, (by rw [(t35 : Int32.toInt x35 = (stt (vw (G.2.1 (F (F a 3) 0))) ((G.1 q5 0).toInt) ((G.1 q5 2).toInt) ((G.1 q5 3).toInt) ((G.1 q5 4).toInt) (p1.toInt)))] <;> exact (v_X10_question_70_5 (K := K) (F := F) a q5 G p0 p1 x18 p2 ha hs5 ht5 t18 c21 c41))⟩ hh
      · refine lv_lookup (off := 30) (tgt := 71) hx hb dX10_question_41 (by decide) (by rw [c41]; rfl) (by decide) ?_
        refine lv_aload hx hb dX10_question_71 (lv_at hl 1 rfl) ?_
        refine lv_aload_n hx hb dX10_question_73 rfl (lv_at hl 2 rfl) ?_
        refine gX10_3 S hK hT ha kf_X10_37 dX10_question_74 (fun _ _ => ?_)
        refine lv_iload_n hx hb dX10_question_77 rfl (lv_at hl 4 rfl) ?_
        refine lv_iload hx hb dX10_question_78 (lv_at hl 0 rfl) ?_
        refine x_clp (x_runV (b := q5) (As := [.ref (F a 3), .int p1, .int x35]) (rest := []) S (c_X7_fails l E K F G s.heap q5 (F a 3) p1 x35 hk5 hk9999b (v_X10_question_80_6 (F := F) a G ron) (v_X10_question_80_7 (K := K) (F := F) G a p0 q5 bkn hs5 ht5)) mv_X7_fails km_X10_332 rfl rfl ⟨Nat.le_of_ble_eq_true rfl, Nat.le_of_ble_eq_true rfl⟩ (rc_9 hK hT hk5) hK (fun _ => XPh.blind) (fun U hU hW => XPh.at hK hz hS hT hU hW) rfl hl.1 (Nat.le_of_ble_eq_true rfl) dX10_question_80 ⟨Nat.le_of_ble_eq_true rfl, Nat.le_of_ble_eq_true rfl⟩) hS ?_
        rintro _ _ locs ⟨x80, rfl, b80, t80⟩ hS
        have t80 : x80.toInt = (flq (vw (G.2.1 (F (F a 3) 0))) ((G.1 q5 0).toInt) ((G.1 q5 2).toInt) ((G.1 q5 3).toInt) ((G.1 q5 5).toInt) ((G.1 q5 6).toInt) (p1.toInt) (stt (vw (G.2.1 (F (F a 3) 0))) ((G.1 q5 0).toInt) ((G.1 q5 2).toInt) ((G.1 q5 3).toInt) ((G.1 q5 4).toInt) (p1.toInt))) := by rw [(t35 : Int32.toInt x35 = (stt (vw (G.2.1 (F (F a 3) 0))) ((G.1 q5 0).toInt) ((G.1 q5 2).toInt) ((G.1 q5 3).toInt) ((G.1 q5 4).toInt) (p1.toInt)))] at t80; exact t80
        refine xi_zeq (tgt := 90) hx hb (rfl : Int32.toInt x80 = x80.toInt) dX10_question_83 (by decide) (fun c83 => ?_) (fun c83 => ?_)
        · refine lv_iconst (v := 0) hx hb dX10_question_90 (by decide) ?_
          exact x_ri hx hb hr hlk hQ (Nat.le_of_ble_eq_true rfl) (Nat.le_of_ble_eq_true rfl) hS dX10_question_91 () ⟨_, rfl, (v_X10_question_91_8 (K := K) (F := F) a q5 G p0 p1 x18 p2 x80 ha hs5 ht5 t18 c21 c41 t80 (xzi b80) c83)⟩ hh
        · refine lv_iconst (v := 1) hx hb dX10_question_86 (by decide) ?_
          refine lv_goto (tgt := 91) hx hb dX10_question_87 (by decide) ?_
          exact x_ri hx hb hr hlk hQ (Nat.le_of_ble_eq_true rfl) (Nat.le_of_ble_eq_true rfl) hS dX10_question_91 () ⟨_, rfl, (v_X10_question_91_9 (K := K) (F := F) a q5 G p0 p1 x18 p2 x80 ha hs5 ht5 t18 c21 c41 t80 (xzi b80) c83)⟩ hh
    · refine lv_ldcw (v := (-2147483648)) hx hb S.2.2.2.1 (S.2.2.2.2 _ (List.mem_cons_of_mem _ kc_X10_274)) dX10_question_24 ?_
      exact x_ri hx hb hr hlk hQ (Nat.le_of_ble_eq_true rfl) (Nat.le_of_ble_eq_true rfl) hS dX10_question_27 () ⟨_, rfl, (by rw [((by decide) : Int32.toInt (-2147483648) = (-2147483648 : Int))] <;> exact (v_X10_question_27_10 (K := K) (F := F) a q5 G p0 p1 x18 p2 ha hs5 ht5 t18 c21))⟩ hh

theorem z_X10_depth_1 (a0 : Int) (h0 : 0 ≤ a0 ∧ a0 ≤ 31) : ¬ (100 - a0 < ((0 : Nat) : Int)) := by omega
theorem z_X10_depth_2 (a0 : Int) (a1 : Int) (h0 : 0 ≤ a0 ∧ a0 ≤ 31) (h1 : a1 = (a0 + 1) ∨ (a0 + 1) < -2147483648 ∨ 2147483648 ≤ (a0 + 1)) : a1 = (a0 + 1) := by omega
theorem z_X10_depth_3 (a0 : Int) (h0 : 0 ≤ a0 ∧ a0 ≤ 31) (h1 : ¬ ((30 : Int) < a0)) : 0 ≤ (a0 + 1) ∧ (a0 + 1) ≤ 31 := by omega
theorem z_X10_depth_4 (a0 : Int) (a1 : Nat) (h0 : 100 - a0 < ((a1 + 1 : Nat) : Int)) : 100 - (a0 + 1) < ((a1 : Nat) : Int) := by omega
abbrev rm_X10_depth : Room := { frames := 2, cells := 0, slots := 0, locals := 44 }
set_option maxHeartbeats 4000000 in
set_option maxRecDepth 100000 in
theorem c_X10_depth (l : Launch) (E : XE) (K : Nat → Nat) (F : Nat → Nat → Nat) (G : XG) (h0 : Heap) (a : Nat) (p0 : Int32) (p1 : Int32) (ha : K a = 12) (ron : RO (vw (G.2.1 (F (F a 3) 0))) (aI (G.2.1 (F (F a 3) 1)))) : Met l yX10_depth (xw yX10_depth cX10_depth 7 (some .int)) rm_X10_depth (va_Pc [.ref a, .int p0, .int p1] (XPh E K F G h0)) (XQ E (fun v (u : Unit) => ∃ r : Int32, v = .int r ∧ ((((p0.toInt < 0 ∨ 12 ≤ p0.toInt) ∨ G.2.2.1 (F (F a 2) 0) (p0.toInt).toNat = none) ∧ r.toInt = -1) ∨ (∃ q : Nat, ((0 ≤ p0.toInt ∧ p0.toInt < 12) ∧ G.2.2.1 (F (F a 2) 0) (p0.toInt).toNat = some q) ∧ r.toInt = dpS (vw (G.2.1 (F (F a 3) 0))) (G.1 q 0).toInt (G.1 q 2).toInt (G.1 q 3).toInt p1.toInt))) (fun _ H => H = h0)) 0 0 (xA E) := by
  refine x_enter (by decide) (Nat.le_of_ble_eq_true rfl) ?_
  intro p e s m args below meth c Q S hr hlk hnm hQ hP ls hl
  obtain ⟨⟨hz, hK, hT⟩, hh⟩ := hP
  obtain ⟨hx, hb, -, -, -⟩ := id S
  have hS : va_S (xA E) s.heap s.heap [] := va_S.rf
  have hl : lv_has ls 7 [(0, .ref a), (1, .int p0), (2, .int p1)] := hl
  obtain ⟨hk9999, hj9999⟩ := fkX10_2 hT ha
  obtain ⟨hk9999a, hj9999a⟩ := fkX0_0 hT hk9999
  obtain ⟨hk9999b, hj9999b⟩ := fkX10_3 hT ha
  obtain ⟨hk9999c, hj9999c⟩ := fkX6_0 hT hk9999b
  have hj9999d : F (F (F a 3) 0) 99 = 0 := by rw [hj9999c, hj9999b]
  obtain ⟨hk9999d, hj9999e⟩ := fkX6_1 hT hk9999b
  have hj9999f : F (F (F a 3) 1) 99 = 0 := by rw [hj9999e, hj9999b]
  refine lv_aload_n hx hb dX10_depth_0 rfl (lv_at hl 0 rfl) ?_
  refine gX10_2 S hK hT ha kf_X10_30 dX10_depth_1 (fun _ _ => ?_)
  refine lv_iload_n hx hb dX10_depth_4 rfl (lv_at hl 1 rfl) ?_
  refine x_clp (x_runV (b := (F a 2)) (As := [.int p0]) (rest := []) S (c_X0_get l E K F G s.heap (F a 2) p0 hk9999) mv_X0_get km_X10_159 rfl rfl ⟨Nat.le_of_ble_eq_true rfl, Nat.le_of_ble_eq_true rfl⟩ (rc_2 hK hT hk9999) hK (fun _ => XPh.blind) (fun U hU hW => XPh.at hK hz hS hT hU hW) rfl hl.1 (Nat.le_of_ble_eq_true rfl) dX10_depth_5 ⟨Nat.le_of_ble_eq_true rfl, Nat.le_of_ble_eq_true rfl⟩) hS ?_
  rintro _ _ locs (⟨rfl, hn5⟩ | ⟨q5, rfl, hk5, ht5, hs5⟩) hS
  · refine lv_astore_nN (lv' := [(3, .null), (0, .ref a), (1, .int p0), (2, .int p1)]) hx hb dX10_depth_8 rfl hl (by decide) rfl (fun ls hl => ?_)
    refine lv_aload_nN hx hb dX10_depth_9 rfl (lv_at hl 0 rfl) ?_
    refine lv_ifnullN (tgt := 36) hx hb dX10_depth_10 (by decide) ?_
    refine lv_iconst (v := (-1)) hx hb dX10_depth_36 (by decide) ?_
    exact x_ri hx hb hr hlk hQ (Nat.le_of_ble_eq_true rfl) (Nat.le_of_ble_eq_true rfl) hS dX10_depth_37 () ⟨_, rfl, (by rw [((by decide) : Int32.toInt (-1) = (-1 : Int))] <;> exact (v_X10_depth_37_1 (K := K) (F := F) a G p0 p1 ha hn5))⟩ hh
  · have ht5 : 0 ≤ p0.toInt ∧ p0.toInt < 12 := ht5
    refine lv_astore_n (lv' := [(3, .ref q5), (0, .ref a), (1, .int p0), (2, .int p1)]) hx hb dX10_depth_8 rfl hl (by decide) rfl (fun ls hl => ?_)
    refine lv_aload_n hx hb dX10_depth_9 rfl (lv_at hl 0 rfl) ?_
    refine lv_ifnull hx hb dX10_depth_10 ?_
    refine lv_aload_n hx hb dX10_depth_13 rfl (lv_at hl 0 rfl) ?_
    refine gX7_0 S hK hT hk5 kf_X10_140 dX10_depth_14 (v := (G.1 q5 0)) rfl (?_)
    refine lv_iconst (v := 5) hx hb dX10_depth_17 (by decide) ?_
    refine xi_cne (tgt := 36) hx hb (rfl : Int32.toInt (G.1 q5 0) = ((G.1 q5 0).toInt)) ((by decide) : Int32.toInt 5 = (5 : Int)) dX10_depth_18 (by decide) (fun c18 => ?_) (fun c18 => ?_)
    · refine lv_iconst (v := (-1)) hx hb dX10_depth_36 (by decide) ?_
      exact x_ri hx hb hr hlk hQ (Nat.le_of_ble_eq_true rfl) (Nat.le_of_ble_eq_true rfl) hS dX10_depth_37 () ⟨_, rfl, (by rw [((by decide) : Int32.toInt (-1) = (-1 : Int))] <;> exact (v_X10_depth_37_2 (K := K) (F := F) a q5 G p0 p1 ha hs5 ht5 c18))⟩ hh
    · refine lv_aload_n hx hb dX10_depth_21 rfl (lv_at hl 1 rfl) ?_
      refine gX10_3 S hK hT ha kf_X10_37 dX10_depth_22 (fun _ _ => ?_)
      refine lv_aload_n hx hb dX10_depth_25 rfl (lv_at hl 0 rfl) ?_
      refine gX7_2 S hK hT hk5 kf_X10_275 dX10_depth_26 (v := (G.1 q5 2)) rfl (?_)
      refine lv_iload_n hx hb dX10_depth_29 rfl (lv_at hl 3 rfl) ?_
      refine x_clp (x_runV (b := (F a 3)) (As := [.int (G.1 q5 2), .int p1]) (rest := []) S (c_X6_has l E K F G s.heap (F a 3) (G.1 q5 2) p1 hk9999b (v_X10_depth_30_3 (F := F) a G ron)) mv_X6_has km_X10_191 rfl rfl ⟨Nat.le_of_ble_eq_true rfl, Nat.le_of_ble_eq_true rfl⟩ (rc_8 hK hT hk9999b) hK (fun _ => XPh.blind) (fun U hU hW => XPh.at hK hz hS hT hU hW) rfl hl.1 (Nat.le_of_ble_eq_true rfl) dX10_depth_30 ⟨Nat.le_of_ble_eq_true rfl, Nat.le_of_ble_eq_true rfl⟩) hS ?_
      rintro _ _ locs ⟨x30, rfl, b30, t30⟩ hS
      have t30 : (x30.toInt = 1 ∧ (cel (vw (G.2.1 (F (F a 3) 0))) ((G.1 q5 2).toInt) (p1.toInt) 0) ≠ -2000) ∨ (x30.toInt = 0 ∧ (cel (vw (G.2.1 (F (F a 3) 0))) ((G.1 q5 2).toInt) (p1.toInt) 0) = -2000) := t30
      refine xi_zne (tgt := 38) hx hb (rfl : Int32.toInt x30 = x30.toInt) dX10_depth_33 (by decide) (fun c33 => ?_) (fun c33 => ?_)
      · refine lv_iload_n hx hb dX10_depth_38 rfl (lv_at hl 3 rfl) ?_
        refine lv_istore (lv' := [(4, .int p1), (3, .ref q5), (0, .ref a), (1, .int p0), (2, .int p1)]) hx hb dX10_depth_39 hl (by decide) rfl (fun ls hl => ?_)
        refine lv_iconst (v := 0) hx hb dX10_depth_41 (by decide) ?_
        refine lv_istore (lv' := [(5, .int 0), (4, .int p1), (3, .ref q5), (0, .ref a), (1, .int p0), (2, .int p1)]) hx hb dX10_depth_42 hl (by decide) rfl (fun ls hl => ?_)
        have L44 : ∀ (N44 : Nat) (l4_44 : Int32) (l5_44 : Int32) (locs : List Loc) (ls : Array Slot), dpF (vw (G.2.1 (F (F a 3) 0))) ((G.1 q5 2).toInt) ((G.1 q5 3).toInt) 31 0 (p1.toInt) = dpF (vw (G.2.1 (F (F a 3) 0))) ((G.1 q5 2).toInt) ((G.1 q5 3).toInt) (31 - l5_44.toInt).toNat (l5_44.toInt) (l4_44.toInt) → 0 ≤ l5_44.toInt ∧ l5_44.toInt ≤ 31 → 100 - l5_44.toInt < ((N44 : Nat) : Int) → TW E K F G s.heap → va_S (xA E) s.heap s.heap locs → lv_has ls 7 [(0, .ref a), (3, .ref q5), (4, .int l4_44), (5, .int l5_44)] → W p l e rm_X10_depth s m args below meth c s.heap locs 0 0 Q (F0 m 44 ls []) := by
          intro N44
          induction N44 with
          | zero =>
            intro l4_44 l5_44 locs ls dp I44_0 hm44
            exact absurd hm44 (z_X10_depth_1 l5_44.toInt I44_0)
          | succ N44 ih44 =>
            intro l4_44 l5_44 locs ls dp I44_0 hm44 hT hS hl
            refine lv_iload hx hb dX10_depth_44 (lv_at hl 3 rfl) ?_
            refine lv_bipush (v := 30) hx hb dX10_depth_46 (by decide) ?_
            refine xi_cgt (tgt := 99) hx hb (rfl : Int32.toInt l5_44 = l5_44.toInt) ((by decide) : Int32.toInt 30 = (30 : Int)) dX10_depth_48 (by decide) (fun c48 => ?_) (fun c48 => ?_)
            · refine lv_bipush (v := (-2)) hx hb dX10_depth_99 (by decide) ?_
              exact x_ri hx hb hr hlk hQ (Nat.le_of_ble_eq_true rfl) (Nat.le_of_ble_eq_true rfl) hS dX10_depth_101 () ⟨_, rfl, (by rw [((by decide) : Int32.toInt (-2) = (-2 : Int))] <;> exact (v_X10_depth_101_4 (K := K) (F := F) a q5 G p0 p1 l5_44 l4_44 x30 N44 ha hs5 dp ht5 c18 t30 c33 I44_0 hm44 c48))⟩ hh
            · refine lv_aload_n hx hb dX10_depth_51 rfl (lv_at hl 0 rfl) ?_
              refine gX10_3 S hK hT ha kf_X10_37 dX10_depth_52 (fun _ _ => ?_)
              refine lv_aload_n hx hb dX10_depth_55 rfl (lv_at hl 1 rfl) ?_
              refine gX7_2 S hK hT hk5 kf_X10_275 dX10_depth_56 (v := (G.1 q5 2)) rfl (?_)
              refine lv_iload hx hb dX10_depth_59 (lv_at hl 2 rfl) ?_
              refine lv_aload_n hx hb dX10_depth_61 rfl (lv_at hl 1 rfl) ?_
              refine gX7_3 S hK hT hk5 kf_X10_278 dX10_depth_62 (v := (G.1 q5 3)) rfl (?_)
              refine x_clp (x_runV (b := (F a 3)) (As := [.int (G.1 q5 2), .int l4_44, .int (G.1 q5 3)]) (rest := []) S (c_X6_cell l E K F G s.heap (F a 3) (G.1 q5 2) l4_44 (G.1 q5 3) hk9999b) mv_X6_cell km_X10_265 rfl rfl ⟨Nat.le_of_ble_eq_true rfl, Nat.le_of_ble_eq_true rfl⟩ (rc_8 hK hT hk9999b) hK (fun _ => XPh.blind) (fun U hU hW => XPh.at hK hz hS hT hU hW) rfl hl.1 (Nat.le_of_ble_eq_true rfl) dX10_depth_65 ⟨Nat.le_of_ble_eq_true rfl, Nat.le_of_ble_eq_true rfl⟩) hS ?_
              rintro _ _ locs ⟨x65, rfl, t65⟩ hS
              have t65 : x65.toInt = (cel (vw (G.2.1 (F (F a 3) 0))) ((G.1 q5 2).toInt) (l4_44.toInt) ((G.1 q5 3).toInt)) := t65
              refine lv_istore (lv' := [(6, .int x65), (0, .ref a), (3, .ref q5), (4, .int l4_44), (5, .int l5_44)]) hx hb dX10_depth_68 hl (by decide) rfl (fun ls hl => ?_)
              refine lv_aload_n hx hb dX10_depth_70 rfl (lv_at hl 1 rfl) ?_
              refine gX10_3 S hK hT ha kf_X10_37 dX10_depth_71 (fun _ _ => ?_)
              refine lv_aload_n hx hb dX10_depth_74 rfl (lv_at hl 2 rfl) ?_
              refine gX7_2 S hK hT hk5 kf_X10_275 dX10_depth_75 (v := (G.1 q5 2)) rfl (?_)
              refine lv_iload hx hb dX10_depth_78 (lv_at hl 0 rfl) ?_
              refine x_clp (x_runV (b := (F a 3)) (As := [.int (G.1 q5 2), .int x65]) (rest := []) S (c_X6_has l E K F G s.heap (F a 3) (G.1 q5 2) x65 hk9999b (v_X10_depth_80_5 (F := F) a G ron)) mv_X6_has km_X10_191 rfl rfl ⟨Nat.le_of_ble_eq_true rfl, Nat.le_of_ble_eq_true rfl⟩ (rc_8 hK hT hk9999b) hK (fun _ => XPh.blind) (fun U hU hW => XPh.at hK hz hS hT hU hW) rfl hl.1 (Nat.le_of_ble_eq_true rfl) dX10_depth_80 ⟨Nat.le_of_ble_eq_true rfl, Nat.le_of_ble_eq_true rfl⟩) hS ?_
              rintro _ _ locs ⟨x80, rfl, b80, t80⟩ hS
              have t80 : (x80.toInt = 1 ∧ (cel (vw (G.2.1 (F (F a 3) 0))) ((G.1 q5 2).toInt) (cel (vw (G.2.1 (F (F a 3) 0))) ((G.1 q5 2).toInt) (l4_44.toInt) ((G.1 q5 3).toInt)) 0) ≠ -2000) ∨ (x80.toInt = 0 ∧ (cel (vw (G.2.1 (F (F a 3) 0))) ((G.1 q5 2).toInt) (cel (vw (G.2.1 (F (F a 3) 0))) ((G.1 q5 2).toInt) (l4_44.toInt) ((G.1 q5 3).toInt)) 0) = -2000) := by rw [(t65 : Int32.toInt x65 = (cel (vw (G.2.1 (F (F a 3) 0))) ((G.1 q5 2).toInt) (l4_44.toInt) ((G.1 q5 3).toInt)))] at t80; exact t80
              refine xi_zne (tgt := 89) hx hb (rfl : Int32.toInt x80 = x80.toInt) dX10_depth_83 (by decide) (fun c83 => ?_) (fun c83 => ?_)
              · refine lv_iload hx hb dX10_depth_89 (lv_at hl 0 rfl) ?_
                refine lv_istore (lv' := [(4, .int x65), (6, .int x65), (0, .ref a), (3, .ref q5), (5, .int l5_44)]) hx hb dX10_depth_91 hl (by decide) rfl (fun ls hl => ?_)
                refine xi_iinc (n := 1) (lv' := fun z9 => [(5, .int z9), (4, .int x65), (6, .int x65), (0, .ref a), (3, .ref q5)]) (k := 4) hx hb (rfl : Int32.toInt l5_44 = l5_44.toInt) (by decide) dX10_depth_93 hl rfl (by decide) (fun _ => rfl) (fun x93 ls t93 hl => ?_)
                have e93 : x93.toInt = (l5_44.toInt + 1) := (z_X10_depth_2 l5_44.toInt x93.toInt I44_0 t93)
                have hl : lv_has ls 7 [(5, .int x93), (4, .int x65), (6, .int x65), (0, .ref a), (3, .ref q5)] := hl
                refine lv_goto (tgt := 44) hx hb dX10_depth_96 (by decide) ?_
                exact ih44 x65 x93 _ _ (by rw [(e93 : Int32.toInt x93 = (l5_44.toInt + 1)), (t65 : Int32.toInt x65 = (cel (vw (G.2.1 (F (F a 3) 0))) ((G.1 q5 2).toInt) (l4_44.toInt) ((G.1 q5 3).toInt)))] <;> exact (v_X10_depth_96_6 (K := K) (F := F) a q5 G p0 p1 l5_44 l4_44 x30 N44 x80 ha hs5 dp ht5 c18 t30 c33 I44_0 hm44 c48 t80 c83)) (by rw [(e93 : Int32.toInt x93 = (l5_44.toInt + 1))] <;> exact (z_X10_depth_3 l5_44.toInt I44_0 c48)) (by rw [(e93 : Int32.toInt x93 = (l5_44.toInt + 1))] <;> exact (z_X10_depth_4 l5_44.toInt N44 hm44)) hT hS (lv_sub hl [3, 4, 1, 0] rfl)
              · refine lv_iload hx hb dX10_depth_86 (lv_at hl 4 rfl) ?_
                exact x_ri hx hb hr hlk hQ (Nat.le_of_ble_eq_true rfl) (Nat.le_of_ble_eq_true rfl) hS dX10_depth_88 () ⟨_, rfl, (v_X10_depth_88_7 (K := K) (F := F) a q5 G p0 p1 l5_44 l4_44 x30 N44 x80 ha hs5 dp ht5 c18 t30 c33 I44_0 hm44 c48 t80 c83)⟩ hh
        exact L44 4294967297 p1 0 _ _ (v_X10_depth_42_8 (F := F) a q5 G p1) (by decide) (by decide) hT hS (lv_sub hl [3, 2, 1, 0] rfl)
      · refine lv_iconst (v := (-1)) hx hb dX10_depth_36 (by decide) ?_
        exact x_ri hx hb hr hlk hQ (Nat.le_of_ble_eq_true rfl) (Nat.le_of_ble_eq_true rfl) hS dX10_depth_37 () ⟨_, rfl, (by rw [((by decide) : Int32.toInt (-1) = (-1 : Int))] <;> exact (v_X10_depth_37_9 (K := K) (F := F) a q5 G p0 x30 p1 ha hs5 ht5 c18 t30 c33))⟩ hh

theorem z_X10_changedSince_1 (a0 : Int) (a1 : Int) (h0 : 0 ≤ a0 ∧ a0 ≤ a1) (h1 : 0 ≤ a1 ∧ a1 ≤ 1080) : ¬ (5000 - a0 < ((0 : Nat) : Int)) := by omega
theorem z_X10_changedSince_2 (a0 : Int) (a1 : Int) (a2 : Int) (h0 : 0 ≤ a2 ∧ a2 ≤ 1080) (h1 : 0 ≤ a0 ∧ a0 ≤ a2) (h2 : a1 = (a0 + 1) ∨ (a0 + 1) < -2147483648 ∨ 2147483648 ≤ (a0 + 1)) : a1 = (a0 + 1) := by omega
theorem z_X10_changedSince_3 (a0 : Int) (a1 : Int) (h0 : 0 ≤ a0 ∧ a0 ≤ a1) (h1 : ¬ (a1 ≤ a0)) : 0 ≤ (a0 + 1) ∧ (a0 + 1) ≤ a1 := by omega
theorem z_X10_changedSince_4 (a0 : Int) (a1 : Int) (h0 : 0 ≤ a0 ∧ a0 ≤ a1) : 0 ≤ a0 ∧ a0 ≤ (a1 + 1) := by omega
theorem z_X10_changedSince_5 (a0 : Int) (a1 : Nat) (h0 : 5000 - a0 < ((a1 + 1 : Nat) : Int)) : 5000 - (a0 + 1) < ((a1 : Nat) : Int) := by omega
theorem z_X10_changedSince_10 (a0 : Int) (a1 : Int) (a2 : Int) (a3 : Int) (h0 : 0 ≤ a3 ∧ a3 ≤ 1080) (h1 : 0 ≤ a0 ∧ a0 ≤ a1) (h2 : ¬ (a3 ≤ a1)) (h3 : a2 = (a0 + 1) ∨ (a0 + 1) < -2147483648 ∨ 2147483648 ≤ (a0 + 1)) : a2 = (a0 + 1) := by omega
theorem z_X10_changedSince_13 (a0 : Int) (a1 : Int) (h0 : 0 ≤ a0 ∧ a0 ≤ a1) : 0 ≤ (a0 + 1) ∧ (a0 + 1) ≤ (a1 + 1) := by omega
theorem z_X10_changedSince_15 (a0 : Int) (h0 : 0 ≤ a0 ∧ a0 ≤ 1080) : 0 ≤ (0 : Int) ∧ (0 : Int) ≤ a0 := by omega
abbrev rm_X10_changedSince : Room := { frames := 3, cells := 0, slots := 0, locals := 72 }
set_option maxHeartbeats 4000000 in
set_option maxRecDepth 100000 in
theorem c_X10_changedSince (l : Launch) (E : XE) (K : Nat → Nat) (F : Nat → Nat → Nat) (G : XG) (h0 : Heap) (a : Nat) (p0 : Nat) (ha : K a = 12) (hp0 : K p0 = 8) (w8 : 0 ≤ ((G.1 (F a 8) 6).toInt) ∧ ((G.1 (F a 8) 6).toInt) ≤ 1080) (rox : RO (vw (G.2.1 (F p0 0))) (aI (G.2.1 (F p0 1)))) (bkn : BKr K G (G.2.2.1 (F (F a 2) 0))) : Met l yX10_changedSince (xw yX10_changedSince cX10_changedSince 5 (some .int)) rm_X10_changedSince (va_Pc [.ref a, .ref p0] (XPh E K F G h0)) (XQ E (fun v (u : Unit) => ∃ r : Int32, v = .int r ∧ (r.toInt = smQ (chQ G (G.2.2.1 (F (F a 2) 0)) (vw (G.2.1 (F p0 0)))) (qL G F (F a 8)))) (fun _ H => H = h0)) 0 0 (xA E) := by
  refine x_enter (by decide) (Nat.le_of_ble_eq_true rfl) ?_
  intro p e s m args below meth c Q S hr hlk hnm hQ hP ls hl
  obtain ⟨⟨hz, hK, hT⟩, hh⟩ := hP
  obtain ⟨hx, hb, -, -, -⟩ := id S
  have hS : va_S (xA E) s.heap s.heap [] := va_S.rf
  have hl : lv_has ls 5 [(0, .ref a), (1, .ref p0)] := hl
  obtain ⟨hk9999, hj9999⟩ := fkX10_2 hT ha
  obtain ⟨hk9999a, hj9999a⟩ := fkX0_0 hT hk9999
  obtain ⟨hk9999b, hj9999b⟩ := fkX10_8 hT ha
  obtain ⟨hk9999c, hj9999c⟩ := fkX6_0 hT hp0
  obtain ⟨hk9999d, hj9999d⟩ := fkX6_1 hT hp0
  refine lv_iconst (v := 0) hx hb dX10_changedSince_0 (by decide) ?_
  refine lv_istore_n (lv' := [(2, .int 0), (0, .ref a), (1, .ref p0)]) hx hb dX10_changedSince_1 rfl hl (by decide) rfl (fun ls hl => ?_)
  refine lv_iconst (v := 0) hx hb dX10_changedSince_2 (by decide) ?_
  refine lv_istore_n (lv' := [(3, .int 0), (2, .int 0), (0, .ref a), (1, .ref p0)]) hx hb dX10_changedSince_3 rfl hl (by decide) rfl (fun ls hl => ?_)
  have L4 : ∀ (N4 : Nat) (l2_4 : Int32) (l3_4 : Int32) (locs : List Loc) (ls : Array Slot), l2_4.toInt = smS (fun j => chQ G (G.2.2.1 (F (F a 2) 0)) (vw (G.2.1 (F p0 0))) (qtI G F (F a 8) j)) 0 l3_4.toInt → 0 ≤ l3_4.toInt ∧ l3_4.toInt ≤ ((G.1 (F a 8) 6).toInt) → 0 ≤ l2_4.toInt ∧ l2_4.toInt ≤ l3_4.toInt → 5000 - l3_4.toInt < ((N4 : Nat) : Int) → TW E K F G s.heap → va_S (xA E) s.heap s.heap locs → lv_has ls 5 [(0, .ref a), (1, .ref p0), (2, .int l2_4), (3, .int l3_4)] → W p l e rm_X10_changedSince s m args below meth c s.heap locs 0 0 Q (F0 m 4 ls []) := by
    intro N4
    induction N4 with
    | zero =>
      intro l2_4 l3_4 locs ls pc I4_0 I4_1 hm4
      exact absurd hm4 (z_X10_changedSince_1 l3_4.toInt ((G.1 (F a 8) 6).toInt) I4_0 w8)
    | succ N4 ih4 =>
      intro l2_4 l3_4 locs ls pc I4_0 I4_1 hm4 hT hS hl
      refine lv_iload_n hx hb dX10_changedSince_4 rfl (lv_at hl 3 rfl) ?_
      refine lv_aload_n hx hb dX10_changedSince_5 rfl (lv_at hl 0 rfl) ?_
      refine gX10_8 S hK hT ha kf_X10_57 dX10_changedSince_6 (fun _ _ => ?_)
      refine x_clp (x_runV (b := (F a 8)) (As := []) (rest := [.int l3_4]) S (c_X4_size l E K F G s.heap (F a 8) hk9999b) mv_X4_size km_X10_232 rfl rfl ⟨Nat.le_of_ble_eq_true rfl, Nat.le_of_ble_eq_true rfl⟩ (rc_6 hK hT hk9999b) hK (fun _ => XPh.blind) (fun U hU hW => XPh.at hK hz hS hT hU hW) rfl hl.1 (Nat.le_of_ble_eq_true rfl) dX10_changedSince_9 ⟨Nat.le_of_ble_eq_true rfl, Nat.le_of_ble_eq_true rfl⟩) hS ?_
      rintro _ _ locs ⟨x9, rfl, t9⟩ hS
      have t9 : x9.toInt = ((G.1 (F a 8) 6).toInt) := t9
      refine xi_cge (tgt := 71) hx hb (rfl : Int32.toInt l3_4 = l3_4.toInt) (t9 : Int32.toInt x9 = ((G.1 (F a 8) 6).toInt)) dX10_changedSince_12 (by decide) (fun c12 => ?_) (fun c12 => ?_)
      · refine lv_iload_n hx hb dX10_changedSince_71 rfl (lv_at hl 2 rfl) ?_
        exact x_ri hx hb hr hlk hQ (Nat.le_of_ble_eq_true rfl) (Nat.le_of_ble_eq_true rfl) hS dX10_changedSince_72 () ⟨_, rfl, (v_X10_changedSince_72_1 (K := K) (F := F) a p0 G l2_4 l3_4 N4 ha hp0 pc w8 I4_0 I4_1 hm4 c12)⟩ hh
      · refine lv_aload_n hx hb dX10_changedSince_15 rfl (lv_at hl 0 rfl) ?_
        refine gX10_2 S hK hT ha kf_X10_30 dX10_changedSince_16 (fun _ _ => ?_)
        refine lv_aload_n hx hb dX10_changedSince_19 rfl (lv_at hl 0 rfl) ?_
        refine gX10_8 S hK hT ha kf_X10_57 dX10_changedSince_20 (fun _ _ => ?_)
        refine lv_iload_n hx hb dX10_changedSince_23 rfl (lv_at hl 3 rfl) ?_
        refine x_clp (x_runV (b := (F a 8)) (As := [.int l3_4]) (rest := [.ref (F a 2)]) S (c_X4_number l E K F G s.heap (F a 8) l3_4 hk9999b) mv_X4_number km_X10_301 rfl rfl ⟨Nat.le_of_ble_eq_true rfl, Nat.le_of_ble_eq_true rfl⟩ (rc_6 hK hT hk9999b) hK (fun _ => XPh.blind) (fun U hU hW => XPh.at hK hz hS hT hU hW) rfl hl.1 (Nat.le_of_ble_eq_true rfl) dX10_changedSince_24 ⟨Nat.le_of_ble_eq_true rfl, Nat.le_of_ble_eq_true rfl⟩) hS ?_
        rintro _ _ locs ⟨x24, rfl, t24⟩ hS
        obtain ⟨hk24, hj24⟩ := fkX4_0 hT hk9999b
        have hj24a : F (F (F a 8) 0) 99 = 10 * 0 + 0 := by rw [hj24, hj9999b]
        have t24 : ((0 ≤ l3_4.toInt ∧ l3_4.toInt < ((G.1 (F a 8) 6).toInt) ∧ l3_4.toInt < 1080) ∧ x24.toInt = (aI (G.2.1 (F (F a 8) 0)) (l3_4.toInt))) ∨ (¬ (0 ≤ l3_4.toInt ∧ l3_4.toInt < ((G.1 (F a 8) 6).toInt) ∧ l3_4.toInt < 1080) ∧ x24.toInt = -1) := t24
        refine x_clp (x_runV (b := (F a 2)) (As := [.int x24]) (rest := []) S (c_X0_get l E K F G s.heap (F a 2) x24 hk9999) mv_X0_get km_X10_159 rfl rfl ⟨Nat.le_of_ble_eq_true rfl, Nat.le_of_ble_eq_true rfl⟩ (rc_2 hK hT hk9999) hK (fun _ => XPh.blind) (fun U hU hW => XPh.at hK hz hS hT hU hW) rfl hl.1 (Nat.le_of_ble_eq_true rfl) dX10_changedSince_27 ⟨Nat.le_of_ble_eq_true rfl, Nat.le_of_ble_eq_true rfl⟩) hS ?_
        rintro _ _ locs (⟨rfl, hn27⟩ | ⟨q27, rfl, hk27, ht27, hs27⟩) hS
        · refine lv_astoreN (lv' := [(4, .null), (0, .ref a), (1, .ref p0), (2, .int l2_4), (3, .int l3_4)]) hx hb dX10_changedSince_30 hl (by decide) rfl (fun ls hl => ?_)
          refine lv_aloadN hx hb dX10_changedSince_32 (lv_at hl 0 rfl) ?_
          refine lv_ifnullN (tgt := 65) hx hb dX10_changedSince_34 (by decide) ?_
          refine xi_iinc (n := 1) (lv' := fun z9 => [(3, .int z9), (4, .null), (0, .ref a), (1, .ref p0), (2, .int l2_4)]) (k := 4) hx hb (rfl : Int32.toInt l3_4 = l3_4.toInt) (by decide) dX10_changedSince_65 hl rfl (by decide) (fun _ => rfl) (fun x65 ls t65 hl => ?_)
          have e65 : x65.toInt = (l3_4.toInt + 1) := (z_X10_changedSince_2 l3_4.toInt x65.toInt ((G.1 (F a 8) 6).toInt) w8 I4_0 t65)
          have hl : lv_has ls 5 [(3, .int x65), (4, .null), (0, .ref a), (1, .ref p0), (2, .int l2_4)] := hl
          refine lv_goto (tgt := 4) hx hb dX10_changedSince_68 (by decide) ?_
          exact ih4 l2_4 x65 _ _ (by rw [(e65 : Int32.toInt x65 = (l3_4.toInt + 1))] <;> exact (v_X10_changedSince_68_2 (K := K) (F := F) a p0 G l2_4 l3_4 x24 N4 ha hp0 pc hn27 w8 I4_0 I4_1 hm4 c12 t24)) (by rw [(e65 : Int32.toInt x65 = (l3_4.toInt + 1))] <;> exact (z_X10_changedSince_3 l3_4.toInt ((G.1 (F a 8) 6).toInt) I4_0 c12)) (by rw [(e65 : Int32.toInt x65 = (l3_4.toInt + 1))] <;> exact (z_X10_changedSince_4 l2_4.toInt l3_4.toInt I4_1)) (by rw [(e65 : Int32.toInt x65 = (l3_4.toInt + 1))] <;> exact (z_X10_changedSince_5 l3_4.toInt N4 hm4)) hT hS (lv_sub hl [2, 3, 4, 0] rfl)
        · have ht27 : 0 ≤ x24.toInt ∧ x24.toInt < 12 := ht27
          refine lv_astore (lv' := [(4, .ref q27), (0, .ref a), (1, .ref p0), (2, .int l2_4), (3, .int l3_4)]) hx hb dX10_changedSince_30 hl (by decide) rfl (fun ls hl => ?_)
          refine lv_aload hx hb dX10_changedSince_32 (lv_at hl 0 rfl) ?_
          refine lv_ifnull hx hb dX10_changedSince_34 ?_
          refine lv_aload hx hb dX10_changedSince_37 (lv_at hl 0 rfl) ?_
          refine lv_aload_n hx hb dX10_changedSince_39 rfl (lv_at hl 2 rfl) ?_
          refine lv_aload_n hx hb dX10_changedSince_40 rfl (lv_at hl 1 rfl) ?_
          refine gX10_8 S hK hT ha kf_X10_57 dX10_changedSince_41 (fun _ _ => ?_)
          refine lv_iload_n hx hb dX10_changedSince_44 rfl (lv_at hl 4 rfl) ?_
          refine x_clp (x_runV (b := (F a 8)) (As := [.int l3_4]) (rest := [.ref p0, .ref q27]) S (c_X4_subject l E K F G s.heap (F a 8) l3_4 hk9999b) mv_X4_subject km_X10_147 rfl rfl ⟨Nat.le_of_ble_eq_true rfl, Nat.le_of_ble_eq_true rfl⟩ (rc_6 hK hT hk9999b) hK (fun _ => XPh.blind) (fun U hU hW => XPh.at hK hz hS hT hU hW) rfl hl.1 (Nat.le_of_ble_eq_true rfl) dX10_changedSince_45 ⟨Nat.le_of_ble_eq_true rfl, Nat.le_of_ble_eq_true rfl⟩) hS ?_
          rintro _ _ locs ⟨x45, rfl, t45⟩ hS
          obtain ⟨hk45, hj45⟩ := fkX4_1 hT hk9999b
          have hj45a : F (F (F a 8) 1) 99 = 10 * 0 + 1 := by rw [hj45, hj9999b]
          have t45 : ((0 ≤ l3_4.toInt ∧ l3_4.toInt < ((G.1 (F a 8) 6).toInt) ∧ l3_4.toInt < 1080) ∧ x45.toInt = (aI (G.2.1 (F (F a 8) 1)) (l3_4.toInt))) ∨ (¬ (0 ≤ l3_4.toInt ∧ l3_4.toInt < ((G.1 (F a 8) 6).toInt) ∧ l3_4.toInt < 1080) ∧ x45.toInt = -1) := t45
          refine x_clp (x_runV (b := q27) (As := [.ref p0, .int x45]) (rest := []) S (c_X7_state l E K F G s.heap q27 p0 x45 hk27 hp0 (v_X10_changedSince_48_3 (F := F) p0 G rox) (v_X10_changedSince_48_4 (K := K) (F := F) G a x24 q27 l3_4 bkn hs27 t24 ht27)) mv_X7_state km_X10_328 rfl rfl ⟨Nat.le_of_ble_eq_true rfl, Nat.le_of_ble_eq_true rfl⟩ (rc_9 hK hT hk27) hK (fun _ => XPh.blind) (fun U hU hW => XPh.at hK hz hS hT hU hW) rfl hl.1 (Nat.le_of_ble_eq_true rfl) dX10_changedSince_48 ⟨Nat.le_of_ble_eq_true rfl, Nat.le_of_ble_eq_true rfl⟩) hS ?_
          rintro _ _ locs ⟨x48, rfl, t48⟩ hS
          have t48 : x48.toInt = (stt (vw (G.2.1 (F p0 0))) ((G.1 q27 0).toInt) ((G.1 q27 2).toInt) ((G.1 q27 3).toInt) ((G.1 q27 4).toInt) (x45.toInt)) := t48
          refine lv_aload_n hx hb dX10_changedSince_51 rfl (lv_at hl 1 rfl) ?_
          refine gX10_8 S hK hT ha kf_X10_57 dX10_changedSince_52 (fun _ _ => ?_)
          refine lv_iload_n hx hb dX10_changedSince_55 rfl (lv_at hl 4 rfl) ?_
          refine x_clp (x_runV (b := (F a 8)) (As := [.int l3_4]) (rest := [.int x48]) S (c_X4_after l E K F G s.heap (F a 8) l3_4 hk9999b) mv_X4_after km_X10_306 rfl rfl ⟨Nat.le_of_ble_eq_true rfl, Nat.le_of_ble_eq_true rfl⟩ (rc_6 hK hT hk9999b) hK (fun _ => XPh.blind) (fun U hU hW => XPh.at hK hz hS hT hU hW) rfl hl.1 (Nat.le_of_ble_eq_true rfl) dX10_changedSince_56 ⟨Nat.le_of_ble_eq_true rfl, Nat.le_of_ble_eq_true rfl⟩) hS ?_
          rintro _ _ locs ⟨x56, rfl, t56⟩ hS
          obtain ⟨hk56, hj56⟩ := fkX4_3 hT hk9999b
          have hj56a : F (F (F a 8) 3) 99 = 10 * 0 + 3 := by rw [hj56, hj9999b]
          have t56 : ((0 ≤ l3_4.toInt ∧ l3_4.toInt < ((G.1 (F a 8) 6).toInt) ∧ l3_4.toInt < 1080) ∧ x56.toInt = (aI (G.2.1 (F (F a 8) 3)) (l3_4.toInt))) ∨ (¬ (0 ≤ l3_4.toInt ∧ l3_4.toInt < ((G.1 (F a 8) 6).toInt) ∧ l3_4.toInt < 1080) ∧ x56.toInt = -2000) := t56
          refine xi_ceq (tgt := 65) hx hb (t48 : Int32.toInt x48 = (stt (vw (G.2.1 (F p0 0))) ((G.1 q27 0).toInt) ((G.1 q27 2).toInt) ((G.1 q27 3).toInt) ((G.1 q27 4).toInt) (x45.toInt))) (rfl : Int32.toInt x56 = x56.toInt) dX10_changedSince_59 (by decide) (fun c59 => ?_) (fun c59 => ?_)
          · refine xi_iinc (n := 1) (lv' := fun z9 => [(3, .int z9), (4, .ref q27), (0, .ref a), (1, .ref p0), (2, .int l2_4)]) (k := 4) hx hb (rfl : Int32.toInt l3_4 = l3_4.toInt) (by decide) dX10_changedSince_65 hl rfl (by decide) (fun _ => rfl) (fun x65 ls t65 hl => ?_)
            have e65 : x65.toInt = (l3_4.toInt + 1) := (z_X10_changedSince_2 l3_4.toInt x65.toInt ((G.1 (F a 8) 6).toInt) w8 I4_0 t65)
            have hl : lv_has ls 5 [(3, .int x65), (4, .ref q27), (0, .ref a), (1, .ref p0), (2, .int l2_4)] := hl
            refine lv_goto (tgt := 4) hx hb dX10_changedSince_68 (by decide) ?_
            exact ih4 l2_4 x65 _ _ (by rw [(e65 : Int32.toInt x65 = (l3_4.toInt + 1))] <;> exact (v_X10_changedSince_68_5 (K := K) (F := F) a p0 q27 G l2_4 l3_4 x24 x48 x45 N4 x56 ha hp0 pc hs27 t48 w8 I4_0 I4_1 hm4 c12 t24 ht27 t45 t56 c59)) (by rw [(e65 : Int32.toInt x65 = (l3_4.toInt + 1))] <;> exact (z_X10_changedSince_3 l3_4.toInt ((G.1 (F a 8) 6).toInt) I4_0 c12)) (by rw [(e65 : Int32.toInt x65 = (l3_4.toInt + 1))] <;> exact (z_X10_changedSince_4 l2_4.toInt l3_4.toInt I4_1)) (by rw [(e65 : Int32.toInt x65 = (l3_4.toInt + 1))] <;> exact (z_X10_changedSince_5 l3_4.toInt N4 hm4)) hT hS (lv_sub hl [2, 3, 4, 0] rfl)
          · refine xi_iinc (n := 1) (lv' := fun z9 => [(2, .int z9), (4, .ref q27), (0, .ref a), (1, .ref p0), (3, .int l3_4)]) (k := 3) hx hb (rfl : Int32.toInt l2_4 = l2_4.toInt) (by decide) dX10_changedSince_62 hl rfl (by decide) (fun _ => rfl) (fun x62 ls t62 hl => ?_)
            have e62 : x62.toInt = (l2_4.toInt + 1) := (z_X10_changedSince_10 l2_4.toInt l3_4.toInt x62.toInt ((G.1 (F a 8) 6).toInt) w8 I4_1 c12 t62)
            have hl : lv_has ls 5 [(2, .int x62), (4, .ref q27), (0, .ref a), (1, .ref p0), (3, .int l3_4)] := hl
            refine xi_iinc (n := 1) (lv' := fun z9 => [(3, .int z9), (2, .int x62), (4, .ref q27), (0, .ref a), (1, .ref p0)]) (k := 4) hx hb (rfl : Int32.toInt l3_4 = l3_4.toInt) (by decide) dX10_changedSince_65 hl rfl (by decide) (fun _ => rfl) (fun x65 ls t65 hl => ?_)
            have e65 : x65.toInt = (l3_4.toInt + 1) := (z_X10_changedSince_2 l3_4.toInt x65.toInt ((G.1 (F a 8) 6).toInt) w8 I4_0 t65)
            have hl : lv_has ls 5 [(3, .int x65), (2, .int x62), (4, .ref q27), (0, .ref a), (1, .ref p0)] := hl
            refine lv_goto (tgt := 4) hx hb dX10_changedSince_68 (by decide) ?_
            exact ih4 x62 x65 _ _ (by rw [(e62 : Int32.toInt x62 = (l2_4.toInt + 1)), (e65 : Int32.toInt x65 = (l3_4.toInt + 1))] <;> exact (v_X10_changedSince_68_6 (K := K) (F := F) a p0 q27 G l2_4 l3_4 x24 x48 x45 N4 x56 ha hp0 pc hs27 t48 w8 I4_0 I4_1 hm4 c12 t24 ht27 t45 t56 c59)) (by rw [(e65 : Int32.toInt x65 = (l3_4.toInt + 1))] <;> exact (z_X10_changedSince_3 l3_4.toInt ((G.1 (F a 8) 6).toInt) I4_0 c12)) (by rw [(e62 : Int32.toInt x62 = (l2_4.toInt + 1)), (e65 : Int32.toInt x65 = (l3_4.toInt + 1))] <;> exact (z_X10_changedSince_13 l2_4.toInt l3_4.toInt I4_1)) (by rw [(e65 : Int32.toInt x65 = (l3_4.toInt + 1))] <;> exact (z_X10_changedSince_5 l3_4.toInt N4 hm4)) hT hS (lv_sub hl [3, 4, 1, 0] rfl)
  exact L4 4294967297 0 0 _ _ (v_X10_changedSince_3_7 (F := F) a p0 G) (z_X10_changedSince_15 ((G.1 (F a 8) 6).toInt) w8) (by decide) (by decide) hT hS (lv_sub hl [2, 3, 1, 0] rfl)

abbrev rm_X10_settledSince : Room := { frames := 6, cells := 0, slots := 0, locals := 149 }
set_option maxHeartbeats 4000000 in
set_option maxRecDepth 100000 in
theorem c_X10_settledSince (l : Launch) (E : XE) (K : Nat → Nat) (F : Nat → Nat → Nat) (G : XG) (a : Nat) (p0 : Nat) (ha : K a = 12) (hp0 : K p0 = 8) (sb : 0 ≤ ((G.1 (F a 2) 2).toInt) ∧ ((G.1 (F a 2) 2).toInt) ≤ 12) (rox : RO (vw (G.2.1 (F p0 0))) (aI (G.2.1 (F p0 1)))) (j0 : F p0 99 < 12) (rob : RO (vw (G.2.1 (F (F a 4) 0))) (aI (G.2.1 (F (F a 4) 1)))) (ron : RO (vw (G.2.1 (F (F a 3) 0))) (aI (G.2.1 (F (F a 3) 1)))) (bko : BKr K G (G.2.2.1 (F (F a 2) 1))) (bkn : BKr K G (G.2.2.1 (F (F a 2) 0))) : Met l yX10_settledSince (xw yX10_settledSince cX10_settledSince 5 (some .int)) rm_X10_settledSince (va_Pc [.ref a, .ref p0] (XP E K F G)) (XQ E (fun v (u : XG) => ∃ r : Int32, v = .int r ∧ XFr [(F a 11, 3), (F a 9, 6)] [F (F a 11) 0, F (F a 11) 1, F (F a 11) 2, F (F a 9) 0, F (F a 9) 1, F (F a 9) 2, F (F a 9) 3, F (F a 9) 4, F (F a 9) 5] [] G u ∧ (r.toInt = smQ (seQ G (G.2.2.1 (F (F a 2) 0)) (vw (G.2.1 (F (F a 3) 0)))) (gaL G (G.2.2.1 (F (F a 2) 1)) (vw (G.2.1 (F (F a 4) 0))) (vw (G.2.1 (F p0 0))) 1 (((G.1 (F a 2) 2).toInt)).toNat))) (fun u H => TW E K F u H)) 0 0 (xA E) := by
  refine x_enter (by decide) (Nat.le_of_ble_eq_true rfl) ?_
  intro p e s m args below meth c Q S hr hlk hnm hQ hP ls hl
  obtain ⟨hz, hK, hT⟩ := hP
  obtain ⟨hx, hb, -, -, -⟩ := id S
  obtain ⟨H, hT, hS, hgo⟩ : ∃ H : Heap, TW E K F G H ∧ va_S (xA E) s.heap H [] ∧ H = s.heap := ⟨_, hT, va_S.rf, rfl⟩
  rw [← hgo]
  have hl : lv_has ls 5 [(0, .ref a), (1, .ref p0)] := hl
  obtain ⟨hk9999, hj9999⟩ := fkX10_11 hT ha
  obtain ⟨hk9999a, hj9999a⟩ := fkX10_9 hT ha
  obtain ⟨hk9999b, hj9999b⟩ := fkX1_0 hT hk9999
  obtain ⟨hk9999c, hj9999c⟩ := fkX1_1 hT hk9999
  obtain ⟨hk9999d, hj9999d⟩ := fkX1_2 hT hk9999
  obtain ⟨hk9999e, hj9999e⟩ := fkX4_0 hT hk9999a
  have hj9999f : F (F (F a 9) 0) 99 = 10 * 1 + 0 := by rw [hj9999e, hj9999a]
  obtain ⟨hk9999f, hj9999g⟩ := fkX4_1 hT hk9999a
  have hj9999h : F (F (F a 9) 1) 99 = 10 * 1 + 1 := by rw [hj9999g, hj9999a]
  obtain ⟨hk9999g, hj9999i⟩ := fkX4_2 hT hk9999a
  have hj9999j : F (F (F a 9) 2) 99 = 10 * 1 + 2 := by rw [hj9999i, hj9999a]
  obtain ⟨hk9999h, hj9999k⟩ := fkX4_3 hT hk9999a
  have hj9999l : F (F (F a 9) 3) 99 = 10 * 1 + 3 := by rw [hj9999k, hj9999a]
  obtain ⟨hk9999i, hj9999m⟩ := fkX4_4 hT hk9999a
  have hj9999n : F (F (F a 9) 4) 99 = 10 * 1 + 4 := by rw [hj9999m, hj9999a]
  obtain ⟨hk9999j, hj9999o⟩ := fkX4_5 hT hk9999a
  have hj9999p : F (F (F a 9) 5) 99 = 10 * 1 + 5 := by rw [hj9999o, hj9999a]
  obtain ⟨hk9999k, hj9999q⟩ := fkX10_2 hT ha
  obtain ⟨hk9999l, hj9999r⟩ := fkX0_0 hT hk9999k
  obtain ⟨hk9999m, hj9999s⟩ := fkX0_1 hT hk9999k
  obtain ⟨hk9999n, hj9999t⟩ := fkX6_0 hT hp0
  obtain ⟨hk9999o, hj9999u⟩ := fkX6_1 hT hp0
  obtain ⟨hk9999p, hj9999v⟩ := fkX10_4 hT ha
  obtain ⟨hk9999q, hj9999w⟩ := fkX6_0 hT hk9999p
  have hj9999y : F (F (F a 4) 0) 99 = 1 := by rw [hj9999w, hj9999v]
  obtain ⟨hk9999r, hj9999z25⟩ := fkX6_1 hT hk9999p
  have hj9999z26 : F (F (F a 4) 1) 99 = 1 := by rw [hj9999z25, hj9999v]
  obtain ⟨hk9999s, hj9999z27⟩ := fkX10_3 hT ha
  obtain ⟨hk9999t, hj9999z28⟩ := fkX6_0 hT hk9999s
  have hj9999z29 : F (F (F a 3) 0) 99 = 0 := by rw [hj9999z28, hj9999z27]
  obtain ⟨hk9999u, hj9999z30⟩ := fkX6_1 hT hk9999s
  have hj9999z31 : F (F (F a 3) 1) 99 = 0 := by rw [hj9999z30, hj9999z27]
  refine lv_aload_n hx hb dX10_settledSince_0 rfl (lv_at hl 0 rfl) ?_
  refine lv_aload_n hx hb dX10_settledSince_1 rfl (lv_at hl 0 rfl) ?_
  refine gX10_9 S hK hT ha kf_X10_61 dX10_settledSince_2 (fun _ _ => ?_)
  refine lv_aload_n hx hb dX10_settledSince_5 rfl (lv_at hl 0 rfl) ?_
  refine gX10_4 S hK hT ha kf_X10_41 dX10_settledSince_6 (fun _ _ => ?_)
  refine lv_aload_n hx hb dX10_settledSince_9 rfl (lv_at hl 1 rfl) ?_
  refine lv_iconst (v := 1) hx hb dX10_settledSince_10 (by decide) ?_
  refine x_cv0 (x_runV (b := a) (As := [.ref (F a 9), .ref (F a 4), .ref p0, .int 1]) (rest := []) S (c_X10_gather l E K F G a (F a 9) (F a 4) p0 1 ha hk9999a hk9999p hp0 (sb) (v_X10_settledSince_11_1 (F := F) a G rob) (v_X10_settledSince_11_2 (F := F) p0 G rox) (v_X10_settledSince_11_3 (K := K) (F := F) G a bko) (v_X10_settledSince_11_4 (K := K) (F := F) a p0 G ha hp0 hk9999 hj9999 hk9999a hj9999a hk9999b hj9999b hk9999c hj9999c hk9999d hj9999d hk9999e hj9999f hk9999f hj9999h hk9999g hj9999j hk9999h hj9999l hk9999i hj9999n hk9999j hj9999p hk9999k hj9999q hk9999l hj9999r hk9999m hj9999s hk9999n hj9999t hk9999o hj9999u hk9999p hj9999v hk9999q hj9999y hk9999r hj9999z26 hk9999s hj9999z27 hk9999t hj9999z29 hk9999u hj9999z31 rox j0 rob ron bko bkn sb) (v_X10_settledSince_11_5 (F := F) p0 j0)) mv_X10_gather km_X10_240 rfl rfl ⟨Nat.le_of_ble_eq_true rfl, Nat.le_of_ble_eq_true rfl⟩ (rc_12 hK hT ha) hK (fun _ => XP.blind) (fun U hU hW => XP.at hK hz hS hT hU hW) rfl hl.1 (Nat.le_of_ble_eq_true rfl) dX10_settledSince_11 ⟨Nat.le_of_ble_eq_true rfl, Nat.le_of_ble_eq_true rfl⟩) hS ?_
  rintro G11 H locs ⟨hF11, t11, oq11⟩ hT hS
  have t11 : 0 ≤ ((G11.1 (F a 9) 6).toInt) ∧ ((G11.1 (F a 9) 6).toInt) ≤ 1080 := t11
  refine lv_iconst (v := 0) hx hb dX10_settledSince_14 (by decide) ?_
  refine lv_istore_n (lv' := [(2, .int 0), (0, .ref a), (1, .ref p0)]) hx hb dX10_settledSince_15 rfl hl (by decide) rfl (fun ls hl => ?_)
  refine lv_iconst (v := 0) hx hb dX10_settledSince_16 (by decide) ?_
  refine lv_istore_n (lv' := [(3, .int 0), (2, .int 0), (0, .ref a), (1, .ref p0)]) hx hb dX10_settledSince_17 rfl hl (by decide) rfl (fun ls hl => ?_)
  have L18 : ∀ (N18 : Nat) (l2_18 : Int32) (l3_18 : Int32) (H : Heap) (locs : List Loc) (ls : Array Slot), l2_18.toInt = smS (fun j => seQ G (G.2.2.1 (F (F a 2) 0)) (vw (G.2.1 (F (F a 3) 0))) (qtI G11 F (F a 9) j)) 0 l3_18.toInt → 0 ≤ l3_18.toInt ∧ l3_18.toInt ≤ ((G11.1 (F a 9) 6).toInt) → 0 ≤ l2_18.toInt ∧ l2_18.toInt ≤ l3_18.toInt → 5000 - l3_18.toInt < ((N18 : Nat) : Int) → TW E K F G11 H → va_S (xA E) s.heap H locs → lv_has ls 5 [(0, .ref a), (2, .int l2_18), (3, .int l3_18)] → W p l e rm_X10_settledSince s m args below meth c H locs 0 0 Q (F0 m 18 ls []) := by
    intro N18
    induction N18 with
    | zero =>
      intro l2_18 l3_18 H locs ls pc I18_0 I18_1 hm18
      exact absurd hm18 (z_X10_changedSince_1 l3_18.toInt ((G11.1 (F a 9) 6).toInt) I18_0 t11)
    | succ N18 ih18 =>
      intro l2_18 l3_18 H locs ls pc I18_0 I18_1 hm18 hT hS hl
      refine lv_iload_n hx hb dX10_settledSince_18 rfl (lv_at hl 2 rfl) ?_
      refine lv_aload_n hx hb dX10_settledSince_19 rfl (lv_at hl 0 rfl) ?_
      refine gX10_9 S hK hT ha kf_X10_61 dX10_settledSince_20 (fun _ _ => ?_)
      refine x_clp (x_runV (b := (F a 9)) (As := []) (rest := [.int l3_18]) S (c_X4_size l E K F G11 H (F a 9) hk9999a) mv_X4_size km_X10_232 rfl rfl ⟨Nat.le_of_ble_eq_true rfl, Nat.le_of_ble_eq_true rfl⟩ (rc_6 hK hT hk9999a) hK (fun _ => XPh.blind) (fun U hU hW => XPh.at hK hz hS hT hU hW) rfl hl.1 (Nat.le_of_ble_eq_true rfl) dX10_settledSince_23 ⟨Nat.le_of_ble_eq_true rfl, Nat.le_of_ble_eq_true rfl⟩) hS ?_
      rintro _ _ locs ⟨x23, rfl, t23⟩ hS
      have t23 : x23.toInt = ((G11.1 (F a 9) 6).toInt) := t23
      refine xi_cge (tgt := 88) hx hb (rfl : Int32.toInt l3_18 = l3_18.toInt) (t23 : Int32.toInt x23 = ((G11.1 (F a 9) 6).toInt)) dX10_settledSince_26 (by decide) (fun c26 => ?_) (fun c26 => ?_)
      · refine lv_iload_n hx hb dX10_settledSince_88 rfl (lv_at hl 1 rfl) ?_
        exact x_ri hx hb hr hlk hQ (Nat.le_of_ble_eq_true rfl) (Nat.le_of_ble_eq_true rfl) hS dX10_settledSince_89 G11 ⟨_, rfl, (XFr.call XFr.rf hF11 (xm1 0 rfl (xm1 1 rfl xm0)) (xm1 0 rfl (xm1 1 rfl (xm1 2 rfl (xm1 3 rfl (xm1 4 rfl (xm1 5 rfl (xm1 6 rfl (xm1 7 rfl (xm1 8 rfl xm0))))))))) xm0), (v_X10_settledSince_89_6 (K := K) (F := F) a p0 G G11 l2_18 l3_18 N18 ha hp0 j0 oq11 pc sb t11 I18_0 I18_1 hm18 c26)⟩ hT
      · refine lv_aload_n hx hb dX10_settledSince_29 rfl (lv_at hl 0 rfl) ?_
        refine gX10_2 S hK hT ha kf_X10_30 dX10_settledSince_30 (fun _ _ => ?_)
        refine lv_aload_n hx hb dX10_settledSince_33 rfl (lv_at hl 0 rfl) ?_
        refine gX10_9 S hK hT ha kf_X10_61 dX10_settledSince_34 (fun _ _ => ?_)
        refine lv_iload_n hx hb dX10_settledSince_37 rfl (lv_at hl 2 rfl) ?_
        refine x_clp (x_runV (b := (F a 9)) (As := [.int l3_18]) (rest := [.ref (F a 2)]) S (c_X4_number l E K F G11 H (F a 9) l3_18 hk9999a) mv_X4_number km_X10_301 rfl rfl ⟨Nat.le_of_ble_eq_true rfl, Nat.le_of_ble_eq_true rfl⟩ (rc_6 hK hT hk9999a) hK (fun _ => XPh.blind) (fun U hU hW => XPh.at hK hz hS hT hU hW) rfl hl.1 (Nat.le_of_ble_eq_true rfl) dX10_settledSince_38 ⟨Nat.le_of_ble_eq_true rfl, Nat.le_of_ble_eq_true rfl⟩) hS ?_
        rintro _ _ locs ⟨x38, rfl, t38⟩ hS
        have t38 : ((0 ≤ l3_18.toInt ∧ l3_18.toInt < ((G11.1 (F a 9) 6).toInt) ∧ l3_18.toInt < 1080) ∧ x38.toInt = (aI (G11.2.1 (F (F a 9) 0)) (l3_18.toInt))) ∨ (¬ (0 ≤ l3_18.toInt ∧ l3_18.toInt < ((G11.1 (F a 9) 6).toInt) ∧ l3_18.toInt < 1080) ∧ x38.toInt = -1) := t38
        refine x_clp (x_runV (b := (F a 2)) (As := [.int x38]) (rest := []) S (c_X0_get l E K F G11 H (F a 2) x38 hk9999k) mv_X0_get km_X10_159 rfl rfl ⟨Nat.le_of_ble_eq_true rfl, Nat.le_of_ble_eq_true rfl⟩ (rc_2 hK hT hk9999k) hK (fun _ => XPh.blind) (fun U hU hW => XPh.at hK hz hS hT hU hW) rfl hl.1 (Nat.le_of_ble_eq_true rfl) dX10_settledSince_41 ⟨Nat.le_of_ble_eq_true rfl, Nat.le_of_ble_eq_true rfl⟩) hS ?_
        rintro _ _ locs (⟨rfl, hn41⟩ | ⟨q41, rfl, hk41, ht41, hs41⟩) hS
        · refine lv_astoreN (lv' := [(4, .null), (0, .ref a), (2, .int l2_18), (3, .int l3_18)]) hx hb dX10_settledSince_44 hl (by decide) rfl (fun ls hl => ?_)
          refine lv_aloadN hx hb dX10_settledSince_46 (lv_at hl 0 rfl) ?_
          refine lv_ifnullN (tgt := 82) hx hb dX10_settledSince_48 (by decide) ?_
          refine xi_iinc (n := 1) (lv' := fun z9 => [(3, .int z9), (4, .null), (0, .ref a), (2, .int l2_18)]) (k := 3) hx hb (rfl : Int32.toInt l3_18 = l3_18.toInt) (by decide) dX10_settledSince_82 hl rfl (by decide) (fun _ => rfl) (fun x82 ls t82 hl => ?_)
          have e82 : x82.toInt = (l3_18.toInt + 1) := (z_X10_changedSince_2 l3_18.toInt x82.toInt ((G11.1 (F a 9) 6).toInt) t11 I18_0 t82)
          have hl : lv_has ls 5 [(3, .int x82), (4, .null), (0, .ref a), (2, .int l2_18)] := hl
          refine lv_goto (tgt := 18) hx hb dX10_settledSince_85 (by decide) ?_
          exact ih18 l2_18 x82 _ _ _ (by rw [(e82 : Int32.toInt x82 = (l3_18.toInt + 1))] <;> exact (v_X10_settledSince_85_7 (K := K) (F := F) a p0 G G11 l2_18 l3_18 x38 N18 ha hp0 j0 pc hn41 sb t11 I18_0 I18_1 hm18 c26 t38 (hF11.2.2 _ xn0))) (by rw [(e82 : Int32.toInt x82 = (l3_18.toInt + 1))] <;> exact (z_X10_changedSince_3 l3_18.toInt ((G11.1 (F a 9) 6).toInt) I18_0 c26)) (by rw [(e82 : Int32.toInt x82 = (l3_18.toInt + 1))] <;> exact (z_X10_changedSince_4 l2_18.toInt l3_18.toInt I18_1)) (by rw [(e82 : Int32.toInt x82 = (l3_18.toInt + 1))] <;> exact (z_X10_changedSince_5 l3_18.toInt N18 hm18)) hT hS (lv_sub hl [2, 3, 0] rfl)
        · have ht41 : 0 ≤ x38.toInt ∧ x38.toInt < 12 := ht41
          refine lv_astore (lv' := [(4, .ref q41), (0, .ref a), (2, .int l2_18), (3, .int l3_18)]) hx hb dX10_settledSince_44 hl (by decide) rfl (fun ls hl => ?_)
          refine lv_aload hx hb dX10_settledSince_46 (lv_at hl 0 rfl) ?_
          refine lv_ifnull hx hb dX10_settledSince_48 ?_
          refine lv_aload hx hb dX10_settledSince_51 (lv_at hl 0 rfl) ?_
          refine lv_aload_n hx hb dX10_settledSince_53 rfl (lv_at hl 1 rfl) ?_
          refine gX10_3 S hK hT ha kf_X10_37 dX10_settledSince_54 (fun _ _ => ?_)
          refine lv_aload_n hx hb dX10_settledSince_57 rfl (lv_at hl 1 rfl) ?_
          refine gX10_9 S hK hT ha kf_X10_61 dX10_settledSince_58 (fun _ _ => ?_)
          refine lv_iload_n hx hb dX10_settledSince_61 rfl (lv_at hl 3 rfl) ?_
          refine x_clp (x_runV (b := (F a 9)) (As := [.int l3_18]) (rest := [.ref (F a 3), .ref q41]) S (c_X4_subject l E K F G11 H (F a 9) l3_18 hk9999a) mv_X4_subject km_X10_147 rfl rfl ⟨Nat.le_of_ble_eq_true rfl, Nat.le_of_ble_eq_true rfl⟩ (rc_6 hK hT hk9999a) hK (fun _ => XPh.blind) (fun U hU hW => XPh.at hK hz hS hT hU hW) rfl hl.1 (Nat.le_of_ble_eq_true rfl) dX10_settledSince_62 ⟨Nat.le_of_ble_eq_true rfl, Nat.le_of_ble_eq_true rfl⟩) hS ?_
          rintro _ _ locs ⟨x62, rfl, t62⟩ hS
          have t62 : ((0 ≤ l3_18.toInt ∧ l3_18.toInt < ((G11.1 (F a 9) 6).toInt) ∧ l3_18.toInt < 1080) ∧ x62.toInt = (aI (G11.2.1 (F (F a 9) 1)) (l3_18.toInt))) ∨ (¬ (0 ≤ l3_18.toInt ∧ l3_18.toInt < ((G11.1 (F a 9) 6).toInt) ∧ l3_18.toInt < 1080) ∧ x62.toInt = -1) := t62
          refine x_clp (x_runV (b := q41) (As := [.ref (F a 3), .int x62]) (rest := []) S (c_X7_state l E K F G11 H q41 (F a 3) x62 hk41 hk9999s (v_X10_settledSince_65_8 (F := F) a p0 G G11 rox rob ron (hF11.2.1 _ (xn1 (xne_k hk9999t hk9999b (by decide)) (xn1 (xne_k hk9999t hk9999c (by decide)) (xn1 (xne_k hk9999t hk9999d (by decide)) (xn1 (xne_k hk9999t hk9999e (by decide)) (xn1 (xne_k hk9999t hk9999f (by decide)) (xn1 (xne_k hk9999t hk9999g (by decide)) (xn1 (xne_k hk9999t hk9999h (by decide)) (xn1 (xne_k hk9999t hk9999i (by decide)) (xn1 (xne_k hk9999t hk9999j (by decide)) xn0)))))))))) (hF11.2.1 _ (xn1 (xne_j hj9999z31 hj9999b (by first | decide | omega)) (xn1 (xne_j hj9999z31 hj9999c (by first | decide | omega)) (xn1 (xne_k hk9999u hk9999d (by decide)) (xn1 (xne_k hk9999u hk9999e (by decide)) (xn1 (xne_k hk9999u hk9999f (by decide)) (xn1 (xne_k hk9999u hk9999g (by decide)) (xn1 (xne_k hk9999u hk9999h (by decide)) (xn1 (xne_k hk9999u hk9999i (by decide)) (xn1 (xne_k hk9999u hk9999j (by decide)) xn0))))))))))) (v_X10_settledSince_65_9 (K := K) (F := F) G a G11 x38 q41 bkn hs41 ht41 (hF11.2.2 _ xn0) (fr_A hF11 (fun _ => (xna (xne_k hk41 hk9999 (by decide)) (xna (xne_k hk41 hk9999a (by decide)) xn0)))))) mv_X7_state km_X10_328 rfl rfl ⟨Nat.le_of_ble_eq_true rfl, Nat.le_of_ble_eq_true rfl⟩ (rc_9 hK hT hk41) hK (fun _ => XPh.blind) (fun U hU hW => XPh.at hK hz hS hT hU hW) rfl hl.1 (Nat.le_of_ble_eq_true rfl) dX10_settledSince_65 ⟨Nat.le_of_ble_eq_true rfl, Nat.le_of_ble_eq_true rfl⟩) hS ?_
          rintro _ _ locs ⟨x65, rfl, t65⟩ hS
          have t65 : x65.toInt = (stt (vw (G.2.1 (F (F a 3) 0))) ((G.1 q41 0).toInt) ((G.1 q41 2).toInt) ((G.1 q41 3).toInt) ((G.1 q41 4).toInt) (x62.toInt)) := by rw [(show G11.2.1 (F (F a 3) 0) = G.2.1 (F (F a 3) 0) from (hF11.2.1 _ (xn1 (xne_k hk9999t hk9999b (by decide)) (xn1 (xne_k hk9999t hk9999c (by decide)) (xn1 (xne_k hk9999t hk9999d (by decide)) (xn1 (xne_k hk9999t hk9999e (by decide)) (xn1 (xne_k hk9999t hk9999f (by decide)) (xn1 (xne_k hk9999t hk9999g (by decide)) (xn1 (xne_k hk9999t hk9999h (by decide)) (xn1 (xne_k hk9999t hk9999i (by decide)) (xn1 (xne_k hk9999t hk9999j (by decide)) xn0)))))))))))] at t65; rw [(show (G11.1 q41 0).toInt = ((G.1 q41 0).toInt) from (congrArg Int32.toInt (hF11.1 _ _ (xnj (by decide) (xnj (by decide) xn0)))).trans (rfl : Int32.toInt (G.1 q41 0) = ((G.1 q41 0).toInt)))] at t65; rw [(show (G11.1 q41 2).toInt = ((G.1 q41 2).toInt) from (congrArg Int32.toInt (hF11.1 _ _ (xnj (by decide) (xnj (by decide) xn0)))).trans (rfl : Int32.toInt (G.1 q41 2) = ((G.1 q41 2).toInt)))] at t65; rw [(show (G11.1 q41 3).toInt = ((G.1 q41 3).toInt) from (congrArg Int32.toInt (hF11.1 _ _ (xna (xne_k hk41 hk9999 (by decide)) (xnj (by decide) xn0)))).trans (rfl : Int32.toInt (G.1 q41 3) = ((G.1 q41 3).toInt)))] at t65; rw [(show (G11.1 q41 4).toInt = ((G.1 q41 4).toInt) from (congrArg Int32.toInt (hF11.1 _ _ (xnj (by decide) (xnj (by decide) xn0)))).trans (rfl : Int32.toInt (G.1 q41 4) = ((G.1 q41 4).toInt)))] at t65; exact t65
          refine lv_aload_n hx hb dX10_settledSince_68 rfl (lv_at hl 1 rfl) ?_
          refine gX10_9 S hK hT ha kf_X10_61 dX10_settledSince_69 (fun _ _ => ?_)
          refine lv_iload_n hx hb dX10_settledSince_72 rfl (lv_at hl 3 rfl) ?_
          refine x_clp (x_runV (b := (F a 9)) (As := [.int l3_18]) (rest := [.int x65]) S (c_X4_before l E K F G11 H (F a 9) l3_18 hk9999a) mv_X4_before km_X10_303 rfl rfl ⟨Nat.le_of_ble_eq_true rfl, Nat.le_of_ble_eq_true rfl⟩ (rc_6 hK hT hk9999a) hK (fun _ => XPh.blind) (fun U hU hW => XPh.at hK hz hS hT hU hW) rfl hl.1 (Nat.le_of_ble_eq_true rfl) dX10_settledSince_73 ⟨Nat.le_of_ble_eq_true rfl, Nat.le_of_ble_eq_true rfl⟩) hS ?_
          rintro _ _ locs ⟨x73, rfl, t73⟩ hS
          have t73 : ((0 ≤ l3_18.toInt ∧ l3_18.toInt < ((G11.1 (F a 9) 6).toInt) ∧ l3_18.toInt < 1080) ∧ x73.toInt = (aI (G11.2.1 (F (F a 9) 2)) (l3_18.toInt))) ∨ (¬ (0 ≤ l3_18.toInt ∧ l3_18.toInt < ((G11.1 (F a 9) 6).toInt) ∧ l3_18.toInt < 1080) ∧ x73.toInt = -2000) := t73
          refine xi_cne (tgt := 82) hx hb (t65 : Int32.toInt x65 = (stt (vw (G.2.1 (F (F a 3) 0))) ((G.1 q41 0).toInt) ((G.1 q41 2).toInt) ((G.1 q41 3).toInt) ((G.1 q41 4).toInt) (x62.toInt))) (rfl : Int32.toInt x73 = x73.toInt) dX10_settledSince_76 (by decide) (fun c76 => ?_) (fun c76 => ?_)
          · refine xi_iinc (n := 1) (lv' := fun z9 => [(3, .int z9), (4, .ref q41), (0, .ref a), (2, .int l2_18)]) (k := 3) hx hb (rfl : Int32.toInt l3_18 = l3_18.toInt) (by decide) dX10_settledSince_82 hl rfl (by decide) (fun _ => rfl) (fun x82 ls t82 hl => ?_)
            have e82 : x82.toInt = (l3_18.toInt + 1) := (z_X10_changedSince_2 l3_18.toInt x82.toInt ((G11.1 (F a 9) 6).toInt) t11 I18_0 t82)
            have hl : lv_has ls 5 [(3, .int x82), (4, .ref q41), (0, .ref a), (2, .int l2_18)] := hl
            refine lv_goto (tgt := 18) hx hb dX10_settledSince_85 (by decide) ?_
            exact ih18 l2_18 x82 _ _ _ (by rw [(e82 : Int32.toInt x82 = (l3_18.toInt + 1))] <;> exact (v_X10_settledSince_85_10 (K := K) (F := F) a p0 q41 G G11 l2_18 l3_18 x38 x65 x62 N18 x73 ha hp0 j0 pc hs41 t65 sb t11 I18_0 I18_1 hm18 c26 t38 ht41 t62 t73 c76 (hF11.2.2 _ xn0))) (by rw [(e82 : Int32.toInt x82 = (l3_18.toInt + 1))] <;> exact (z_X10_changedSince_3 l3_18.toInt ((G11.1 (F a 9) 6).toInt) I18_0 c26)) (by rw [(e82 : Int32.toInt x82 = (l3_18.toInt + 1))] <;> exact (z_X10_changedSince_4 l2_18.toInt l3_18.toInt I18_1)) (by rw [(e82 : Int32.toInt x82 = (l3_18.toInt + 1))] <;> exact (z_X10_changedSince_5 l3_18.toInt N18 hm18)) hT hS (lv_sub hl [2, 3, 0] rfl)
          · refine xi_iinc (n := 1) (lv' := fun z9 => [(2, .int z9), (4, .ref q41), (0, .ref a), (3, .int l3_18)]) (k := 2) hx hb (rfl : Int32.toInt l2_18 = l2_18.toInt) (by decide) dX10_settledSince_79 hl rfl (by decide) (fun _ => rfl) (fun x79 ls t79 hl => ?_)
            have e79 : x79.toInt = (l2_18.toInt + 1) := (z_X10_changedSince_10 l2_18.toInt l3_18.toInt x79.toInt ((G11.1 (F a 9) 6).toInt) t11 I18_1 c26 t79)
            have hl : lv_has ls 5 [(2, .int x79), (4, .ref q41), (0, .ref a), (3, .int l3_18)] := hl
            refine xi_iinc (n := 1) (lv' := fun z9 => [(3, .int z9), (2, .int x79), (4, .ref q41), (0, .ref a)]) (k := 3) hx hb (rfl : Int32.toInt l3_18 = l3_18.toInt) (by decide) dX10_settledSince_82 hl rfl (by decide) (fun _ => rfl) (fun x82 ls t82 hl => ?_)
            have e82 : x82.toInt = (l3_18.toInt + 1) := (z_X10_changedSince_2 l3_18.toInt x82.toInt ((G11.1 (F a 9) 6).toInt) t11 I18_0 t82)
            have hl : lv_has ls 5 [(3, .int x82), (2, .int x79), (4, .ref q41), (0, .ref a)] := hl
            refine lv_goto (tgt := 18) hx hb dX10_settledSince_85 (by decide) ?_
            exact ih18 x79 x82 _ _ _ (by rw [(e79 : Int32.toInt x79 = (l2_18.toInt + 1)), (e82 : Int32.toInt x82 = (l3_18.toInt + 1))] <;> exact (v_X10_settledSince_85_11 (K := K) (F := F) a p0 q41 G G11 l2_18 l3_18 x38 x65 x62 N18 x73 ha hp0 j0 pc hs41 t65 sb t11 I18_0 I18_1 hm18 c26 t38 ht41 t62 t73 c76 (hF11.2.2 _ xn0))) (by rw [(e82 : Int32.toInt x82 = (l3_18.toInt + 1))] <;> exact (z_X10_changedSince_3 l3_18.toInt ((G11.1 (F a 9) 6).toInt) I18_0 c26)) (by rw [(e79 : Int32.toInt x79 = (l2_18.toInt + 1)), (e82 : Int32.toInt x82 = (l3_18.toInt + 1))] <;> exact (z_X10_changedSince_13 l2_18.toInt l3_18.toInt I18_1)) (by rw [(e82 : Int32.toInt x82 = (l3_18.toInt + 1))] <;> exact (z_X10_changedSince_5 l3_18.toInt N18 hm18)) hT hS (lv_sub hl [3, 1, 0] rfl)
  exact L18 4294967297 0 0 _ _ _ (v_X10_settledSince_17_12 (F := F) a G G11) (z_X10_changedSince_15 ((G11.1 (F a 9) 6).toInt) t11) (by decide) (by decide) hT hS (lv_sub hl [2, 1, 0] rfl)

abbrev rm_X10_fresh : Room := { frames := 7, cells := 0, slots := 0, locals := 173 }
set_option maxHeartbeats 4000000 in
set_option maxRecDepth 100000 in
theorem c_X10_fresh (l : Launch) (E : XE) (K : Nat → Nat) (F : Nat → Nat → Nat) (G : XG) (a : Nat) (p0 : Int32) (p1 : Int32) (ha : K a = 12) (sb : 0 ≤ ((G.1 (F a 2) 2).toInt) ∧ ((G.1 (F a 2) 2).toInt) ≤ 12) (w8 : 0 ≤ ((G.1 (F a 8) 6).toInt) ∧ ((G.1 (F a 8) 6).toInt) ≤ 1080) (rob : RO (vw (G.2.1 (F (F a 4) 0))) (aI (G.2.1 (F (F a 4) 1)))) (ron : RO (vw (G.2.1 (F (F a 3) 0))) (aI (G.2.1 (F (F a 3) 1)))) (bko : BKr K G (G.2.2.1 (F (F a 2) 1))) (bkn : BKr K G (G.2.2.1 (F (F a 2) 0))) (rok : ∀ (i q : Nat), i < 8 → G.2.2.1 (F a 7) i = some q → RO (vw (G.2.1 (F q 0))) (aI (G.2.1 (F q 1)))) : Met l yX10_fresh (xw yX10_fresh cX10_fresh 4 (some .int)) rm_X10_fresh (va_Pc [.ref a, .int p0, .int p1] (XP E K F G)) (XQ E (fun v (u : XG) => ∃ r : Int32, v = .int r ∧ XFr [(F a 11, 3), (F a 9, 6)] [F (F a 11) 0, F (F a 11) 1, F (F a 11) 2, F (F a 9) 0, F (F a 9) 1, F (F a 9) 2, F (F a 9) 3, F (F a 9) 4, F (F a 9) 5] [] G u ∧ ((((p0.toInt < 0 ∨ ((G.1 a 17).toInt) ≤ p0.toInt ∨ 8 ≤ p0.toInt) ∨ p1.toInt < 0 ∨ 1 < p1.toInt) ∧ r.toInt = -1) ∨ (∃ q : Nat, (0 ≤ p0.toInt ∧ p0.toInt < ((G.1 a 17).toInt) ∧ p0.toInt < 8) ∧ G.2.2.1 (F a 7) (p0.toInt).toNat = some q ∧ ((p1.toInt = 0 ∧ r.toInt = smQ (chQ G (G.2.2.1 (F (F a 2) 0)) (vw (G.2.1 (F q 0)))) (qL G F (F a 8))) ∨ (p1.toInt = 1 ∧ r.toInt = smQ (seQ G (G.2.2.1 (F (F a 2) 0)) (vw (G.2.1 (F (F a 3) 0)))) (gaL G (G.2.2.1 (F (F a 2) 1)) (vw (G.2.1 (F (F a 4) 0))) (vw (G.2.1 (F q 0))) 1 (((G.1 (F a 2) 2).toInt)).toNat)))))) (fun u H => TW E K F u H)) 0 0 (xA E) := by
  refine x_enter (by decide) (Nat.le_of_ble_eq_true rfl) ?_
  intro p e s m args below meth c Q S hr hlk hnm hQ hP ls hl
  obtain ⟨hz, hK, hT⟩ := hP
  obtain ⟨hx, hb, -, -, -⟩ := id S
  obtain ⟨H, hT, hS, hgo⟩ : ∃ H : Heap, TW E K F G H ∧ va_S (xA E) s.heap H [] ∧ H = s.heap := ⟨_, hT, va_S.rf, rfl⟩
  rw [← hgo]
  have hl : lv_has ls 4 [(0, .ref a), (1, .int p0), (2, .int p1)] := hl
  obtain ⟨hk9999, hj9999⟩ := fkX10_11 hT ha
  obtain ⟨hk9999a, hj9999a⟩ := fkX10_9 hT ha
  obtain ⟨hk9999b, hj9999b⟩ := fkX1_0 hT hk9999
  obtain ⟨hk9999c, hj9999c⟩ := fkX1_1 hT hk9999
  obtain ⟨hk9999d, hj9999d⟩ := fkX1_2 hT hk9999
  obtain ⟨hk9999e, hj9999e⟩ := fkX4_0 hT hk9999a
  have hj9999f : F (F (F a 9) 0) 99 = 10 * 1 + 0 := by rw [hj9999e, hj9999a]
  obtain ⟨hk9999f, hj9999g⟩ := fkX4_1 hT hk9999a
  have hj9999h : F (F (F a 9) 1) 99 = 10 * 1 + 1 := by rw [hj9999g, hj9999a]
  obtain ⟨hk9999g, hj9999i⟩ := fkX4_2 hT hk9999a
  have hj9999j : F (F (F a 9) 2) 99 = 10 * 1 + 2 := by rw [hj9999i, hj9999a]
  obtain ⟨hk9999h, hj9999k⟩ := fkX4_3 hT hk9999a
  have hj9999l : F (F (F a 9) 3) 99 = 10 * 1 + 3 := by rw [hj9999k, hj9999a]
  obtain ⟨hk9999i, hj9999m⟩ := fkX4_4 hT hk9999a
  have hj9999n : F (F (F a 9) 4) 99 = 10 * 1 + 4 := by rw [hj9999m, hj9999a]
  obtain ⟨hk9999j, hj9999o⟩ := fkX4_5 hT hk9999a
  have hj9999p : F (F (F a 9) 5) 99 = 10 * 1 + 5 := by rw [hj9999o, hj9999a]
  obtain ⟨hk9999k, hj9999q⟩ := fkX10_2 hT ha
  obtain ⟨hk9999l, hj9999r⟩ := fkX0_0 hT hk9999k
  obtain ⟨hk9999m, hj9999s⟩ := fkX0_1 hT hk9999k
  obtain ⟨hk9999n, hj9999t⟩ := fkX10_7 hT ha
  obtain ⟨hk9999o, hj9999u⟩ := fkX10_8 hT ha
  obtain ⟨hk9999p, hj9999v⟩ := fkX10_4 hT ha
  obtain ⟨hk9999q, hj9999w⟩ := fkX6_0 hT hk9999p
  have hj9999y : F (F (F a 4) 0) 99 = 1 := by rw [hj9999w, hj9999v]
  obtain ⟨hk9999r, hj9999z25⟩ := fkX6_1 hT hk9999p
  have hj9999z26 : F (F (F a 4) 1) 99 = 1 := by rw [hj9999z25, hj9999v]
  obtain ⟨hk9999s, hj9999z27⟩ := fkX10_3 hT ha
  obtain ⟨hk9999t, hj9999z28⟩ := fkX6_0 hT hk9999s
  have hj9999z29 : F (F (F a 3) 0) 99 = 0 := by rw [hj9999z28, hj9999z27]
  obtain ⟨hk9999u, hj9999z30⟩ := fkX6_1 hT hk9999s
  have hj9999z31 : F (F (F a 3) 1) 99 = 0 := by rw [hj9999z30, hj9999z27]
  refine lv_aload_n hx hb dX10_fresh_0 rfl (lv_at hl 0 rfl) ?_
  refine lv_iload_n hx hb dX10_fresh_1 rfl (lv_at hl 1 rfl) ?_
  refine x_clp (x_runV (b := a) (As := [.int p0]) (rest := []) S (c_X10_rowsAtMark l E K F G H a p0 ha) mv_X10_rowsAtMark km_X10_236 rfl rfl ⟨Nat.le_of_ble_eq_true rfl, Nat.le_of_ble_eq_true rfl⟩ (rc_12 hK hT ha) hK (fun _ => XPh.blind) (fun U hU hW => XPh.at hK hz hS hT hU hW) rfl hl.1 (Nat.le_of_ble_eq_true rfl) dX10_fresh_2 ⟨Nat.le_of_ble_eq_true rfl, Nat.le_of_ble_eq_true rfl⟩) hS ?_
  rintro _ _ locs (⟨rfl, hn2⟩ | ⟨q2, rfl, hk2, ht2, hs2⟩) hS
  · refine lv_astore_nN (lv' := [(3, .null), (0, .ref a), (1, .int p0), (2, .int p1)]) hx hb dX10_fresh_5 rfl hl (by decide) rfl (fun ls hl => ?_)
    refine lv_aload_nN hx hb dX10_fresh_6 rfl (lv_at hl 0 rfl) ?_
    refine lv_ifnonnullN hx hb dX10_fresh_7 ?_
    refine lv_iconst (v := (-1)) hx hb dX10_fresh_10 (by decide) ?_
    exact x_ri hx hb hr hlk hQ (Nat.le_of_ble_eq_true rfl) (Nat.le_of_ble_eq_true rfl) hS dX10_fresh_11 G ⟨_, rfl, XFr.rf, (by rw [((by decide) : Int32.toInt (-1) = (-1 : Int))] <;> exact (v_X10_fresh_11_1 (F := F) a G p0 p1 hn2))⟩ hT
  · have ht2 : 0 ≤ p0.toInt ∧ p0.toInt < ((G.1 a 17).toInt) ∧ p0.toInt < 8 := ht2
    refine lv_astore_n (lv' := [(3, .ref q2), (0, .ref a), (1, .int p0), (2, .int p1)]) hx hb dX10_fresh_5 rfl hl (by decide) rfl (fun ls hl => ?_)
    refine lv_aload_n hx hb dX10_fresh_6 rfl (lv_at hl 0 rfl) ?_
    refine lv_ifnonnull (tgt := 12) hx hb dX10_fresh_7 (by decide) ?_
    refine lv_iload_n hx hb dX10_fresh_12 rfl (lv_at hl 3 rfl) ?_
    rcases ((z_X10_question_1 p1.toInt) : (¬ p1.toInt = 0 ∧ ¬ p1.toInt = 1) ∨ (p1.toInt = 0) ∨ (p1.toInt = 1)) with c13 | c13 | c13
    · refine lv_lookup (off := 39) (tgt := 52) hx hb dX10_fresh_13 (by decide) (by first | (simp only [Op.lookupswitch.offset_cons, Op.lookupswitch.offset_nil]; (repeat' split) <;> omega) | (simp [Op.lookupswitch.offset]; (repeat' split) <;> omega) | (simp [Op.lookupswitch.offset]; omega)) (by decide) ?_
      refine lv_iconst (v := (-1)) hx hb dX10_fresh_52 (by decide) ?_
      exact x_ri hx hb hr hlk hQ (Nat.le_of_ble_eq_true rfl) (Nat.le_of_ble_eq_true rfl) hS dX10_fresh_53 G ⟨_, rfl, XFr.rf, (by rw [((by decide) : Int32.toInt (-1) = (-1 : Int))] <;> exact (v_X10_fresh_53_2 (K := K) (F := F) a q2 p0 G p1 ha ((hs2).1) hs2 sb w8 ht2 c13))⟩ hT
    · refine lv_lookup (off := 27) (tgt := 40) hx hb dX10_fresh_13 (by decide) (by rw [c13]; rfl) (by decide) ?_
      refine lv_aload_n hx hb dX10_fresh_40 rfl (lv_at hl 1 rfl) ?_
      refine lv_aload_n hx hb dX10_fresh_41 rfl (lv_at hl 0 rfl) ?_
      refine x_clp (x_runV (b := a) (As := [.ref q2]) (rest := []) S (c_X10_changedSince l E K F G H a q2 ha hk2 (w8) (v_X10_fresh_42_3 (F := F) G a q2 p0 rok hs2 ht2) (v_X10_fresh_42_4 (K := K) (F := F) a G bkn)) mv_X10_changedSince km_X10_318 rfl rfl ⟨Nat.le_of_ble_eq_true rfl, Nat.le_of_ble_eq_true rfl⟩ (rc_12 hK hT ha) hK (fun _ => XPh.blind) (fun U hU hW => XPh.at hK hz hS hT hU hW) rfl hl.1 (Nat.le_of_ble_eq_true rfl) dX10_fresh_42 ⟨Nat.le_of_ble_eq_true rfl, Nat.le_of_ble_eq_true rfl⟩) hS ?_
      rintro _ _ locs ⟨x42, rfl, oq42⟩ hS
      obtain ⟨hk42, hj42⟩ := fkX6_0 hT hk2
      have hj42a : F (F q2 0) 99 = 4 + (p0.toInt).toNat := by rw [hj42, (hs2).1]
      exact x_ri hx hb hr hlk hQ (Nat.le_of_ble_eq_true rfl) (Nat.le_of_ble_eq_true rfl) hS dX10_fresh_45 G ⟨_, rfl, XFr.rf, (v_X10_fresh_45_5 (F := F) a q2 p0 G x42 p1 hs2 oq42 ht2 c13)⟩ hT
    · refine lv_lookup (off := 33) (tgt := 46) hx hb dX10_fresh_13 (by decide) (by rw [c13]; rfl) (by decide) ?_
      refine lv_aload_n hx hb dX10_fresh_46 rfl (lv_at hl 1 rfl) ?_
      refine lv_aload_n hx hb dX10_fresh_47 rfl (lv_at hl 0 rfl) ?_
      refine x_cl0 (x_runV (b := a) (As := [.ref q2]) (rest := []) S (c_X10_settledSince l E K F G a q2 ha hk2 (sb) (v_X10_fresh_48_6 (F := F) G a q2 p0 rok hs2 ht2) (v_X10_fresh_48_7 (F := F) q2 p0 G a hs2 ht2) (v_X10_fresh_48_8 (F := F) a G rob) (v_X10_fresh_48_9 (F := F) a G ron) (v_X10_fresh_48_10 (K := K) (F := F) a G bko) (v_X10_fresh_48_11 (K := K) (F := F) a G bkn)) mv_X10_settledSince km_X10_322 rfl rfl ⟨Nat.le_of_ble_eq_true rfl, Nat.le_of_ble_eq_true rfl⟩ (rc_12 hK hT ha) hK (fun _ => XP.blind) (fun U hU hW => XP.at hK hz hS hT hU hW) rfl hl.1 (Nat.le_of_ble_eq_true rfl) dX10_fresh_48 ⟨Nat.le_of_ble_eq_true rfl, Nat.le_of_ble_eq_true rfl⟩) hS ?_
      rintro _ G48 H locs ⟨x48, rfl, hF48, oq48⟩ hT hS
      obtain ⟨hk48, hj48⟩ := fkX6_0 hT hk2
      have hj48a : F (F q2 0) 99 = 4 + (p0.toInt).toNat := by rw [hj48, (hs2).1]
      exact x_ri hx hb hr hlk hQ (Nat.le_of_ble_eq_true rfl) (Nat.le_of_ble_eq_true rfl) hS dX10_fresh_51 G48 ⟨_, rfl, (XFr.call XFr.rf hF48 (xm1 0 rfl (xm1 1 rfl xm0)) (xm1 0 rfl (xm1 1 rfl (xm1 2 rfl (xm1 3 rfl (xm1 4 rfl (xm1 5 rfl (xm1 6 rfl (xm1 7 rfl (xm1 8 rfl xm0))))))))) xm0), (v_X10_fresh_51_12 (F := F) a q2 p0 G x48 p1 hs2 oq48 ht2 c13)⟩ hT

abbrev rm_X10_verdict : Room := { frames := 3, cells := 0, slots := 0, locals := 60 }
set_option maxHeartbeats 4000000 in
set_option maxRecDepth 100000 in
theorem c_X10_verdict (l : Launch) (E : XE) (K : Nat → Nat) (F : Nat → Nat → Nat) (G : XG) (h0 : Heap) (a : Nat) (p0 : Int32) (ha : K a = 12) : Met l yX10_verdict (xw yX10_verdict cX10_verdict 2 (some .int)) rm_X10_verdict (va_Pc [.ref a, .int p0] (XPh E K F G h0)) (XQ E (fun v (u : Unit) => ∃ r : Int32, v = .int r) (fun _ H => H = h0)) 0 0 (xA E) := by
  refine x_enter (by decide) (Nat.le_of_ble_eq_true rfl) ?_
  intro p e s m args below meth c Q S hr hlk hnm hQ hP ls hl
  obtain ⟨⟨hz, hK, hT⟩, hh⟩ := hP
  obtain ⟨hx, hb, -, -, -⟩ := id S
  have hS : va_S (xA E) s.heap s.heap [] := va_S.rf
  have hl : lv_has ls 2 [(0, .ref a), (1, .int p0)] := hl
  refine lv_iload_n hx hb dX10_verdict_0 rfl (lv_at hl 1 rfl) ?_
  refine lv_iconst (v := 2) hx hb dX10_verdict_1 (by decide) ?_
  refine xi_cne (tgt := 13) hx hb (rfl : Int32.toInt p0 = p0.toInt) ((by decide) : Int32.toInt 2 = (2 : Int)) dX10_verdict_2 (by decide) (fun c2 => ?_) (fun c2 => ?_)
  · refine lv_aload_n hx hb dX10_verdict_13 rfl (lv_at hl 0 rfl) ?_
    obtain ⟨hk14, hj14⟩ := fkX10_14 hT ha
    refine gX10_14 S hK hT ha kf_X10_91 dX10_verdict_14 (fun _ _ => ?_)
    refine x_clp (x_runV (b := (F a 14)) (As := []) (rest := []) S (c_X9_isTold l E K F G s.heap (F a 14) hk14) mv_X9_isTold km_X10_341 rfl rfl ⟨Nat.le_of_ble_eq_true rfl, Nat.le_of_ble_eq_true rfl⟩ (rc_11 hK hT hk14) hK (fun _ => XPh.blind) (fun U hU hW => XPh.at hK hz hS hT hU hW) rfl hl.1 (Nat.le_of_ble_eq_true rfl) dX10_verdict_17 ⟨Nat.le_of_ble_eq_true rfl, Nat.le_of_ble_eq_true rfl⟩) hS ?_
    rintro _ _ locs ⟨x17, rfl, b17⟩ hS
    refine xi_zne (tgt := 27) hx hb (rfl : Int32.toInt x17 = x17.toInt) dX10_verdict_20 (by decide) (fun c20 => ?_) (fun c20 => ?_)
    · refine lv_iload_n hx hb dX10_verdict_27 rfl (lv_at hl 1 rfl) ?_
      rcases ((z_X10_question_1 p0.toInt) : (¬ p0.toInt = 0 ∧ ¬ p0.toInt = 1) ∨ (p0.toInt = 0) ∨ (p0.toInt = 1)) with c28 | c28 | c28
      · refine lv_lookup (off := 44) (tgt := 72) hx hb dX10_verdict_28 (by decide) (by first | (simp only [Op.lookupswitch.offset_cons, Op.lookupswitch.offset_nil]; (repeat' split) <;> omega) | (simp [Op.lookupswitch.offset]; (repeat' split) <;> omega) | (simp [Op.lookupswitch.offset]; omega)) (by decide) ?_
        refine lv_ldcw (v := (-2147483648)) hx hb S.2.2.2.1 (S.2.2.2.2 _ (List.mem_cons_of_mem _ kc_X10_274)) dX10_verdict_72 ?_
        exact x_ri hx hb hr hlk hQ (Nat.le_of_ble_eq_true rfl) (Nat.le_of_ble_eq_true rfl) hS dX10_verdict_75 () ⟨_, rfl⟩ hh
      · refine lv_lookup (off := 28) (tgt := 56) hx hb dX10_verdict_28 (by decide) (by rw [c28]; rfl) (by decide) ?_
        refine lv_aload_n hx hb dX10_verdict_56 rfl (lv_at hl 0 rfl) ?_
        refine gX10_14 S hK hT ha kf_X10_91 dX10_verdict_57 (fun _ _ => ?_)
        refine x_clp (x_runV (b := (F a 14)) (As := []) (rest := []) S (c_X9_number l E K F G s.heap (F a 14) hk14) mv_X9_number km_X10_345 rfl rfl ⟨Nat.le_of_ble_eq_true rfl, Nat.le_of_ble_eq_true rfl⟩ (rc_11 hK hT hk14) hK (fun _ => XPh.blind) (fun U hU hW => XPh.at hK hz hS hT hU hW) rfl hl.1 (Nat.le_of_ble_eq_true rfl) dX10_verdict_60 ⟨Nat.le_of_ble_eq_true rfl, Nat.le_of_ble_eq_true rfl⟩) hS ?_
        rintro _ _ locs ⟨x60, rfl⟩ hS
        exact x_ri hx hb hr hlk hQ (Nat.le_of_ble_eq_true rfl) (Nat.le_of_ble_eq_true rfl) hS dX10_verdict_63 () ⟨_, rfl⟩ hh
      · refine lv_lookup (off := 36) (tgt := 64) hx hb dX10_verdict_28 (by decide) (by rw [c28]; rfl) (by decide) ?_
        refine lv_aload_n hx hb dX10_verdict_64 rfl (lv_at hl 0 rfl) ?_
        refine gX10_14 S hK hT ha kf_X10_91 dX10_verdict_65 (fun _ _ => ?_)
        refine x_clp (x_runV (b := (F a 14)) (As := []) (rest := []) S (c_X9_subject l E K F G s.heap (F a 14) hk14) mv_X9_subject km_X10_347 rfl rfl ⟨Nat.le_of_ble_eq_true rfl, Nat.le_of_ble_eq_true rfl⟩ (rc_11 hK hT hk14) hK (fun _ => XPh.blind) (fun U hU hW => XPh.at hK hz hS hT hU hW) rfl hl.1 (Nat.le_of_ble_eq_true rfl) dX10_verdict_68 ⟨Nat.le_of_ble_eq_true rfl, Nat.le_of_ble_eq_true rfl⟩) hS ?_
        rintro _ _ locs ⟨x68, rfl⟩ hS
        exact x_ri hx hb hr hlk hQ (Nat.le_of_ble_eq_true rfl) (Nat.le_of_ble_eq_true rfl) hS dX10_verdict_71 () ⟨_, rfl⟩ hh
    · refine lv_ldcw (v := (-2147483648)) hx hb S.2.2.2.1 (S.2.2.2.2 _ (List.mem_cons_of_mem _ kc_X10_274)) dX10_verdict_23 ?_
      exact x_ri hx hb hr hlk hQ (Nat.le_of_ble_eq_true rfl) (Nat.le_of_ble_eq_true rfl) hS dX10_verdict_26 () ⟨_, rfl⟩ hh
  · refine lv_aload_n hx hb dX10_verdict_5 rfl (lv_at hl 0 rfl) ?_
    obtain ⟨hk6, hj6⟩ := fkX10_14 hT ha
    refine gX10_14 S hK hT ha kf_X10_91 dX10_verdict_6 (fun _ _ => ?_)
    refine x_clp (x_runV (b := (F a 14)) (As := []) (rest := []) S (c_X9_signs l E K F G s.heap (F a 14) hk6) mv_X9_signs km_X10_338 rfl rfl ⟨Nat.le_of_ble_eq_true rfl, Nat.le_of_ble_eq_true rfl⟩ (rc_11 hK hT hk6) hK (fun _ => XPh.blind) (fun U hU hW => XPh.at hK hz hS hT hU hW) rfl hl.1 (Nat.le_of_ble_eq_true rfl) dX10_verdict_9 ⟨Nat.le_of_ble_eq_true rfl, Nat.le_of_ble_eq_true rfl⟩) hS ?_
    rintro _ _ locs ⟨x9, rfl⟩ hS
    exact x_ri hx hb hr hlk hQ (Nat.le_of_ble_eq_true rfl) (Nat.le_of_ble_eq_true rfl) hS dX10_verdict_12 () ⟨_, rfl⟩ hh

abbrev rm_X10_letter : Room := { frames := 5, cells := 0, slots := 0, locals := 109 }
set_option maxHeartbeats 4000000 in
set_option maxRecDepth 100000 in
theorem c_X10_letter (l : Launch) (E : XE) (K : Nat → Nat) (F : Nat → Nat → Nat) (G : XG) (h0 : Heap) (a : Nat) (p0 : Int32) (ha : K a = 12) : Met l yX10_letter (xw yX10_letter cX10_letter 2 (some .int)) rm_X10_letter (va_Pc [.ref a, .int p0] (XPh E K F G h0)) (XQ E (fun v (u : Unit) => ∃ r : Int32, v = .int r) (fun _ H => H = h0)) 0 0 (xA E) := by
  refine x_enter (by decide) (Nat.le_of_ble_eq_true rfl) ?_
  intro p e s m args below meth c Q S hr hlk hnm hQ hP ls hl
  obtain ⟨⟨hz, hK, hT⟩, hh⟩ := hP
  obtain ⟨hx, hb, -, -, -⟩ := id S
  have hS : va_S (xA E) s.heap s.heap [] := va_S.rf
  have hl : lv_has ls 2 [(0, .ref a), (1, .int p0)] := hl
  refine lv_aload_n hx hb dX10_letter_0 rfl (lv_at hl 0 rfl) ?_
  obtain ⟨hk1, hj1⟩ := fkX10_14 hT ha
  refine gX10_14 S hK hT ha kf_X10_91 dX10_letter_1 (fun _ _ => ?_)
  refine lv_iload_n hx hb dX10_letter_4 rfl (lv_at hl 1 rfl) ?_
  refine x_clp (x_runV (b := (F a 14)) (As := [.int p0]) (rest := []) S (c_X9_signAt l E K F G s.heap (F a 14) p0 hk1) mv_X9_signAt km_X10_349 rfl rfl ⟨Nat.le_of_ble_eq_true rfl, Nat.le_of_ble_eq_true rfl⟩ (rc_11 hK hT hk1) hK (fun _ => XPh.blind) (fun U hU hW => XPh.at hK hz hS hT hU hW) rfl hl.1 (Nat.le_of_ble_eq_true rfl) dX10_letter_5 ⟨Nat.le_of_ble_eq_true rfl, Nat.le_of_ble_eq_true rfl⟩) hS ?_
  rintro _ _ locs ⟨x5, rfl⟩ hS
  exact x_ri hx hb hr hlk hQ (Nat.le_of_ble_eq_true rfl) (Nat.le_of_ble_eq_true rfl) hS dX10_letter_8 () ⟨_, rfl⟩ hh

theorem z_X10_wouldCut_1 (a0 : Int) (a1 : Int) (a2 : Int) (a3 : Int) (h0 : ¬ (0 ≤ a0 ∧ a0 < 3 ∧ 0 ≤ a1 ∧ a1 < 30) → a3 = -2000) (h1 : (a2 = 1 ∧ a3 ≠ -2000) ∨ (a2 = 0 ∧ a3 = -2000)) (h2 : a2 ≠ 0) : 0 ≤ a0 ∧ a0 < 3 ∧ 0 ≤ a1 ∧ a1 < 30 := by omega
theorem z_X10_wouldCut_2 (a0 : Int) (a1 : Int) (a2 : Int) (h0 : (a0 = 1 ∧ a1 ≠ -2000) ∨ (a0 = 0 ∧ a1 = -2000)) (h1 : a0 ≠ 0) (h2 : a2 = a1) : a2 ≠ -2000 := by omega
theorem z_X10_wouldCut_3 (a0 : Int) : (a0 < 0 ∨ 2 < a0) ∨ (a0 = 0) ∨ (a0 = 1) ∨ (a0 = 2) := by omega
theorem z_X10_wouldCut_4 (a0 : Int) (a1 : Int) (a2 : Int) (a3 : Int) (a4 : Int) (h0 : a0 = a3 ∧ (0 ≤ a0 ∧ a0 ≤ 90)) (h1 : a1 = a4 ∧ (0 ≤ a1 ∧ a1 ≤ 90)) (h2 : a2 = (a0 - a1) ∨ (a0 - a1) < -2147483648 ∨ 2147483648 ≤ (a0 - a1)) : a2 = (a0 - a1) := by omega
abbrev rm_X10_wouldCut : Room := { frames := 7, cells := 0, slots := 0, locals := 170 }
set_option maxHeartbeats 4000000 in
set_option maxRecDepth 100000 in
theorem c_X10_wouldCut (l : Launch) (E : XE) (K : Nat → Nat) (F : Nat → Nat → Nat) (G : XG) (a : Nat) (p0 : Int32) (p1 : Int32) (p2 : Int32) (ha : K a = 12) (sb : 0 ≤ ((G.1 (F a 2) 2).toInt) ∧ ((G.1 (F a 2) 2).toInt) ≤ 12) (ron : RO (vw (G.2.1 (F (F a 3) 0))) (aI (G.2.1 (F (F a 3) 1)))) (bko : BKr K G (G.2.2.1 (F (F a 2) 1))) (bkn : BKr K G (G.2.2.1 (F (F a 2) 0))) (hac : ACo G (G.2.2.1 (F (F a 2) 0))) : Met l yX10_wouldCut (xw yX10_wouldCut cX10_wouldCut 4 (some .int)) rm_X10_wouldCut (va_Pc [.ref a, .int p0, .int p1, .int p2] (XP E K F G)) (XQ E (fun v (u : XG) => ∃ r : Int32, v = .int r ∧ XFr [(F a 11, 3), (F a 9, 6), (F a 12, 4)] [F (F a 11) 0, F (F a 11) 1, F (F a 11) 2, F (F a 9) 0, F (F a 9) 1, F (F a 9) 2, F (F a 9) 3, F (F a 9) 4, F (F a 9) 5, F (F a 5) 0, F (F a 5) 1, F (F a 12) 0, F (F a 12) 1, F (F a 12) 2, F (F a 12) 3] [] G u ∧ ((cel (vw (G.2.1 (F (F a 3) 0))) p0.toInt p1.toInt 0 = -2000 ∧ r.toInt = -1) ∨ (cel (vw (G.2.1 (F (F a 3) 0))) p0.toInt p1.toInt 0 ≠ -2000 ∧ ((p2.toInt = 0 ∧ ∃ b : Int → Int, RO (cfin (clsA G (G.2.2.1 (F (F a 2) 0))) (clsT G (G.2.2.1 (F (F a 2) 0))) (clsC G (G.2.2.1 (F (F a 2) 0))) ([(p0.toInt, p1.toInt, 0, 0)], rfil (vw (G.2.1 (F (F a 3) 0))) p0.toInt p1.toInt (-2000) 3)) b ∧ r.toInt = toB (aI (G.2.1 (F (F a 3) 1))) 3 - toB b 3) ∨ (p2.toInt = 1 ∧ r.toInt = bsI (nn1 (cfin (clsA G (G.2.2.1 (F (F a 2) 0))) (clsT G (G.2.2.1 (F (F a 2) 0))) (clsC G (G.2.2.1 (F (F a 2) 0))) ([(p0.toInt, p1.toInt, 0, 0)], rfil (vw (G.2.1 (F (F a 3) 0))) p0.toInt p1.toInt (-2000) 3)) (vw (G.2.1 (F (F a 3) 0)))) 270) ∨ (p2.toInt = 2 ∧ AnsR ((G.1 a 18).toInt) r.toInt (gaL G (G.2.2.1 (F (F a 2) 1)) (vw (G.2.1 (F (F a 3) 0))) (cfin (clsA G (G.2.2.1 (F (F a 2) 0))) (clsT G (G.2.2.1 (F (F a 2) 0))) (clsC G (G.2.2.1 (F (F a 2) 0))) ([(p0.toInt, p1.toInt, 0, 0)], rfil (vw (G.2.1 (F (F a 3) 0))) p0.toInt p1.toInt (-2000) 3)) 0 (((G.1 (F a 2) 2).toInt)).toNat)) ∨ ((p2.toInt < 0 ∨ 2 < p2.toInt) ∧ r.toInt = -1))))) (fun u H => TW E K F u H)) 0 0 (xA E) := by
  refine x_enter (by decide) (Nat.le_of_ble_eq_true rfl) ?_
  intro p e s m args below meth c Q S hr hlk hnm hQ hP ls hl
  obtain ⟨hz, hK, hT⟩ := hP
  obtain ⟨hx, hb, -, -, -⟩ := id S
  obtain ⟨H, hT, hS, hgo⟩ : ∃ H : Heap, TW E K F G H ∧ va_S (xA E) s.heap H [] ∧ H = s.heap := ⟨_, hT, va_S.rf, rfl⟩
  rw [← hgo]
  have hl : lv_has ls 4 [(0, .ref a), (1, .int p0), (2, .int p1), (3, .int p2)] := hl
  obtain ⟨hk9999, hj9999⟩ := fkX10_11 hT ha
  obtain ⟨hk9999a, hj9999a⟩ := fkX10_9 hT ha
  obtain ⟨hk9999b, hj9999b⟩ := fkX10_12 hT ha
  obtain ⟨hk9999c, hj9999c⟩ := fkX1_0 hT hk9999
  obtain ⟨hk9999d, hj9999d⟩ := fkX1_1 hT hk9999
  obtain ⟨hk9999e, hj9999e⟩ := fkX1_2 hT hk9999
  obtain ⟨hk9999f, hj9999f⟩ := fkX4_0 hT hk9999a
  have hj9999g : F (F (F a 9) 0) 99 = 10 * 1 + 0 := by rw [hj9999f, hj9999a]
  obtain ⟨hk9999g, hj9999h⟩ := fkX4_1 hT hk9999a
  have hj9999i : F (F (F a 9) 1) 99 = 10 * 1 + 1 := by rw [hj9999h, hj9999a]
  obtain ⟨hk9999h, hj9999j⟩ := fkX4_2 hT hk9999a
  have hj9999k : F (F (F a 9) 2) 99 = 10 * 1 + 2 := by rw [hj9999j, hj9999a]
  obtain ⟨hk9999i, hj9999l⟩ := fkX4_3 hT hk9999a
  have hj9999m : F (F (F a 9) 3) 99 = 10 * 1 + 3 := by rw [hj9999l, hj9999a]
  obtain ⟨hk9999j, hj9999n⟩ := fkX4_4 hT hk9999a
  have hj9999o : F (F (F a 9) 4) 99 = 10 * 1 + 4 := by rw [hj9999n, hj9999a]
  obtain ⟨hk9999k, hj9999p⟩ := fkX4_5 hT hk9999a
  have hj9999q : F (F (F a 9) 5) 99 = 10 * 1 + 5 := by rw [hj9999p, hj9999a]
  obtain ⟨hk9999l, hj9999r⟩ := fkX10_5 hT ha
  obtain ⟨hk9999m, hj9999s⟩ := fkX6_0 hT hk9999l
  have hj9999t : F (F (F a 5) 0) 99 = 2 := by rw [hj9999s, hj9999r]
  obtain ⟨hk9999n, hj9999u⟩ := fkX6_1 hT hk9999l
  have hj9999v : F (F (F a 5) 1) 99 = 2 := by rw [hj9999u, hj9999r]
  obtain ⟨hk9999o, hj9999w⟩ := fkX2_0 hT hk9999b
  obtain ⟨hk9999p, hj9999y⟩ := fkX2_1 hT hk9999b
  obtain ⟨hk9999q, hj9999z25⟩ := fkX2_2 hT hk9999b
  obtain ⟨hk9999r, hj9999z26⟩ := fkX2_3 hT hk9999b
  obtain ⟨hk9999s, hj9999z27⟩ := fkX10_2 hT ha
  obtain ⟨hk9999t, hj9999z28⟩ := fkX0_1 hT hk9999s
  obtain ⟨hk9999u, hj9999z29⟩ := fkX0_0 hT hk9999s
  obtain ⟨hk9999v, hj9999z30⟩ := fkX10_3 hT ha
  obtain ⟨hk9999w, hj9999z31⟩ := fkX6_0 hT hk9999v
  have hj9999z32 : F (F (F a 3) 0) 99 = 0 := by rw [hj9999z31, hj9999z30]
  obtain ⟨hk9999y, hj9999z33⟩ := fkX6_1 hT hk9999v
  have hj9999z34 : F (F (F a 3) 1) 99 = 0 := by rw [hj9999z33, hj9999z30]
  refine lv_aload_n hx hb dX10_wouldCut_0 rfl (lv_at hl 0 rfl) ?_
  refine gX10_3 S hK hT ha kf_X10_37 dX10_wouldCut_1 (fun _ _ => ?_)
  refine lv_iload_n hx hb dX10_wouldCut_4 rfl (lv_at hl 1 rfl) ?_
  have z5 : ¬ (0 ≤ p0.toInt ∧ p0.toInt < 3 ∧ 0 ≤ p1.toInt ∧ p1.toInt < 30) → (cel (vw (G.2.1 (F (F a 3) 0))) (p0.toInt) (p1.toInt) 0) = -2000 := fun h9 => cel_out (by omega)
  refine lv_iload_n hx hb dX10_wouldCut_5 rfl (lv_at hl 2 rfl) ?_
  refine x_clp (x_runV (b := (F a 3)) (As := [.int p0, .int p1]) (rest := []) S (c_X6_has l E K F G H (F a 3) p0 p1 hk9999v (v_X10_wouldCut_6_1 (F := F) a G ron)) mv_X6_has km_X10_191 rfl rfl ⟨Nat.le_of_ble_eq_true rfl, Nat.le_of_ble_eq_true rfl⟩ (rc_8 hK hT hk9999v) hK (fun _ => XPh.blind) (fun U hU hW => XPh.at hK hz hS hT hU hW) rfl hl.1 (Nat.le_of_ble_eq_true rfl) dX10_wouldCut_6 ⟨Nat.le_of_ble_eq_true rfl, Nat.le_of_ble_eq_true rfl⟩) hS ?_
  rintro _ _ locs ⟨x6, rfl, b6, t6⟩ hS
  have t6 : (x6.toInt = 1 ∧ (cel (vw (G.2.1 (F (F a 3) 0))) (p0.toInt) (p1.toInt) 0) ≠ -2000) ∨ (x6.toInt = 0 ∧ (cel (vw (G.2.1 (F (F a 3) 0))) (p0.toInt) (p1.toInt) 0) = -2000) := t6
  refine xi_zne (tgt := 14) hx hb (rfl : Int32.toInt x6 = x6.toInt) dX10_wouldCut_9 (by decide) (fun c9 => ?_) (fun c9 => ?_)
  · refine lv_aload_n hx hb dX10_wouldCut_14 rfl (lv_at hl 0 rfl) ?_
    refine gX10_5 S hK hT ha kf_X10_44 dX10_wouldCut_15 (fun _ _ => ?_)
    refine lv_aload_n hx hb dX10_wouldCut_18 rfl (lv_at hl 0 rfl) ?_
    refine gX10_3 S hK hT ha kf_X10_37 dX10_wouldCut_19 (fun _ _ => ?_)
    refine x_cv0 (x_runV (b := (F a 5)) (As := [.ref (F a 3)]) (rest := []) S (c_X6_copy l E K F G (F a 5) (F a 3) hk9999l hk9999v (v_X10_wouldCut_22_2 (F := F) a G ron)) mv_X6_copy km_X10_195 rfl rfl ⟨Nat.le_of_ble_eq_true rfl, Nat.le_of_ble_eq_true rfl⟩ (rc_8 hK hT hk9999l) hK (fun _ => XP.blind) (fun U hU hW => XP.at hK hz hS hT hU hW) rfl hl.1 (Nat.le_of_ble_eq_true rfl) dX10_wouldCut_22 ⟨Nat.le_of_ble_eq_true rfl, Nat.le_of_ble_eq_true rfl⟩) hS ?_
    rintro G22 H locs ⟨hF22, oq22, oq22a⟩ hT hS
    have z25 : (cel (vw (G22.2.1 (F (F a 5) 0))) (p0.toInt) (p1.toInt) 0) = (cel (vw (G.2.1 (F (F a 3) 0))) (p0.toInt) (p1.toInt) 0) := by rw [oq22]
    refine lv_aload_n hx hb dX10_wouldCut_25 rfl (lv_at hl 0 rfl) ?_
    refine gX10_12 S hK hT ha kf_X10_77 dX10_wouldCut_26 (fun _ _ => ?_)
    refine lv_aload_n hx hb dX10_wouldCut_29 rfl (lv_at hl 0 rfl) ?_
    refine gX10_5 S hK hT ha kf_X10_44 dX10_wouldCut_30 (fun _ _ => ?_)
    refine lv_aload_n hx hb dX10_wouldCut_33 rfl (lv_at hl 0 rfl) ?_
    refine gX10_2 S hK hT ha kf_X10_30 dX10_wouldCut_34 (fun _ _ => ?_)
    refine lv_iload_n hx hb dX10_wouldCut_37 rfl (lv_at hl 1 rfl) ?_
    refine lv_iload_n hx hb dX10_wouldCut_38 rfl (lv_at hl 2 rfl) ?_
    refine x_cv0 (x_runV (b := (F a 12)) (As := [.ref (F a 5), .ref (F a 2), .int p0, .int p1]) (rest := []) S (c_X2_cutRow l E K F G22 (F a 12) (F a 5) (F a 2) p0 p1 hk9999b hk9999l hk9999s (z_X10_wouldCut_1 p0.toInt p1.toInt x6.toInt (cel (vw (G.2.1 (F (F a 3) 0))) (p0.toInt) (p1.toInt) 0) z5 t6 c9) (z_X10_wouldCut_2 x6.toInt (cel (vw (G.2.1 (F (F a 3) 0))) (p0.toInt) (p1.toInt) 0) (cel (vw (G22.2.1 (F (F a 5) 0))) (p0.toInt) (p1.toInt) 0) t6 c9 z25) (v_X10_wouldCut_39_3 (F := F) G22 a oq22a) (v_X10_wouldCut_39_4 (K := K) (F := F) a G G22 p0 p1 x6 ha hk9999 hj9999 hk9999a hj9999a hk9999b hj9999b hk9999c hj9999c hk9999d hj9999d hk9999e hj9999e hk9999f hj9999g hk9999g hj9999i hk9999h hj9999k hk9999i hj9999m hk9999j hj9999o hk9999k hj9999q hk9999l hj9999r hk9999m hj9999t hk9999n hj9999v hk9999o hj9999w hk9999p hj9999y hk9999q hj9999z25 hk9999r hj9999z26 hk9999s hj9999z27 hk9999t hj9999z28 hk9999u hj9999z29 hk9999v hj9999z30 hk9999w hj9999z32 hk9999y hj9999z34 (XFr.call XFr.rf hF22 xm0 (xm1 9 rfl (xm1 10 rfl xm0)) xm0) hF22 ron bko bkn hac oq22 oq22a sb z5 t6 c9 z25 (hF22.2.1 _ (xn1 (xne_k hk9999c hk9999m (by decide)) (xn1 (xne_j hj9999c hj9999v (by first | decide | omega)) xn0))) (hF22.2.1 _ (xn1 (xne_k hk9999d hk9999m (by decide)) (xn1 (xne_j hj9999d hj9999v (by first | decide | omega)) xn0))) (hF22.2.1 _ (xn1 (xne_k hk9999e hk9999m (by decide)) (xn1 (xne_k hk9999e hk9999n (by decide)) xn0))) (hF22.2.1 _ (xn1 (xne_k hk9999o hk9999m (by decide)) (xn1 (xne_k hk9999o hk9999n (by decide)) xn0))) (hF22.2.1 _ (xn1 (xne_k hk9999p hk9999m (by decide)) (xn1 (xne_k hk9999p hk9999n (by decide)) xn0))) (hF22.2.1 _ (xn1 (xne_k hk9999q hk9999m (by decide)) (xn1 (xne_k hk9999q hk9999n (by decide)) xn0))) (hF22.2.1 _ (xn1 (xne_k hk9999r hk9999m (by decide)) (xn1 (xne_k hk9999r hk9999n (by decide)) xn0))) (hF22.2.1 _ (xn1 (xne_k hk9999f hk9999m (by decide)) (xn1 (xne_k hk9999f hk9999n (by decide)) xn0))) (hF22.2.1 _ (xn1 (xne_k hk9999g hk9999m (by decide)) (xn1 (xne_k hk9999g hk9999n (by decide)) xn0))) (hF22.2.1 _ (xn1 (xne_k hk9999h hk9999m (by decide)) (xn1 (xne_k hk9999h hk9999n (by decide)) xn0))) (hF22.2.1 _ (xn1 (xne_k hk9999i hk9999m (by decide)) (xn1 (xne_k hk9999i hk9999n (by decide)) xn0))) (hF22.2.1 _ (xn1 (xne_k hk9999j hk9999m (by decide)) (xn1 (xne_k hk9999j hk9999n (by decide)) xn0))) (hF22.2.1 _ (xn1 (xne_k hk9999k hk9999m (by decide)) (xn1 (xne_k hk9999k hk9999n (by decide)) xn0))) (hF22.2.2 _ xn0) (hF22.1 _ _ xn0) (hF22.1 _ _ xn0) (hF22.1 _ _ xn0)) (v_X10_wouldCut_39_5 (K := K) (F := F) a G G22 p0 p1 x6 ha hk9999 hj9999 hk9999a hj9999a hk9999b hj9999b hk9999c hj9999c hk9999d hj9999d hk9999e hj9999e hk9999f hj9999g hk9999g hj9999i hk9999h hj9999k hk9999i hj9999m hk9999j hj9999o hk9999k hj9999q hk9999l hj9999r hk9999m hj9999t hk9999n hj9999v hk9999o hj9999w hk9999p hj9999y hk9999q hj9999z25 hk9999r hj9999z26 hk9999s hj9999z27 hk9999t hj9999z28 hk9999u hj9999z29 hk9999v hj9999z30 hk9999w hj9999z32 hk9999y hj9999z34 (XFr.call XFr.rf hF22 xm0 (xm1 9 rfl (xm1 10 rfl xm0)) xm0) hF22 ron bko bkn hac oq22 oq22a sb z5 t6 c9 z25 (hF22.2.1 _ (xn1 (xne_k hk9999c hk9999m (by decide)) (xn1 (xne_j hj9999c hj9999v (by first | decide | omega)) xn0))) (hF22.2.1 _ (xn1 (xne_k hk9999d hk9999m (by decide)) (xn1 (xne_j hj9999d hj9999v (by first | decide | omega)) xn0))) (hF22.2.1 _ (xn1 (xne_k hk9999e hk9999m (by decide)) (xn1 (xne_k hk9999e hk9999n (by decide)) xn0))) (hF22.2.1 _ (xn1 (xne_k hk9999o hk9999m (by decide)) (xn1 (xne_k hk9999o hk9999n (by decide)) xn0))) (hF22.2.1 _ (xn1 (xne_k hk9999p hk9999m (by decide)) (xn1 (xne_k hk9999p hk9999n (by decide)) xn0))) (hF22.2.1 _ (xn1 (xne_k hk9999q hk9999m (by decide)) (xn1 (xne_k hk9999q hk9999n (by decide)) xn0))) (hF22.2.1 _ (xn1 (xne_k hk9999r hk9999m (by decide)) (xn1 (xne_k hk9999r hk9999n (by decide)) xn0))) (hF22.2.1 _ (xn1 (xne_k hk9999f hk9999m (by decide)) (xn1 (xne_k hk9999f hk9999n (by decide)) xn0))) (hF22.2.1 _ (xn1 (xne_k hk9999g hk9999m (by decide)) (xn1 (xne_k hk9999g hk9999n (by decide)) xn0))) (hF22.2.1 _ (xn1 (xne_k hk9999h hk9999m (by decide)) (xn1 (xne_k hk9999h hk9999n (by decide)) xn0))) (hF22.2.1 _ (xn1 (xne_k hk9999i hk9999m (by decide)) (xn1 (xne_k hk9999i hk9999n (by decide)) xn0))) (hF22.2.1 _ (xn1 (xne_k hk9999j hk9999m (by decide)) (xn1 (xne_k hk9999j hk9999n (by decide)) xn0))) (hF22.2.1 _ (xn1 (xne_k hk9999k hk9999m (by decide)) (xn1 (xne_k hk9999k hk9999n (by decide)) xn0))) (hF22.2.2 _ xn0) (hF22.1 _ _ xn0) (hF22.1 _ _ xn0) (hF22.1 _ _ xn0))) mv_X2_cutRow km_X10_214 rfl rfl ⟨Nat.le_of_ble_eq_true rfl, Nat.le_of_ble_eq_true rfl⟩ (rc_4 hK hT hk9999b) hK (fun _ => XP.blind) (fun U hU hW => XP.at hK hz hS hT hU hW) rfl hl.1 (Nat.le_of_ble_eq_true rfl) dX10_wouldCut_39 ⟨Nat.le_of_ble_eq_true rfl, Nat.le_of_ble_eq_true rfl⟩) hS ?_
    rintro G39 H locs ⟨hF39, oq39, oq39a⟩ hT hS
    refine lv_iload_n hx hb dX10_wouldCut_42 rfl (lv_at hl 3 rfl) ?_
    rcases ((z_X10_wouldCut_3 p2.toInt) : (p2.toInt < 0 ∨ 2 < p2.toInt) ∨ (p2.toInt = 0) ∨ (p2.toInt = 1) ∨ (p2.toInt = 2)) with c43 | c43 | c43 | c43
    · refine lv_tableOut (tgt := 101) hx hb dX10_wouldCut_43 c43 (by decide) ?_
      refine lv_iconst (v := (-1)) hx hb dX10_wouldCut_101 (by decide) ?_
      exact x_ri hx hb hr hlk hQ (Nat.le_of_ble_eq_true rfl) (Nat.le_of_ble_eq_true rfl) hS dX10_wouldCut_102 G39 ⟨_, rfl, (XFr.call (XFr.call XFr.rf hF22 xm0 (xm1 9 rfl (xm1 10 rfl xm0)) xm0) hF39 (xm1 2 rfl xm0) (xm1 11 rfl (xm1 12 rfl (xm1 13 rfl (xm1 14 rfl (xm1 9 rfl (xm1 10 rfl xm0)))))) xm0), (by rw [((by decide) : Int32.toInt (-1) = (-1 : Int))] <;> exact (v_X10_wouldCut_102_6 (K := K) (F := F) a G G22 p0 p1 x6 p2 ha sb z5 t6 c9 z25 c43))⟩ hT
    · refine lv_tableIn (off := 25) (tgt := 68) hx hb dX10_wouldCut_43 (by rw [c43]; decide) (by rw [c43]; decide) (by rw [c43]; rfl) (by decide) ?_
      refine lv_aload_n hx hb dX10_wouldCut_68 rfl (lv_at hl 0 rfl) ?_
      refine gX10_3 S hK hT ha kf_X10_37 dX10_wouldCut_69 (fun _ _ => ?_)
      refine x_clp (x_runV (b := (F a 3)) (As := []) (rest := []) S (c_X6_total l E K F G39 H (F a 3) hk9999v (v_X10_wouldCut_72_7 (F := F) a G G39 G22 ron oq22a oq39a ((hF39.2.1 _ (xn1 (xne_k hk9999w hk9999o (by decide)) (xn1 (xne_k hk9999w hk9999p (by decide)) (xn1 (xne_k hk9999w hk9999q (by decide)) (xn1 (xne_k hk9999w hk9999r (by decide)) (xn1 (xne_j hj9999z32 hj9999t (by first | decide | omega)) (xn1 (xne_k hk9999w hk9999n (by decide)) xn0))))))).trans (hF22.2.1 _ (xn1 (xne_j hj9999z32 hj9999t (by first | decide | omega)) (xn1 (xne_k hk9999w hk9999n (by decide)) xn0)))) ((hF39.2.1 _ (xn1 (xne_k hk9999y hk9999o (by decide)) (xn1 (xne_k hk9999y hk9999p (by decide)) (xn1 (xne_k hk9999y hk9999q (by decide)) (xn1 (xne_k hk9999y hk9999r (by decide)) (xn1 (xne_k hk9999y hk9999m (by decide)) (xn1 (xne_j hj9999z34 hj9999v (by first | decide | omega)) xn0))))))).trans (hF22.2.1 _ (xn1 (xne_k hk9999y hk9999m (by decide)) (xn1 (xne_j hj9999z34 hj9999v (by first | decide | omega)) xn0)))))) mv_X6_total km_X10_222 rfl rfl ⟨Nat.le_of_ble_eq_true rfl, Nat.le_of_ble_eq_true rfl⟩ (rc_8 hK hT hk9999v) hK (fun _ => XPh.blind) (fun U hU hW => XPh.at hK hz hS hT hU hW) rfl hl.1 (Nat.le_of_ble_eq_true rfl) dX10_wouldCut_72 ⟨Nat.le_of_ble_eq_true rfl, Nat.le_of_ble_eq_true rfl⟩) hS ?_
      rintro _ _ locs ⟨x72, rfl, t72⟩ hS
      have t72 : x72.toInt = (toB (aI (G.2.1 (F (F a 3) 1))) 3) ∧ (0 ≤ x72.toInt ∧ x72.toInt ≤ 90) := by rw [(show G39.2.1 (F (F a 3) 1) = G.2.1 (F (F a 3) 1) from ((hF39.2.1 _ (xn1 (xne_k hk9999y hk9999o (by decide)) (xn1 (xne_k hk9999y hk9999p (by decide)) (xn1 (xne_k hk9999y hk9999q (by decide)) (xn1 (xne_k hk9999y hk9999r (by decide)) (xn1 (xne_k hk9999y hk9999m (by decide)) (xn1 (xne_j hj9999z34 hj9999v (by first | decide | omega)) xn0))))))).trans (hF22.2.1 _ (xn1 (xne_k hk9999y hk9999m (by decide)) (xn1 (xne_j hj9999z34 hj9999v (by first | decide | omega)) xn0)))))] at t72; exact t72
      refine lv_aload_n hx hb dX10_wouldCut_75 rfl (lv_at hl 0 rfl) ?_
      refine gX10_5 S hK hT ha kf_X10_44 dX10_wouldCut_76 (fun _ _ => ?_)
      refine x_clp (x_runV (b := (F a 5)) (As := []) (rest := [.int x72]) S (c_X6_total l E K F G39 H (F a 5) hk9999l (v_X10_wouldCut_79_8 (F := F) G39 a oq39a)) mv_X6_total km_X10_222 rfl rfl ⟨Nat.le_of_ble_eq_true rfl, Nat.le_of_ble_eq_true rfl⟩ (rc_8 hK hT hk9999l) hK (fun _ => XPh.blind) (fun U hU hW => XPh.at hK hz hS hT hU hW) rfl hl.1 (Nat.le_of_ble_eq_true rfl) dX10_wouldCut_79 ⟨Nat.le_of_ble_eq_true rfl, Nat.le_of_ble_eq_true rfl⟩) hS ?_
      rintro _ _ locs ⟨x79, rfl, t79⟩ hS
      have t79 : x79.toInt = (toB (aI (G39.2.1 (F (F a 5) 1))) 3) ∧ (0 ≤ x79.toInt ∧ x79.toInt ≤ 90) := t79
      refine xi_isub hx hb (rfl : Int32.toInt x72 = x72.toInt) (rfl : Int32.toInt x79 = x79.toInt) dX10_wouldCut_82 (fun x82 t82 => ?_)
      have e82 : x82.toInt = (x72.toInt - x79.toInt) := (z_X10_wouldCut_4 x72.toInt x79.toInt x82.toInt (toB (aI (G.2.1 (F (F a 3) 1))) 3) (toB (aI (G39.2.1 (F (F a 5) 1))) 3) t72 t79 t82)
      exact x_ri hx hb hr hlk hQ (Nat.le_of_ble_eq_true rfl) (Nat.le_of_ble_eq_true rfl) hS dX10_wouldCut_83 G39 ⟨_, rfl, (XFr.call (XFr.call XFr.rf hF22 xm0 (xm1 9 rfl (xm1 10 rfl xm0)) xm0) hF39 (xm1 2 rfl xm0) (xm1 11 rfl (xm1 12 rfl (xm1 13 rfl (xm1 14 rfl (xm1 9 rfl (xm1 10 rfl xm0)))))) xm0), (by rw [(e82 : Int32.toInt x82 = (x72.toInt - x79.toInt))] <;> exact (v_X10_wouldCut_83_9 (K := K) (F := F) a G G39 G22 p0 p1 x72 x79 x6 p2 ha hk9999 hj9999 hk9999a hj9999a hk9999b hj9999b hk9999c hj9999c hk9999d hj9999d hk9999e hj9999e hk9999f hj9999g hk9999g hj9999i hk9999h hj9999k hk9999i hj9999m hk9999j hj9999o hk9999k hj9999q hk9999l hj9999r hk9999m hj9999t hk9999n hj9999v hk9999o hj9999w hk9999p hj9999y hk9999q hj9999z25 hk9999r hj9999z26 hk9999s hj9999z27 hk9999t hj9999z28 hk9999u hj9999z29 hk9999v hj9999z30 hk9999w hj9999z32 hk9999y hj9999z34 hF22 bkn oq22 oq39 oq39a sb z5 t6 c9 z25 c43 t72 t79 (hF22.2.2 _ xn0)))⟩ hT
    · refine lv_tableIn (off := 41) (tgt := 84) hx hb dX10_wouldCut_43 (by rw [c43]; decide) (by rw [c43]; decide) (by rw [c43]; rfl) (by decide) ?_
      refine lv_aload_n hx hb dX10_wouldCut_84 rfl (lv_at hl 0 rfl) ?_
      refine gX10_5 S hK hT ha kf_X10_44 dX10_wouldCut_85 (fun _ _ => ?_)
      refine lv_aload_n hx hb dX10_wouldCut_88 rfl (lv_at hl 0 rfl) ?_
      refine gX10_3 S hK hT ha kf_X10_37 dX10_wouldCut_89 (fun _ _ => ?_)
      refine x_clp (x_runV (b := (F a 5)) (As := [.ref (F a 3)]) (rest := []) S (c_X6_newNulls l E K F G39 H (F a 5) (F a 3) hk9999l hk9999v) mv_X6_newNulls km_X10_355 rfl rfl ⟨Nat.le_of_ble_eq_true rfl, Nat.le_of_ble_eq_true rfl⟩ (rc_8 hK hT hk9999l) hK (fun _ => XPh.blind) (fun U hU hW => XPh.at hK hz hS hT hU hW) rfl hl.1 (Nat.le_of_ble_eq_true rfl) dX10_wouldCut_92 ⟨Nat.le_of_ble_eq_true rfl, Nat.le_of_ble_eq_true rfl⟩) hS ?_
      rintro _ _ locs ⟨x92, rfl, t92⟩ hS
      have t92 : x92.toInt = (bsI (nn1 (vw (G39.2.1 (F (F a 5) 0))) (vw (G.2.1 (F (F a 3) 0)))) 270) := by rw [(show G39.2.1 (F (F a 3) 0) = G.2.1 (F (F a 3) 0) from ((hF39.2.1 _ (xn1 (xne_k hk9999w hk9999o (by decide)) (xn1 (xne_k hk9999w hk9999p (by decide)) (xn1 (xne_k hk9999w hk9999q (by decide)) (xn1 (xne_k hk9999w hk9999r (by decide)) (xn1 (xne_j hj9999z32 hj9999t (by first | decide | omega)) (xn1 (xne_k hk9999w hk9999n (by decide)) xn0))))))).trans (hF22.2.1 _ (xn1 (xne_j hj9999z32 hj9999t (by first | decide | omega)) (xn1 (xne_k hk9999w hk9999n (by decide)) xn0)))))] at t92; exact t92
      exact x_ri hx hb hr hlk hQ (Nat.le_of_ble_eq_true rfl) (Nat.le_of_ble_eq_true rfl) hS dX10_wouldCut_95 G39 ⟨_, rfl, (XFr.call (XFr.call XFr.rf hF22 xm0 (xm1 9 rfl (xm1 10 rfl xm0)) xm0) hF39 (xm1 2 rfl xm0) (xm1 11 rfl (xm1 12 rfl (xm1 13 rfl (xm1 14 rfl (xm1 9 rfl (xm1 10 rfl xm0)))))) xm0), (by rw [(t92 : Int32.toInt x92 = (bsI (nn1 (vw (G39.2.1 (F (F a 5) 0))) (vw (G.2.1 (F (F a 3) 0)))) 270))] <;> exact (v_X10_wouldCut_95_10 (K := K) (F := F) a G G39 G22 p0 p1 x6 p2 ha hk9999 hj9999 hk9999a hj9999a hk9999b hj9999b hk9999c hj9999c hk9999d hj9999d hk9999e hj9999e hk9999f hj9999g hk9999g hj9999i hk9999h hj9999k hk9999i hj9999m hk9999j hj9999o hk9999k hj9999q hk9999l hj9999r hk9999m hj9999t hk9999n hj9999v hk9999o hj9999w hk9999p hj9999y hk9999q hj9999z25 hk9999r hj9999z26 hk9999s hj9999z27 hk9999t hj9999z28 hk9999u hj9999z29 hk9999v hj9999z30 hk9999w hj9999z32 hk9999y hj9999z34 hF22 bkn oq22 oq39 sb z5 t6 c9 z25 c43 (hF22.2.2 _ xn0)))⟩ hT
    · refine lv_tableIn (off := 53) (tgt := 96) hx hb dX10_wouldCut_43 (by rw [c43]; decide) (by rw [c43]; decide) (by rw [c43]; rfl) (by decide) ?_
      refine lv_aload_n hx hb dX10_wouldCut_96 rfl (lv_at hl 0 rfl) ?_
      refine x_cl0 (x_runV (b := a) (As := []) (rest := []) S (c_X10_answerOnPaper l E K F G39 a ha (by rw [(show (G39.1 (F a 2) 2).toInt = ((G.1 (F a 2) 2).toInt) from (congrArg Int32.toInt ((hF39.1 _ _ (xnj (by decide) xn0)).trans (hF22.1 _ _ xn0))).trans (rfl : Int32.toInt (G.1 (F a 2) 2) = ((G.1 (F a 2) 2).toInt)))] <;> exact (sb)) (v_X10_wouldCut_97_11 (F := F) a G G39 G22 ron oq22a oq39a ((hF39.2.1 _ (xn1 (xne_k hk9999w hk9999o (by decide)) (xn1 (xne_k hk9999w hk9999p (by decide)) (xn1 (xne_k hk9999w hk9999q (by decide)) (xn1 (xne_k hk9999w hk9999r (by decide)) (xn1 (xne_j hj9999z32 hj9999t (by first | decide | omega)) (xn1 (xne_k hk9999w hk9999n (by decide)) xn0))))))).trans (hF22.2.1 _ (xn1 (xne_j hj9999z32 hj9999t (by first | decide | omega)) (xn1 (xne_k hk9999w hk9999n (by decide)) xn0)))) ((hF39.2.1 _ (xn1 (xne_k hk9999y hk9999o (by decide)) (xn1 (xne_k hk9999y hk9999p (by decide)) (xn1 (xne_k hk9999y hk9999q (by decide)) (xn1 (xne_k hk9999y hk9999r (by decide)) (xn1 (xne_k hk9999y hk9999m (by decide)) (xn1 (xne_j hj9999z34 hj9999v (by first | decide | omega)) xn0))))))).trans (hF22.2.1 _ (xn1 (xne_k hk9999y hk9999m (by decide)) (xn1 (xne_j hj9999z34 hj9999v (by first | decide | omega)) xn0))))) (v_X10_wouldCut_97_12 (F := F) G39 a oq39a) (v_X10_wouldCut_97_13 (K := K) (F := F) a G G39 G22 p0 p1 x6 p2 ha hk9999 hj9999 hk9999a hj9999a hk9999b hj9999b hk9999c hj9999c hk9999d hj9999d hk9999e hj9999e hk9999f hj9999g hk9999g hj9999i hk9999h hj9999k hk9999i hj9999m hk9999j hj9999o hk9999k hj9999q hk9999l hj9999r hk9999m hj9999t hk9999n hj9999v hk9999o hj9999w hk9999p hj9999y hk9999q hj9999z25 hk9999r hj9999z26 hk9999s hj9999z27 hk9999t hj9999z28 hk9999u hj9999z29 hk9999v hj9999z30 hk9999w hj9999z32 hk9999y hj9999z34 (XFr.call (XFr.call XFr.rf hF22 xm0 (xm1 9 rfl (xm1 10 rfl xm0)) xm0) hF39 (xm1 2 rfl xm0) (xm1 11 rfl (xm1 12 rfl (xm1 13 rfl (xm1 14 rfl (xm1 9 rfl (xm1 10 rfl xm0)))))) xm0) hF22 hF39 ron bko bkn hac oq22 oq22a oq39 oq39a sb z5 t6 c9 z25 c43 ((hF39.2.1 _ (xn1 (xne_k hk9999c hk9999o (by decide)) (xn1 (xne_k hk9999c hk9999p (by decide)) (xn1 (xne_k hk9999c hk9999q (by decide)) (xn1 (xne_k hk9999c hk9999r (by decide)) (xn1 (xne_k hk9999c hk9999m (by decide)) (xn1 (xne_j hj9999c hj9999v (by first | decide | omega)) xn0))))))).trans (hF22.2.1 _ (xn1 (xne_k hk9999c hk9999m (by decide)) (xn1 (xne_j hj9999c hj9999v (by first | decide | omega)) xn0)))) ((hF39.2.1 _ (xn1 (xne_k hk9999d hk9999o (by decide)) (xn1 (xne_k hk9999d hk9999p (by decide)) (xn1 (xne_k hk9999d hk9999q (by decide)) (xn1 (xne_k hk9999d hk9999r (by decide)) (xn1 (xne_k hk9999d hk9999m (by decide)) (xn1 (xne_j hj9999d hj9999v (by first | decide | omega)) xn0))))))).trans (hF22.2.1 _ (xn1 (xne_k hk9999d hk9999m (by decide)) (xn1 (xne_j hj9999d hj9999v (by first | decide | omega)) xn0)))) ((hF39.2.1 _ (xn1 (xne_j hj9999e hj9999w (by first | decide | omega)) (xn1 (xne_j hj9999e hj9999y (by first | decide | omega)) (xn1 (xne_j hj9999e hj9999z25 (by first | decide | omega)) (xn1 (xne_j hj9999e hj9999z26 (by first | decide | omega)) (xn1 (xne_k hk9999e hk9999m (by decide)) (xn1 (xne_k hk9999e hk9999n (by decide)) xn0))))))).trans (hF22.2.1 _ (xn1 (xne_k hk9999e hk9999m (by decide)) (xn1 (xne_k hk9999e hk9999n (by decide)) xn0)))) ((hF39.2.1 _ (xn1 (xne_k hk9999f hk9999o (by decide)) (xn1 (xne_k hk9999f hk9999p (by decide)) (xn1 (xne_k hk9999f hk9999q (by decide)) (xn1 (xne_k hk9999f hk9999r (by decide)) (xn1 (xne_k hk9999f hk9999m (by decide)) (xn1 (xne_k hk9999f hk9999n (by decide)) xn0))))))).trans (hF22.2.1 _ (xn1 (xne_k hk9999f hk9999m (by decide)) (xn1 (xne_k hk9999f hk9999n (by decide)) xn0)))) ((hF39.2.1 _ (xn1 (xne_k hk9999g hk9999o (by decide)) (xn1 (xne_k hk9999g hk9999p (by decide)) (xn1 (xne_k hk9999g hk9999q (by decide)) (xn1 (xne_k hk9999g hk9999r (by decide)) (xn1 (xne_k hk9999g hk9999m (by decide)) (xn1 (xne_k hk9999g hk9999n (by decide)) xn0))))))).trans (hF22.2.1 _ (xn1 (xne_k hk9999g hk9999m (by decide)) (xn1 (xne_k hk9999g hk9999n (by decide)) xn0)))) ((hF39.2.1 _ (xn1 (xne_k hk9999h hk9999o (by decide)) (xn1 (xne_k hk9999h hk9999p (by decide)) (xn1 (xne_k hk9999h hk9999q (by decide)) (xn1 (xne_k hk9999h hk9999r (by decide)) (xn1 (xne_k hk9999h hk9999m (by decide)) (xn1 (xne_k hk9999h hk9999n (by decide)) xn0))))))).trans (hF22.2.1 _ (xn1 (xne_k hk9999h hk9999m (by decide)) (xn1 (xne_k hk9999h hk9999n (by decide)) xn0)))) ((hF39.2.1 _ (xn1 (xne_k hk9999i hk9999o (by decide)) (xn1 (xne_k hk9999i hk9999p (by decide)) (xn1 (xne_k hk9999i hk9999q (by decide)) (xn1 (xne_k hk9999i hk9999r (by decide)) (xn1 (xne_k hk9999i hk9999m (by decide)) (xn1 (xne_k hk9999i hk9999n (by decide)) xn0))))))).trans (hF22.2.1 _ (xn1 (xne_k hk9999i hk9999m (by decide)) (xn1 (xne_k hk9999i hk9999n (by decide)) xn0)))) ((hF39.2.1 _ (xn1 (xne_k hk9999j hk9999o (by decide)) (xn1 (xne_k hk9999j hk9999p (by decide)) (xn1 (xne_k hk9999j hk9999q (by decide)) (xn1 (xne_k hk9999j hk9999r (by decide)) (xn1 (xne_k hk9999j hk9999m (by decide)) (xn1 (xne_k hk9999j hk9999n (by decide)) xn0))))))).trans (hF22.2.1 _ (xn1 (xne_k hk9999j hk9999m (by decide)) (xn1 (xne_k hk9999j hk9999n (by decide)) xn0)))) ((hF39.2.1 _ (xn1 (xne_k hk9999k hk9999o (by decide)) (xn1 (xne_k hk9999k hk9999p (by decide)) (xn1 (xne_k hk9999k hk9999q (by decide)) (xn1 (xne_k hk9999k hk9999r (by decide)) (xn1 (xne_k hk9999k hk9999m (by decide)) (xn1 (xne_k hk9999k hk9999n (by decide)) xn0))))))).trans (hF22.2.1 _ (xn1 (xne_k hk9999k hk9999m (by decide)) (xn1 (xne_k hk9999k hk9999n (by decide)) xn0)))) (hF22.2.2 _ xn0) ((hF39.2.2 _ xn0).trans (hF22.2.2 _ xn0)) ((hF39.1 _ _ (xnj (by decide) xn0)).trans (hF22.1 _ _ xn0)) ((hF39.1 _ _ (xnj (by decide) xn0)).trans (hF22.1 _ _ xn0)))) mv_X10_answerOnPaper km_X10_352 rfl rfl ⟨Nat.le_of_ble_eq_true rfl, Nat.le_of_ble_eq_true rfl⟩ (rc_12 hK hT ha) hK (fun _ => XP.blind) (fun U hU hW => XP.at hK hz hS hT hU hW) rfl hl.1 (Nat.le_of_ble_eq_true rfl) dX10_wouldCut_97 ⟨Nat.le_of_ble_eq_true rfl, Nat.le_of_ble_eq_true rfl⟩) hS ?_
      rintro _ G97 H locs ⟨x97, rfl, hF97, oq97⟩ hT hS
      have oq97 : AnsR ((G.1 a 18).toInt) x97.toInt (gaL G39 (G39.2.2.1 (F (F a 2) 1)) (vw (G.2.1 (F (F a 3) 0))) (vw (G39.2.1 (F (F a 5) 0))) 0 (((G.1 (F a 2) 2).toInt)).toNat) := by simp only [(show G39.1 a 18 = G.1 a 18 from ((hF39.1 _ _ (xnj (by decide) xn0)).trans (hF22.1 _ _ xn0))), (show G39.2.1 (F (F a 3) 0) = G.2.1 (F (F a 3) 0) from ((hF39.2.1 _ (xn1 (xne_k hk9999w hk9999o (by decide)) (xn1 (xne_k hk9999w hk9999p (by decide)) (xn1 (xne_k hk9999w hk9999q (by decide)) (xn1 (xne_k hk9999w hk9999r (by decide)) (xn1 (xne_j hj9999z32 hj9999t (by first | decide | omega)) (xn1 (xne_k hk9999w hk9999n (by decide)) xn0))))))).trans (hF22.2.1 _ (xn1 (xne_j hj9999z32 hj9999t (by first | decide | omega)) (xn1 (xne_k hk9999w hk9999n (by decide)) xn0))))), (show G39.1 (F a 2) 2 = G.1 (F a 2) 2 from ((hF39.1 _ _ (xnj (by decide) xn0)).trans (hF22.1 _ _ xn0)))] at oq97; exact oq97
      exact x_ri hx hb hr hlk hQ (Nat.le_of_ble_eq_true rfl) (Nat.le_of_ble_eq_true rfl) hS dX10_wouldCut_100 G97 ⟨_, rfl, (XFr.call (XFr.call (XFr.call XFr.rf hF22 xm0 (xm1 9 rfl (xm1 10 rfl xm0)) xm0) hF39 (xm1 2 rfl xm0) (xm1 11 rfl (xm1 12 rfl (xm1 13 rfl (xm1 14 rfl (xm1 9 rfl (xm1 10 rfl xm0)))))) xm0) hF97 (xm1 0 rfl (xm1 1 rfl xm0)) (xm1 0 rfl (xm1 1 rfl (xm1 2 rfl (xm1 3 rfl (xm1 4 rfl (xm1 5 rfl (xm1 6 rfl (xm1 7 rfl (xm1 8 rfl xm0))))))))) xm0), (v_X10_wouldCut_100_14 (K := K) (F := F) a G G22 G39 p0 p1 x97 x6 p2 ha hk9999 hj9999 hk9999a hj9999a hk9999b hj9999b hk9999c hj9999c hk9999d hj9999d hk9999e hj9999e hk9999f hj9999g hk9999g hj9999i hk9999h hj9999k hk9999i hj9999m hk9999j hj9999o hk9999k hj9999q hk9999l hj9999r hk9999m hj9999t hk9999n hj9999v hk9999o hj9999w hk9999p hj9999y hk9999q hj9999z25 hk9999r hj9999z26 hk9999s hj9999z27 hk9999t hj9999z28 hk9999u hj9999z29 hk9999v hj9999z30 hk9999w hj9999z32 hk9999y hj9999z34 hF22 hF39 bko bkn oq22 oq39 oq97 sb z5 t6 c9 z25 c43 (hF22.2.2 _ xn0) ((hF39.2.2 _ xn0).trans (hF22.2.2 _ xn0)))⟩ hT
  · refine lv_iconst (v := (-1)) hx hb dX10_wouldCut_12 (by decide) ?_
    exact x_ri hx hb hr hlk hQ (Nat.le_of_ble_eq_true rfl) (Nat.le_of_ble_eq_true rfl) hS dX10_wouldCut_13 G ⟨_, rfl, XFr.rf, (by rw [((by decide) : Int32.toInt (-1) = (-1 : Int))] <;> exact (v_X10_wouldCut_13_15 (K := K) (F := F) a G p0 p1 x6 p2 ha sb z5 t6 c9))⟩ hT
theorem v_X3_clear_25_1 {K : Nat → Nat} {F : Nat → Nat → Nat} (a : Nat) (G_7 : XG) (l1_7 : Int32) (N7 : Nat)
    (ha : K a = 5)
    (pz : ∀ t : Int, 0 ≤ t → t < l1_7.toInt → aI (G_7.2.1 (F a 0)) t = 0)
    (I7_0 : 0 ≤ l1_7.toInt ∧ l1_7.toInt ≤ 3)
    (I7_1 : (0 : Int) ≤ l1_7.toInt)
    (hm7 : 2147483648 - l1_7.toInt < (((N7) + 1 : Nat) : Int))
    (c9 : (3 : Int) ≤ l1_7.toInt) :
    ∀ t : Int, 0 ≤ t → t < 3 → aI (G_7.2.1 (F a 0)) t = 0 := by
  intro t h1 h2
  exact pz t h1 (by omega)
theorem v_X3_clear_22_2 {K : Nat → Nat} {F : Nat → Nat → Nat} (a : Nat) (G_7 : XG) (G18 : XG) (l1_7 : Int32) (N7 : Nat)
    (ha : K a = 5)
    (hG18 : G18 = cput G_7 (F a 0) l1_7.toNatClampNeg 0)
    (pz : ∀ t : Int, 0 ≤ t → t < l1_7.toInt → aI (G_7.2.1 (F a 0)) t = 0)
    (I7_0 : 0 ≤ l1_7.toInt ∧ l1_7.toInt ≤ 3)
    (I7_1 : (0 : Int) ≤ l1_7.toInt)
    (hm7 : 2147483648 - l1_7.toInt < (((N7) + 1 : Nat) : Int))
    (c9 : ¬ ((3 : Int) ≤ l1_7.toInt)) :
    ∀ t : Int, 0 ≤ t → t < (l1_7.toInt + 1) → aI (G18.2.1 (F a 0)) t = 0 := by
  intro t h1 h2
  rw [hG18, aI_put (by omega) _ h1]
  by_cases e : t = l1_7.toInt
  · rw [if_pos e]; decide
  · rw [if_neg e]; exact pz t h1 (by omega)
theorem v_X3_clear_6_3 {K : Nat → Nat} {F : Nat → Nat → Nat} (a : Nat) (G2 : XG)
    (ha : K a = 5) :
    ∀ t : Int, 0 ≤ t → t < (0 : Int) → aI (G2.2.1 (F a 0)) t = 0 := by
  intro t h1 h2
  exact absurd h1 (by omega)
theorem v_X3_reach_27_1 {K : Nat → Nat} {F : Nat → Nat → Nat} (a : Nat) (G : XG) (x1 : Int32) (p0 : Int32) (p1 : Int32)
    (ha : K a = 5)
    (li : LIv (aI (G.2.1 (F a 0))) (aI (G.2.1 (F a 1))) (aI (G.2.1 (F a 2))) ((G.1 a 3).toInt))
    (t1 : (x1.toInt = 1 ∧ 0 ≤ p0.toInt ∧ p0.toInt < 3) ∨ (x1.toInt = 0 ∧ (p0.toInt < 0 ∨ 3 ≤ p0.toInt)))
    (c4 : x1.toInt = 0) :
    LGo (aI (G.2.1 (F a 0))) (aI (G.2.1 (F a 1))) (aI (G.2.1 (F a 2))) ((G.1 a 3).toInt) (aI (G.2.1 (F a 0))) (aI (G.2.1 (F a 1))) (aI (G.2.1 (F a 2))) ((G.1 a 3).toInt) (fun u9 k9 => u9 = p0.toInt ∧ k9 = p1.toInt) := by
  refine LGo_same li (fun u9 k9 h1 h2 => ?_)
  obtain ⟨h2, h3⟩ := h2
  unfold inR at h1
  first
    | (exfalso; omega)
    | (rw [h2, h3]; omega)
theorem v_X3_reach_27_2 {K : Nat → Nat} {F : Nat → Nat → Nat} (a : Nat) (G : XG) (x1 : Int32) (p0 : Int32) (x8 : Int32) (p1 : Int32)
    (ha : K a = 5)
    (li : LIv (aI (G.2.1 (F a 0))) (aI (G.2.1 (F a 1))) (aI (G.2.1 (F a 2))) ((G.1 a 3).toInt))
    (t1 : (x1.toInt = 1 ∧ 0 ≤ p0.toInt ∧ p0.toInt < 3) ∨ (x1.toInt = 0 ∧ (p0.toInt < 0 ∨ 3 ≤ p0.toInt)))
    (c4 : ¬ (x1.toInt = 0))
    (t8 : (x8.toInt = 1 ∧ 0 ≤ p1.toInt ∧ p1.toInt < 30) ∨ (x8.toInt = 0 ∧ (p1.toInt < 0 ∨ 30 ≤ p1.toInt)))
    (c11 : x8.toInt = 0) :
    LGo (aI (G.2.1 (F a 0))) (aI (G.2.1 (F a 1))) (aI (G.2.1 (F a 2))) ((G.1 a 3).toInt) (aI (G.2.1 (F a 0))) (aI (G.2.1 (F a 1))) (aI (G.2.1 (F a 2))) ((G.1 a 3).toInt) (fun u9 k9 => u9 = p0.toInt ∧ k9 = p1.toInt) := by
  refine LGo_same li (fun u9 k9 h1 h2 => ?_)
  obtain ⟨h2, h3⟩ := h2
  unfold inR at h1
  first
    | (exfalso; omega)
    | (rw [h2, h3]; omega)
theorem v_X3_reach_86_3 {K : Nat → Nat} {F : Nat → Nat → Nat} (a : Nat) (G : XG) (x19 : Int32) (p0 : Int32) (x21 : Int32) (p1 : Int32) (x23 : Int32) (x1 : Int32) (x8 : Int32)
    (ha : K a = 5)
    (li : LIv (aI (G.2.1 (F a 0))) (aI (G.2.1 (F a 1))) (aI (G.2.1 (F a 2))) ((G.1 a 3).toInt))
    (hv19 : x19.toInt = (aI (G.2.1 (F a 0)) (p0.toInt)))
    (he21 : x21 = (x19 : Int32) >>> (p1 &&& 31))
    (he23 : x23 = x21 &&& 1)
    (t1 : (x1.toInt = 1 ∧ 0 ≤ p0.toInt ∧ p0.toInt < 3) ∨ (x1.toInt = 0 ∧ (p0.toInt < 0 ∨ 3 ≤ p0.toInt)))
    (c4 : ¬ (x1.toInt = 0))
    (t8 : (x8.toInt = 1 ∧ 0 ≤ p1.toInt ∧ p1.toInt < 30) ∨ (x8.toInt = 0 ∧ (p1.toInt < 0 ∨ 30 ≤ p1.toInt)))
    (c11 : ¬ (x8.toInt = 0))
    (hb23 : x23.toInt = (bI (aI (G.2.1 (F a 0)) (p0.toInt)) (p1.toInt)))
    (hb23a : x23.toInt = 0 ∨ x23.toInt = 1)
    (c24 : x23.toInt = 0)
    (c32 : ((G.1 a 3).toInt) < 0) :
    LGo (aI (G.2.1 (F a 0))) (aI (G.2.1 (F a 1))) (aI (G.2.1 (F a 2))) ((G.1 a 3).toInt) (aI (G.2.1 (F a 0))) (aI (G.2.1 (F a 1))) (aI (G.2.1 (F a 2))) ((G.1 a 3).toInt) (fun u9 k9 => u9 = p0.toInt ∧ k9 = p1.toInt) := by
  have hb := li.b
  first
    | (exfalso; omega)
    | (have hin : inR p0.toInt p1.toInt := ⟨by omega, by omega⟩
       have h0 : bI (aI (G.2.1 (F a 0)) p0.toInt) p1.toInt = 0 := by omega
       have hl := li.lt hin h0
       first
         | (exfalso; omega)
         | (refine LGo_add li hin h0 ?_ ?_ ?_ ?_ ?_
            · rw [d_G83_a_3]; omega
            · intro t t0 ht
              rw [c_G83_F_a_0, hG55, aI_put (by omega) _ t0, if_neg ht]
            · intro j j0 j1
              rw [c_G83_F_a_0, hG55, aI_put (by omega) _ (by omega), if_pos rfl]
              exact bI_set he53 he54 hv50 rfl (by omega) j j0 j1
            · intro z z0
              rw [c_G83_F_a_1, hG65, aI_put (by omega) _ z0, c_G55_F_a_1]
            · intro z z0
              rw [c_G83_F_a_2, hG75, aI_put (by omega) _ z0, c_G65_F_a_2]))
theorem v_X3_reach_86_4 {K : Nat → Nat} {F : Nat → Nat → Nat} (a : Nat) (G : XG) (x19 : Int32) (p0 : Int32) (x21 : Int32) (p1 : Int32) (x23 : Int32) (x1 : Int32) (x8 : Int32)
    (ha : K a = 5)
    (li : LIv (aI (G.2.1 (F a 0))) (aI (G.2.1 (F a 1))) (aI (G.2.1 (F a 2))) ((G.1 a 3).toInt))
    (hv19 : x19.toInt = (aI (G.2.1 (F a 0)) (p0.toInt)))
    (he21 : x21 = (x19 : Int32) >>> (p1 &&& 31))
    (he23 : x23 = x21 &&& 1)
    (t1 : (x1.toInt = 1 ∧ 0 ≤ p0.toInt ∧ p0.toInt < 3) ∨ (x1.toInt = 0 ∧ (p0.toInt < 0 ∨ 3 ≤ p0.toInt)))
    (c4 : ¬ (x1.toInt = 0))
    (t8 : (x8.toInt = 1 ∧ 0 ≤ p1.toInt ∧ p1.toInt < 30) ∨ (x8.toInt = 0 ∧ (p1.toInt < 0 ∨ 30 ≤ p1.toInt)))
    (c11 : ¬ (x8.toInt = 0))
    (hb23 : x23.toInt = (bI (aI (G.2.1 (F a 0)) (p0.toInt)) (p1.toInt)))
    (hb23a : x23.toInt = 0 ∨ x23.toInt = 1)
    (c24 : x23.toInt = 0)
    (c32 : ¬ (((G.1 a 3).toInt) < 0))
    (c41 : (90 : Int) ≤ ((G.1 a 3).toInt)) :
    LGo (aI (G.2.1 (F a 0))) (aI (G.2.1 (F a 1))) (aI (G.2.1 (F a 2))) ((G.1 a 3).toInt) (aI (G.2.1 (F a 0))) (aI (G.2.1 (F a 1))) (aI (G.2.1 (F a 2))) ((G.1 a 3).toInt) (fun u9 k9 => u9 = p0.toInt ∧ k9 = p1.toInt) := by
  have hb := li.b
  first
    | (exfalso; omega)
    | (have hin : inR p0.toInt p1.toInt := ⟨by omega, by omega⟩
       have h0 : bI (aI (G.2.1 (F a 0)) p0.toInt) p1.toInt = 0 := by omega
       have hl := li.lt hin h0
       first
         | (exfalso; omega)
         | (refine LGo_add li hin h0 ?_ ?_ ?_ ?_ ?_
            · rw [d_G83_a_3]; omega
            · intro t t0 ht
              rw [c_G83_F_a_0, hG55, aI_put (by omega) _ t0, if_neg ht]
            · intro j j0 j1
              rw [c_G83_F_a_0, hG55, aI_put (by omega) _ (by omega), if_pos rfl]
              exact bI_set he53 he54 hv50 rfl (by omega) j j0 j1
            · intro z z0
              rw [c_G83_F_a_1, hG65, aI_put (by omega) _ z0, c_G55_F_a_1]
            · intro z z0
              rw [c_G83_F_a_2, hG75, aI_put (by omega) _ z0, c_G65_F_a_2]))
theorem v_X3_reach_86_5 {K : Nat → Nat} {F : Nat → Nat → Nat} (a : Nat) (G55 : XG) (G : XG) (p0 : Int32) (x54 : Int32) (G65 : XG) (G75 : XG) (p1 : Int32) (G83 : XG) (x82 : Int32) (x19 : Int32) (x21 : Int32) (x23 : Int32) (x50 : Int32) (x53 : Int32) (x1 : Int32) (x8 : Int32)
    (ha : K a = 5)
    (hG55 : G55 = cput G (F a 0) p0.toNatClampNeg x54)
    (hG65 : G65 = cput G55 (F a 1) (G.1 a 3).toNatClampNeg p0)
    (hG75 : G75 = cput G65 (F a 2) (G.1 a 3).toNatClampNeg p1)
    (li : LIv (aI (G.2.1 (F a 0))) (aI (G.2.1 (F a 1))) (aI (G.2.1 (F a 2))) ((G.1 a 3).toInt))
    (hv19 : x19.toInt = (aI (G.2.1 (F a 0)) (p0.toInt)))
    (he21 : x21 = (x19 : Int32) >>> (p1 &&& 31))
    (he23 : x23 = x21 &&& 1)
    (hv50 : x50.toInt = (aI (G.2.1 (F a 0)) (p0.toInt)))
    (he53 : x53 = (1 : Int32) <<< (p1 &&& 31))
    (he54 : x54 = x50 ||| x53)
    (e82 : x82.toInt = (((G.1 a 3).toInt) + (1 : Int)))
    (t1 : (x1.toInt = 1 ∧ 0 ≤ p0.toInt ∧ p0.toInt < 3) ∨ (x1.toInt = 0 ∧ (p0.toInt < 0 ∨ 3 ≤ p0.toInt)))
    (c4 : ¬ (x1.toInt = 0))
    (t8 : (x8.toInt = 1 ∧ 0 ≤ p1.toInt ∧ p1.toInt < 30) ∨ (x8.toInt = 0 ∧ (p1.toInt < 0 ∨ 30 ≤ p1.toInt)))
    (c11 : ¬ (x8.toInt = 0))
    (hb23 : x23.toInt = (bI (aI (G.2.1 (F a 0)) (p0.toInt)) (p1.toInt)))
    (hb23a : x23.toInt = 0 ∨ x23.toInt = 1)
    (c24 : x23.toInt = 0)
    (c32 : ¬ (((G.1 a 3).toInt) < 0))
    (c41 : ¬ ((90 : Int) ≤ ((G.1 a 3).toInt)))
    (c_G55_F_a_1 : G55.2.1 (F a 1) = G.2.1 (F a 1))
    (c_G65_F_a_2 : G65.2.1 (F a 2) = G.2.1 (F a 2))
    (c_G83_F_a_0 : G83.2.1 (F a 0) = G55.2.1 (F a 0))
    (c_G83_F_a_1 : G83.2.1 (F a 1) = G65.2.1 (F a 1))
    (c_G83_F_a_2 : G83.2.1 (F a 2) = G75.2.1 (F a 2))
    (d_G83_a_3 : G83.1 a 3 = x82) :
    LGo (aI (G.2.1 (F a 0))) (aI (G.2.1 (F a 1))) (aI (G.2.1 (F a 2))) ((G.1 a 3).toInt) (aI (G83.2.1 (F a 0))) (aI (G83.2.1 (F a 1))) (aI (G83.2.1 (F a 2))) ((G83.1 a 3).toInt) (fun u9 k9 => u9 = p0.toInt ∧ k9 = p1.toInt) := by
  have hb := li.b
  first
    | (exfalso; omega)
    | (have hin : inR p0.toInt p1.toInt := ⟨by omega, by omega⟩
       have h0 : bI (aI (G.2.1 (F a 0)) p0.toInt) p1.toInt = 0 := by omega
       have hl := li.lt hin h0
       first
         | (exfalso; omega)
         | (refine LGo_add li hin h0 ?_ ?_ ?_ ?_ ?_
            · rw [d_G83_a_3]; omega
            · intro t t0 ht
              rw [c_G83_F_a_0, hG55, aI_put (by omega) _ t0, if_neg ht]
            · intro j j0 j1
              rw [c_G83_F_a_0, hG55, aI_put (by omega) _ (by omega), if_pos rfl]
              exact bI_set he53 he54 hv50 rfl (by omega) j j0 j1
            · intro z z0
              rw [c_G83_F_a_1, hG65, aI_put (by omega) _ z0, c_G55_F_a_1]
            · intro z z0
              rw [c_G83_F_a_2, hG75, aI_put (by omega) _ z0, c_G65_F_a_2]))
theorem v_X3_reach_27_6 {K : Nat → Nat} {F : Nat → Nat → Nat} (a : Nat) (G : XG) (x19 : Int32) (p0 : Int32) (x21 : Int32) (p1 : Int32) (x23 : Int32) (x1 : Int32) (x8 : Int32)
    (ha : K a = 5)
    (li : LIv (aI (G.2.1 (F a 0))) (aI (G.2.1 (F a 1))) (aI (G.2.1 (F a 2))) ((G.1 a 3).toInt))
    (hv19 : x19.toInt = (aI (G.2.1 (F a 0)) (p0.toInt)))
    (he21 : x21 = (x19 : Int32) >>> (p1 &&& 31))
    (he23 : x23 = x21 &&& 1)
    (t1 : (x1.toInt = 1 ∧ 0 ≤ p0.toInt ∧ p0.toInt < 3) ∨ (x1.toInt = 0 ∧ (p0.toInt < 0 ∨ 3 ≤ p0.toInt)))
    (c4 : ¬ (x1.toInt = 0))
    (t8 : (x8.toInt = 1 ∧ 0 ≤ p1.toInt ∧ p1.toInt < 30) ∨ (x8.toInt = 0 ∧ (p1.toInt < 0 ∨ 30 ≤ p1.toInt)))
    (c11 : ¬ (x8.toInt = 0))
    (hb23 : x23.toInt = (bI (aI (G.2.1 (F a 0)) (p0.toInt)) (p1.toInt)))
    (hb23a : x23.toInt = 0 ∨ x23.toInt = 1)
    (c24 : ¬ (x23.toInt = 0)) :
    LGo (aI (G.2.1 (F a 0))) (aI (G.2.1 (F a 1))) (aI (G.2.1 (F a 2))) ((G.1 a 3).toInt) (aI (G.2.1 (F a 0))) (aI (G.2.1 (F a 1))) (aI (G.2.1 (F a 2))) ((G.1 a 3).toInt) (fun u9 k9 => u9 = p0.toInt ∧ k9 = p1.toInt) := by
  refine LGo_same li (fun u9 k9 h1 h2 => ?_)
  obtain ⟨h2, h3⟩ := h2
  unfold inR at h1
  first
    | (exfalso; omega)
    | (rw [h2, h3]; omega)
theorem v_X3_reachFrom_100_1 {K : Nat → Nat} {F : Nat → Nat → Nat} (a : Nat) (p0 : Nat) (p1 : Nat) (G : XG) (G_3 : XG) (l5_3 : Int32) (p2 : Int32) (p3 : Int32) (N3 : Nat)
    (ha : K a = 5)
    (hp0 : K p0 = 8)
    (hp1 : K p1 = 2)
    (li : LIv (aI (G.2.1 (F a 0))) (aI (G.2.1 (F a 1))) (aI (G.2.1 (F a 2))) ((G.1 a 3).toInt))
    (pl : LGo (aI (G.2.1 (F a 0))) (aI (G.2.1 (F a 1))) (aI (G.2.1 (F a 2))) ((G.1 a 3).toInt) (aI (G_3.2.1 (F a 0))) (aI (G_3.2.1 (F a 1))) (aI (G_3.2.1 (F a 2))) ((G_3.1 a 3).toInt) (fun u9 k9 => lnC G (G.2.2.1 (F p1 1)) (vw (G.2.1 (F p0 0))) l5_3.toInt u9 k9 p2.toInt p3.toInt))
    (sb : 0 ≤ ((G.1 p1 2).toInt) ∧ ((G.1 p1 2).toInt) ≤ 12)
    (I3_0 : 0 ≤ l5_3.toInt ∧ l5_3.toInt ≤ ((G.1 p1 2).toInt))
    (hm3 : 2147483648 - l5_3.toInt < (((N3) + 1 : Nat) : Int))
    (c9 : ((G.1 p1 2).toInt) ≤ l5_3.toInt) :
    LGo (aI (G.2.1 (F a 0))) (aI (G.2.1 (F a 1))) (aI (G.2.1 (F a 2))) ((G.1 a 3).toInt) (aI (G_3.2.1 (F a 0))) (aI (G_3.2.1 (F a 1))) (aI (G_3.2.1 (F a 2))) ((G_3.1 a 3).toInt) (fun u9 k9 => lnC G (G.2.2.1 (F p1 1)) (vw (G.2.1 (F p0 0))) ((G.1 p1 2).toInt) u9 k9 p2.toInt p3.toInt) := by
  exact pl.cg (fun u9 k9 _ => by rw [show l5_3.toInt = (G.1 p1 2).toInt from by omega])
theorem v_X3_reachFrom_97_2 {K : Nat → Nat} {F : Nat → Nat → Nat} (a : Nat) (p0 : Nat) (p1 : Nat) (G : XG) (G_3 : XG) (l5_3 : Int32) (p2 : Int32) (p3 : Int32) (N3 : Nat)
    (ha : K a = 5)
    (hp0 : K p0 = 8)
    (hp1 : K p1 = 2)
    (li : LIv (aI (G.2.1 (F a 0))) (aI (G.2.1 (F a 1))) (aI (G.2.1 (F a 2))) ((G.1 a 3).toInt))
    (pl : LGo (aI (G.2.1 (F a 0))) (aI (G.2.1 (F a 1))) (aI (G.2.1 (F a 2))) ((G.1 a 3).toInt) (aI (G_3.2.1 (F a 0))) (aI (G_3.2.1 (F a 1))) (aI (G_3.2.1 (F a 2))) ((G_3.1 a 3).toInt) (fun u9 k9 => lnC G (G.2.2.1 (F p1 1)) (vw (G.2.1 (F p0 0))) l5_3.toInt u9 k9 p2.toInt p3.toInt))
    (hn15 : (l5_3.toInt < 0 ∨ ((G_3.1 p1 2).toInt) ≤ l5_3.toInt ∨ 12 ≤ l5_3.toInt) ∨ G_3.2.2.1 (F p1 1) (l5_3.toInt).toNat = none)
    (sb : 0 ≤ ((G.1 p1 2).toInt) ∧ ((G.1 p1 2).toInt) ≤ 12)
    (I3_0 : 0 ≤ l5_3.toInt ∧ l5_3.toInt ≤ ((G.1 p1 2).toInt))
    (hm3 : 2147483648 - l5_3.toInt < (((N3) + 1 : Nat) : Int))
    (c9 : ¬ (((G.1 p1 2).toInt) ≤ l5_3.toInt))
    (r_G_3_F_p1_1 : G_3.2.2.1 (F p1 1) = G.2.2.1 (F p1 1))
    (d_G_3_p1_2 : G_3.1 p1 2 = G.1 p1 2) :
    LGo (aI (G.2.1 (F a 0))) (aI (G.2.1 (F a 1))) (aI (G.2.1 (F a 2))) ((G.1 a 3).toInt) (aI (G_3.2.1 (F a 0))) (aI (G_3.2.1 (F a 1))) (aI (G_3.2.1 (F a 2))) ((G_3.1 a 3).toInt) (fun u9 k9 => lnC G (G.2.2.1 (F p1 1)) (vw (G.2.1 (F p0 0))) (l5_3.toInt + 1) u9 k9 p2.toInt p3.toInt) := by
  first
    | (refine pl.cg (fun u9 k9 _ => (lnC_s (by omega)).trans ⟨fun h => h.elim id (fun h9 => ?_), Or.inl⟩)
       obtain ⟨q9, e1, -⟩ := h9
       rcases hn15 with h | h
       · rw [d_G_3_p1_2] at h; exfalso; omega
       · rw [r_G_3_F_p1_1] at h
         rw [h] at e1
         cases e1)
    | (refine pl.cg (fun u9 k9 _ => (lnC_s (by omega)).trans ⟨fun h => h.elim id (fun h9 => ?_), Or.inl⟩)
       obtain ⟨q9, e1, e2, e3, -⟩ := h9
       rw [r_G_3_F_p1_1] at hs15
       rw [hs15] at e1
       cases e1
       exfalso; omega)
    | (refine pl.tr pk (fun u9 k9 hi => (lnC_s (by omega)).trans ⟨fun h => h.imp id (fun h9 => ?_), fun h => h.imp id (fun h9 => ?_)⟩)
       · obtain ⟨q9, e1, e2, e3, e4, e5⟩ := h9
         rw [r_G_3_F_p1_1] at hs15
         rw [hs15] at e1
         cases e1
         exact ⟨e4.symm, by have := hi.2; omega, e5⟩
       · obtain ⟨e4, -, e5⟩ := h9
         exact ⟨q15, by rw [← r_G_3_F_p1_1]; exact hs15, by omega, by omega, e4.symm, e5⟩)
theorem v_X3_reachFrom_97_3 {K : Nat → Nat} {F : Nat → Nat → Nat} (a : Nat) (p0 : Nat) (p1 : Nat) (q15 : Nat) (G : XG) (G_3 : XG) (l5_3 : Int32) (p2 : Int32) (p3 : Int32) (N3 : Nat)
    (ha : K a = 5)
    (hp0 : K p0 = 8)
    (hp1 : K p1 = 2)
    (li : LIv (aI (G.2.1 (F a 0))) (aI (G.2.1 (F a 1))) (aI (G.2.1 (F a 2))) ((G.1 a 3).toInt))
    (pl : LGo (aI (G.2.1 (F a 0))) (aI (G.2.1 (F a 1))) (aI (G.2.1 (F a 2))) ((G.1 a 3).toInt) (aI (G_3.2.1 (F a 0))) (aI (G_3.2.1 (F a 1))) (aI (G_3.2.1 (F a 2))) ((G_3.1 a 3).toInt) (fun u9 k9 => lnC G (G.2.2.1 (F p1 1)) (vw (G.2.1 (F p0 0))) l5_3.toInt u9 k9 p2.toInt p3.toInt))
    (hs15 : G_3.2.2.1 (F p1 1) (l5_3.toInt).toNat = some q15)
    (sb : 0 ≤ ((G.1 p1 2).toInt) ∧ ((G.1 p1 2).toInt) ≤ 12)
    (I3_0 : 0 ≤ l5_3.toInt ∧ l5_3.toInt ≤ ((G.1 p1 2).toInt))
    (hm3 : 2147483648 - l5_3.toInt < (((N3) + 1 : Nat) : Int))
    (c9 : ¬ (((G.1 p1 2).toInt) ≤ l5_3.toInt))
    (ht15 : 0 ≤ l5_3.toInt ∧ l5_3.toInt < ((G.1 p1 2).toInt) ∧ l5_3.toInt < 12)
    (c31 : ((G.1 q15 0).toInt) ≠ (1 : Int))
    (r_G_3_F_p1_1 : G_3.2.2.1 (F p1 1) = G.2.2.1 (F p1 1))
    (d_G_3_p1_2 : G_3.1 p1 2 = G.1 p1 2) :
    LGo (aI (G.2.1 (F a 0))) (aI (G.2.1 (F a 1))) (aI (G.2.1 (F a 2))) ((G.1 a 3).toInt) (aI (G_3.2.1 (F a 0))) (aI (G_3.2.1 (F a 1))) (aI (G_3.2.1 (F a 2))) ((G_3.1 a 3).toInt) (fun u9 k9 => lnC G (G.2.2.1 (F p1 1)) (vw (G.2.1 (F p0 0))) (l5_3.toInt + 1) u9 k9 p2.toInt p3.toInt) := by
  first
    | (refine pl.cg (fun u9 k9 _ => (lnC_s (by omega)).trans ⟨fun h => h.elim id (fun h9 => ?_), Or.inl⟩)
       obtain ⟨q9, e1, -⟩ := h9
       rcases hn15 with h | h
       · rw [d_G_3_p1_2] at h; exfalso; omega
       · rw [r_G_3_F_p1_1] at h
         rw [h] at e1
         cases e1)
    | (refine pl.cg (fun u9 k9 _ => (lnC_s (by omega)).trans ⟨fun h => h.elim id (fun h9 => ?_), Or.inl⟩)
       obtain ⟨q9, e1, e2, e3, -⟩ := h9
       rw [r_G_3_F_p1_1] at hs15
       rw [hs15] at e1
       cases e1
       exfalso; omega)
    | (refine pl.tr pk (fun u9 k9 hi => (lnC_s (by omega)).trans ⟨fun h => h.imp id (fun h9 => ?_), fun h => h.imp id (fun h9 => ?_)⟩)
       · obtain ⟨q9, e1, e2, e3, e4, e5⟩ := h9
         rw [r_G_3_F_p1_1] at hs15
         rw [hs15] at e1
         cases e1
         exact ⟨e4.symm, by have := hi.2; omega, e5⟩
       · obtain ⟨e4, -, e5⟩ := h9
         exact ⟨q15, by rw [← r_G_3_F_p1_1]; exact hs15, by omega, by omega, e4.symm, e5⟩)
theorem v_X3_reachFrom_97_4 {K : Nat → Nat} {F : Nat → Nat → Nat} (a : Nat) (p0 : Nat) (p1 : Nat) (q15 : Nat) (G : XG) (G_3 : XG) (G_49 : XG) (l5_3 : Int32) (p2 : Int32) (p3 : Int32) (l7_49 : Int32) (N3 : Nat) (N49 : Nat)
    (ha : K a = 5)
    (hp0 : K p0 = 8)
    (hp1 : K p1 = 2)
    (li : LIv (aI (G.2.1 (F a 0))) (aI (G.2.1 (F a 1))) (aI (G.2.1 (F a 2))) ((G.1 a 3).toInt))
    (pl : LGo (aI (G.2.1 (F a 0))) (aI (G.2.1 (F a 1))) (aI (G.2.1 (F a 2))) ((G.1 a 3).toInt) (aI (G_3.2.1 (F a 0))) (aI (G_3.2.1 (F a 1))) (aI (G_3.2.1 (F a 2))) ((G_3.1 a 3).toInt) (fun u9 k9 => lnC G (G.2.2.1 (F p1 1)) (vw (G.2.1 (F p0 0))) l5_3.toInt u9 k9 p2.toInt p3.toInt))
    (hs15 : G_3.2.2.1 (F p1 1) (l5_3.toInt).toNat = some q15)
    (pk : LGo (aI (G_3.2.1 (F a 0))) (aI (G_3.2.1 (F a 1))) (aI (G_3.2.1 (F a 2))) ((G_3.1 a 3).toInt) (aI (G_49.2.1 (F a 0))) (aI (G_49.2.1 (F a 1))) (aI (G_49.2.1 (F a 2))) ((G_49.1 a 3).toInt) (fun u9 k9 => u9 = ((G.1 q15 2).toInt) ∧ k9 < l7_49.toInt ∧ cel (vw (G.2.1 (F p0 0))) u9 k9 ((G.1 q15 3).toInt) = p3.toInt))
    (sb : 0 ≤ ((G.1 p1 2).toInt) ∧ ((G.1 p1 2).toInt) ≤ 12)
    (I3_0 : 0 ≤ l5_3.toInt ∧ l5_3.toInt ≤ ((G.1 p1 2).toInt))
    (hm3 : 2147483648 - l5_3.toInt < (((N3) + 1 : Nat) : Int))
    (c9 : ¬ (((G.1 p1 2).toInt) ≤ l5_3.toInt))
    (ht15 : 0 ≤ l5_3.toInt ∧ l5_3.toInt < ((G.1 p1 2).toInt) ∧ l5_3.toInt < 12)
    (c31 : ¬ (((G.1 q15 0).toInt) ≠ (1 : Int)))
    (c40 : ((G.1 q15 4).toInt) = p2.toInt)
    (I49_0 : 0 ≤ l7_49.toInt ∧ l7_49.toInt ≤ 30)
    (I49_1 : (0 : Int) ≤ l7_49.toInt)
    (hm49 : 2147483648 - l7_49.toInt < (((N49) + 1 : Nat) : Int))
    (c53 : (30 : Int) ≤ l7_49.toInt)
    (r_G_3_F_p1_1 : G_3.2.2.1 (F p1 1) = G.2.2.1 (F p1 1))
    (d_G_3_p1_2 : G_3.1 p1 2 = G.1 p1 2) :
    LGo (aI (G.2.1 (F a 0))) (aI (G.2.1 (F a 1))) (aI (G.2.1 (F a 2))) ((G.1 a 3).toInt) (aI (G_49.2.1 (F a 0))) (aI (G_49.2.1 (F a 1))) (aI (G_49.2.1 (F a 2))) ((G_49.1 a 3).toInt) (fun u9 k9 => lnC G (G.2.2.1 (F p1 1)) (vw (G.2.1 (F p0 0))) (l5_3.toInt + 1) u9 k9 p2.toInt p3.toInt) := by
  first
    | (refine pl.cg (fun u9 k9 _ => (lnC_s (by omega)).trans ⟨fun h => h.elim id (fun h9 => ?_), Or.inl⟩)
       obtain ⟨q9, e1, -⟩ := h9
       rcases hn15 with h | h
       · rw [d_G_3_p1_2] at h; exfalso; omega
       · rw [r_G_3_F_p1_1] at h
         rw [h] at e1
         cases e1)
    | (refine pl.cg (fun u9 k9 _ => (lnC_s (by omega)).trans ⟨fun h => h.elim id (fun h9 => ?_), Or.inl⟩)
       obtain ⟨q9, e1, e2, e3, -⟩ := h9
       rw [r_G_3_F_p1_1] at hs15
       rw [hs15] at e1
       cases e1
       exfalso; omega)
    | (refine pl.tr pk (fun u9 k9 hi => (lnC_s (by omega)).trans ⟨fun h => h.imp id (fun h9 => ?_), fun h => h.imp id (fun h9 => ?_)⟩)
       · obtain ⟨q9, e1, e2, e3, e4, e5⟩ := h9
         rw [r_G_3_F_p1_1] at hs15
         rw [hs15] at e1
         cases e1
         exact ⟨e4.symm, by have := hi.2; omega, e5⟩
       · obtain ⟨e4, -, e5⟩ := h9
         exact ⟨q15, by rw [← r_G_3_F_p1_1]; exact hs15, by omega, by omega, e4.symm, e5⟩)
theorem v_X3_reachFrom_91_5 {K : Nat → Nat} {F : Nat → Nat → Nat} (a : Nat) (p0 : Nat) (p1 : Nat) (q15 : Nat) (G : XG) (G_3 : XG) (G_49 : XG) (l5_3 : Int32) (p2 : Int32) (p3 : Int32) (l7_49 : Int32) (N3 : Nat) (N49 : Nat)
    (ha : K a = 5)
    (hp0 : K p0 = 8)
    (hp1 : K p1 = 2)
    (li : LIv (aI (G.2.1 (F a 0))) (aI (G.2.1 (F a 1))) (aI (G.2.1 (F a 2))) ((G.1 a 3).toInt))
    (pl : LGo (aI (G.2.1 (F a 0))) (aI (G.2.1 (F a 1))) (aI (G.2.1 (F a 2))) ((G.1 a 3).toInt) (aI (G_3.2.1 (F a 0))) (aI (G_3.2.1 (F a 1))) (aI (G_3.2.1 (F a 2))) ((G_3.1 a 3).toInt) (fun u9 k9 => lnC G (G.2.2.1 (F p1 1)) (vw (G.2.1 (F p0 0))) l5_3.toInt u9 k9 p2.toInt p3.toInt))
    (hs15 : G_3.2.2.1 (F p1 1) (l5_3.toInt).toNat = some q15)
    (pk : LGo (aI (G_3.2.1 (F a 0))) (aI (G_3.2.1 (F a 1))) (aI (G_3.2.1 (F a 2))) ((G_3.1 a 3).toInt) (aI (G_49.2.1 (F a 0))) (aI (G_49.2.1 (F a 1))) (aI (G_49.2.1 (F a 2))) ((G_49.1 a 3).toInt) (fun u9 k9 => u9 = ((G.1 q15 2).toInt) ∧ k9 < l7_49.toInt ∧ cel (vw (G.2.1 (F p0 0))) u9 k9 ((G.1 q15 3).toInt) = p3.toInt))
    (sb : 0 ≤ ((G.1 p1 2).toInt) ∧ ((G.1 p1 2).toInt) ≤ 12)
    (I3_0 : 0 ≤ l5_3.toInt ∧ l5_3.toInt ≤ ((G.1 p1 2).toInt))
    (hm3 : 2147483648 - l5_3.toInt < (((N3) + 1 : Nat) : Int))
    (c9 : ¬ (((G.1 p1 2).toInt) ≤ l5_3.toInt))
    (ht15 : 0 ≤ l5_3.toInt ∧ l5_3.toInt < ((G.1 p1 2).toInt) ∧ l5_3.toInt < 12)
    (c31 : ¬ (((G.1 q15 0).toInt) ≠ (1 : Int)))
    (c40 : ((G.1 q15 4).toInt) = p2.toInt)
    (I49_0 : 0 ≤ l7_49.toInt ∧ l7_49.toInt ≤ 30)
    (I49_1 : (0 : Int) ≤ l7_49.toInt)
    (hm49 : 2147483648 - l7_49.toInt < (((N49) + 1 : Nat) : Int))
    (c53 : ¬ ((30 : Int) ≤ l7_49.toInt))
    (c74 : (cel (vw (G.2.1 (F p0 0))) ((G.1 q15 2).toInt) (l7_49.toInt) ((G.1 q15 3).toInt)) ≠ p3.toInt) :
    LGo (aI (G_3.2.1 (F a 0))) (aI (G_3.2.1 (F a 1))) (aI (G_3.2.1 (F a 2))) ((G_3.1 a 3).toInt) (aI (G_49.2.1 (F a 0))) (aI (G_49.2.1 (F a 1))) (aI (G_49.2.1 (F a 2))) ((G_49.1 a 3).toInt) (fun u9 k9 => u9 = ((G.1 q15 2).toInt) ∧ k9 < (l7_49.toInt + 1) ∧ cel (vw (G.2.1 (F p0 0))) u9 k9 ((G.1 q15 3).toInt) = p3.toInt) := by
  first
    | (refine pk.tr oq85 (fun u9 k9 hi => ⟨fun h => ?_, fun h => ?_⟩)
       · obtain ⟨h1, h2, h3⟩ := h
         by_cases e : k9 = l7_49.toInt
         · exact Or.inr ⟨h1, e⟩
         · exact Or.inl ⟨h1, by omega, h3⟩
       · rcases h with ⟨h1, h2, h3⟩ | ⟨h1, h2⟩
         · exact ⟨h1, by omega, h3⟩
         · exact ⟨h1, by omega, by rw [h1, h2]; omega⟩)
    | (refine pk.cg (fun u9 k9 hi => ⟨fun h => ?_, fun h => ?_⟩)
       · obtain ⟨h1, h2, h3⟩ := h
         by_cases e : k9 = l7_49.toInt
         · rw [h1, e] at h3; exfalso; omega
         · exact ⟨h1, by omega, h3⟩
       · obtain ⟨h1, h2, h3⟩ := h
         exact ⟨h1, by omega, h3⟩)
theorem v_X3_reachFrom_85_6 {F : Nat → Nat → Nat} (G_3 : XG) (a : Nat) (G_49 : XG) (G : XG) (q15 : Nat) (l7_49 : Int32) (p0 : Nat) (p3 : Int32)
    (pk : LGo (aI (G_3.2.1 (F a 0))) (aI (G_3.2.1 (F a 1))) (aI (G_3.2.1 (F a 2))) ((G_3.1 a 3).toInt) (aI (G_49.2.1 (F a 0))) (aI (G_49.2.1 (F a 1))) (aI (G_49.2.1 (F a 2))) ((G_49.1 a 3).toInt) (fun u9 k9 => u9 = ((G.1 q15 2).toInt) ∧ k9 < l7_49.toInt ∧ cel (vw (G.2.1 (F p0 0))) u9 k9 ((G.1 q15 3).toInt) = p3.toInt)) :
    LIv (aI (G_49.2.1 (F a 0))) (aI (G_49.2.1 (F a 1))) (aI (G_49.2.1 (F a 2))) ((G_49.1 a 3).toInt) := by
  exact pk.1
theorem v_X3_reachFrom_91_7 {K : Nat → Nat} {F : Nat → Nat → Nat} (a : Nat) (p0 : Nat) (p1 : Nat) (q15 : Nat) (G : XG) (G_3 : XG) (G_49 : XG) (G85 : XG) (l5_3 : Int32) (p2 : Int32) (p3 : Int32) (l7_49 : Int32) (N3 : Nat) (N49 : Nat)
    (ha : K a = 5)
    (hp0 : K p0 = 8)
    (hp1 : K p1 = 2)
    (li : LIv (aI (G.2.1 (F a 0))) (aI (G.2.1 (F a 1))) (aI (G.2.1 (F a 2))) ((G.1 a 3).toInt))
    (pl : LGo (aI (G.2.1 (F a 0))) (aI (G.2.1 (F a 1))) (aI (G.2.1 (F a 2))) ((G.1 a 3).toInt) (aI (G_3.2.1 (F a 0))) (aI (G_3.2.1 (F a 1))) (aI (G_3.2.1 (F a 2))) ((G_3.1 a 3).toInt) (fun u9 k9 => lnC G (G.2.2.1 (F p1 1)) (vw (G.2.1 (F p0 0))) l5_3.toInt u9 k9 p2.toInt p3.toInt))
    (hs15 : G_3.2.2.1 (F p1 1) (l5_3.toInt).toNat = some q15)
    (pk : LGo (aI (G_3.2.1 (F a 0))) (aI (G_3.2.1 (F a 1))) (aI (G_3.2.1 (F a 2))) ((G_3.1 a 3).toInt) (aI (G_49.2.1 (F a 0))) (aI (G_49.2.1 (F a 1))) (aI (G_49.2.1 (F a 2))) ((G_49.1 a 3).toInt) (fun u9 k9 => u9 = ((G.1 q15 2).toInt) ∧ k9 < l7_49.toInt ∧ cel (vw (G.2.1 (F p0 0))) u9 k9 ((G.1 q15 3).toInt) = p3.toInt))
    (oq85 : LGo (aI (G_49.2.1 (F a 0))) (aI (G_49.2.1 (F a 1))) (aI (G_49.2.1 (F a 2))) ((G_49.1 a 3).toInt) (aI (G85.2.1 (F a 0))) (aI (G85.2.1 (F a 1))) (aI (G85.2.1 (F a 2))) ((G85.1 a 3).toInt) (fun u9 k9 => u9 = ((G.1 q15 2).toInt) ∧ k9 = l7_49.toInt))
    (sb : 0 ≤ ((G.1 p1 2).toInt) ∧ ((G.1 p1 2).toInt) ≤ 12)
    (I3_0 : 0 ≤ l5_3.toInt ∧ l5_3.toInt ≤ ((G.1 p1 2).toInt))
    (hm3 : 2147483648 - l5_3.toInt < (((N3) + 1 : Nat) : Int))
    (c9 : ¬ (((G.1 p1 2).toInt) ≤ l5_3.toInt))
    (ht15 : 0 ≤ l5_3.toInt ∧ l5_3.toInt < ((G.1 p1 2).toInt) ∧ l5_3.toInt < 12)
    (c31 : ¬ (((G.1 q15 0).toInt) ≠ (1 : Int)))
    (c40 : ((G.1 q15 4).toInt) = p2.toInt)
    (I49_0 : 0 ≤ l7_49.toInt ∧ l7_49.toInt ≤ 30)
    (I49_1 : (0 : Int) ≤ l7_49.toInt)
    (hm49 : 2147483648 - l7_49.toInt < (((N49) + 1 : Nat) : Int))
    (c53 : ¬ ((30 : Int) ≤ l7_49.toInt))
    (c74 : ¬ ((cel (vw (G.2.1 (F p0 0))) ((G.1 q15 2).toInt) (l7_49.toInt) ((G.1 q15 3).toInt)) ≠ p3.toInt)) :
    LGo (aI (G_3.2.1 (F a 0))) (aI (G_3.2.1 (F a 1))) (aI (G_3.2.1 (F a 2))) ((G_3.1 a 3).toInt) (aI (G85.2.1 (F a 0))) (aI (G85.2.1 (F a 1))) (aI (G85.2.1 (F a 2))) ((G85.1 a 3).toInt) (fun u9 k9 => u9 = ((G.1 q15 2).toInt) ∧ k9 < (l7_49.toInt + 1) ∧ cel (vw (G.2.1 (F p0 0))) u9 k9 ((G.1 q15 3).toInt) = p3.toInt) := by
  first
    | (refine pk.tr oq85 (fun u9 k9 hi => ⟨fun h => ?_, fun h => ?_⟩)
       · obtain ⟨h1, h2, h3⟩ := h
         by_cases e : k9 = l7_49.toInt
         · exact Or.inr ⟨h1, e⟩
         · exact Or.inl ⟨h1, by omega, h3⟩
       · rcases h with ⟨h1, h2, h3⟩ | ⟨h1, h2⟩
         · exact ⟨h1, by omega, h3⟩
         · exact ⟨h1, by omega, by rw [h1, h2]; omega⟩)
    | (refine pk.cg (fun u9 k9 hi => ⟨fun h => ?_, fun h => ?_⟩)
       · obtain ⟨h1, h2, h3⟩ := h
         by_cases e : k9 = l7_49.toInt
         · rw [h1, e] at h3; exfalso; omega
         · exact ⟨h1, by omega, h3⟩
       · obtain ⟨h1, h2, h3⟩ := h
         exact ⟨h1, by omega, h3⟩)
theorem v_X3_reachFrom_47_8 {K : Nat → Nat} {F : Nat → Nat → Nat} (a : Nat) (p0 : Nat) (p1 : Nat) (q15 : Nat) (G : XG) (G_3 : XG) (l5_3 : Int32) (p2 : Int32) (p3 : Int32) (N3 : Nat)
    (ha : K a = 5)
    (hp0 : K p0 = 8)
    (hp1 : K p1 = 2)
    (li : LIv (aI (G.2.1 (F a 0))) (aI (G.2.1 (F a 1))) (aI (G.2.1 (F a 2))) ((G.1 a 3).toInt))
    (pl : LGo (aI (G.2.1 (F a 0))) (aI (G.2.1 (F a 1))) (aI (G.2.1 (F a 2))) ((G.1 a 3).toInt) (aI (G_3.2.1 (F a 0))) (aI (G_3.2.1 (F a 1))) (aI (G_3.2.1 (F a 2))) ((G_3.1 a 3).toInt) (fun u9 k9 => lnC G (G.2.2.1 (F p1 1)) (vw (G.2.1 (F p0 0))) l5_3.toInt u9 k9 p2.toInt p3.toInt))
    (hs15 : G_3.2.2.1 (F p1 1) (l5_3.toInt).toNat = some q15)
    (sb : 0 ≤ ((G.1 p1 2).toInt) ∧ ((G.1 p1 2).toInt) ≤ 12)
    (I3_0 : 0 ≤ l5_3.toInt ∧ l5_3.toInt ≤ ((G.1 p1 2).toInt))
    (hm3 : 2147483648 - l5_3.toInt < (((N3) + 1 : Nat) : Int))
    (c9 : ¬ (((G.1 p1 2).toInt) ≤ l5_3.toInt))
    (ht15 : 0 ≤ l5_3.toInt ∧ l5_3.toInt < ((G.1 p1 2).toInt) ∧ l5_3.toInt < 12)
    (c31 : ¬ (((G.1 q15 0).toInt) ≠ (1 : Int)))
    (c40 : ((G.1 q15 4).toInt) = p2.toInt) :
    LGo (aI (G_3.2.1 (F a 0))) (aI (G_3.2.1 (F a 1))) (aI (G_3.2.1 (F a 2))) ((G_3.1 a 3).toInt) (aI (G_3.2.1 (F a 0))) (aI (G_3.2.1 (F a 1))) (aI (G_3.2.1 (F a 2))) ((G_3.1 a 3).toInt) (fun u9 k9 => u9 = ((G.1 q15 2).toInt) ∧ k9 < (0 : Int) ∧ cel (vw (G.2.1 (F p0 0))) u9 k9 ((G.1 q15 3).toInt) = p3.toInt) := by
  exact LGo_same pl.1 (fun u9 k9 hi h => absurd h.2.1 (by have := hi.2; omega))
theorem v_X3_reachFrom_97_9 {K : Nat → Nat} {F : Nat → Nat → Nat} (a : Nat) (p0 : Nat) (p1 : Nat) (q15 : Nat) (G : XG) (G_3 : XG) (l5_3 : Int32) (p2 : Int32) (p3 : Int32) (N3 : Nat)
    (ha : K a = 5)
    (hp0 : K p0 = 8)
    (hp1 : K p1 = 2)
    (li : LIv (aI (G.2.1 (F a 0))) (aI (G.2.1 (F a 1))) (aI (G.2.1 (F a 2))) ((G.1 a 3).toInt))
    (pl : LGo (aI (G.2.1 (F a 0))) (aI (G.2.1 (F a 1))) (aI (G.2.1 (F a 2))) ((G.1 a 3).toInt) (aI (G_3.2.1 (F a 0))) (aI (G_3.2.1 (F a 1))) (aI (G_3.2.1 (F a 2))) ((G_3.1 a 3).toInt) (fun u9 k9 => lnC G (G.2.2.1 (F p1 1)) (vw (G.2.1 (F p0 0))) l5_3.toInt u9 k9 p2.toInt p3.toInt))
    (hs15 : G_3.2.2.1 (F p1 1) (l5_3.toInt).toNat = some q15)
    (sb : 0 ≤ ((G.1 p1 2).toInt) ∧ ((G.1 p1 2).toInt) ≤ 12)
    (I3_0 : 0 ≤ l5_3.toInt ∧ l5_3.toInt ≤ ((G.1 p1 2).toInt))
    (hm3 : 2147483648 - l5_3.toInt < (((N3) + 1 : Nat) : Int))
    (c9 : ¬ (((G.1 p1 2).toInt) ≤ l5_3.toInt))
    (ht15 : 0 ≤ l5_3.toInt ∧ l5_3.toInt < ((G.1 p1 2).toInt) ∧ l5_3.toInt < 12)
    (c31 : ¬ (((G.1 q15 0).toInt) ≠ (1 : Int)))
    (c40 : ¬ (((G.1 q15 4).toInt) = p2.toInt))
    (r_G_3_F_p1_1 : G_3.2.2.1 (F p1 1) = G.2.2.1 (F p1 1))
    (d_G_3_p1_2 : G_3.1 p1 2 = G.1 p1 2) :
    LGo (aI (G.2.1 (F a 0))) (aI (G.2.1 (F a 1))) (aI (G.2.1 (F a 2))) ((G.1 a 3).toInt) (aI (G_3.2.1 (F a 0))) (aI (G_3.2.1 (F a 1))) (aI (G_3.2.1 (F a 2))) ((G_3.1 a 3).toInt) (fun u9 k9 => lnC G (G.2.2.1 (F p1 1)) (vw (G.2.1 (F p0 0))) (l5_3.toInt + 1) u9 k9 p2.toInt p3.toInt) := by
  first
    | (refine pl.cg (fun u9 k9 _ => (lnC_s (by omega)).trans ⟨fun h => h.elim id (fun h9 => ?_), Or.inl⟩)
       obtain ⟨q9, e1, -⟩ := h9
       rcases hn15 with h | h
       · rw [d_G_3_p1_2] at h; exfalso; omega
       · rw [r_G_3_F_p1_1] at h
         rw [h] at e1
         cases e1)
    | (refine pl.cg (fun u9 k9 _ => (lnC_s (by omega)).trans ⟨fun h => h.elim id (fun h9 => ?_), Or.inl⟩)
       obtain ⟨q9, e1, e2, e3, -⟩ := h9
       rw [r_G_3_F_p1_1] at hs15
       rw [hs15] at e1
       cases e1
       exfalso; omega)
    | (refine pl.tr pk (fun u9 k9 hi => (lnC_s (by omega)).trans ⟨fun h => h.imp id (fun h9 => ?_), fun h => h.imp id (fun h9 => ?_)⟩)
       · obtain ⟨q9, e1, e2, e3, e4, e5⟩ := h9
         rw [r_G_3_F_p1_1] at hs15
         rw [hs15] at e1
         cases e1
         exact ⟨e4.symm, by have := hi.2; omega, e5⟩
       · obtain ⟨e4, -, e5⟩ := h9
         exact ⟨q15, by rw [← r_G_3_F_p1_1]; exact hs15, by omega, by omega, e4.symm, e5⟩)
theorem v_X3_reachFrom_1_10 {K : Nat → Nat} {F : Nat → Nat → Nat} (a : Nat) (p0 : Nat) (p1 : Nat) (G : XG) (p2 : Int32) (p3 : Int32)
    (ha : K a = 5)
    (hp0 : K p0 = 8)
    (hp1 : K p1 = 2)
    (li : LIv (aI (G.2.1 (F a 0))) (aI (G.2.1 (F a 1))) (aI (G.2.1 (F a 2))) ((G.1 a 3).toInt))
    (sb : 0 ≤ ((G.1 p1 2).toInt) ∧ ((G.1 p1 2).toInt) ≤ 12) :
    LGo (aI (G.2.1 (F a 0))) (aI (G.2.1 (F a 1))) (aI (G.2.1 (F a 2))) ((G.1 a 3).toInt) (aI (G.2.1 (F a 0))) (aI (G.2.1 (F a 1))) (aI (G.2.1 (F a 2))) ((G.1 a 3).toInt) (fun u9 k9 => lnC G (G.2.2.1 (F p1 1)) (vw (G.2.1 (F p0 0))) (0 : Int) u9 k9 p2.toInt p3.toInt) := by
  exact LGo_same li (fun u9 k9 _ h => absurd h (lnC_0 (by omega)))
theorem v_X3_straight_10_1 {F : Nat → Nat → Nat} (G1 : XG) (a : Nat)
    (oq1 : ∀ t : Int, 0 ≤ t → t < 3 → aI (G1.2.1 (F a 0)) t = 0)
    (t1 : ((G1.1 a 3).toInt) = 0) :
    LIv (aI (G1.2.1 (F a 0))) (aI (G1.2.1 (F a 1))) (aI (G1.2.1 (F a 2))) ((G1.1 a 3).toInt) := by
  exact LIv_0 oq1 t1
theorem v_X3_straight_17_2 {K : Nat → Nat} {F : Nat → Nat → Nat} (a : Nat) (p0 : Nat) (p1 : Nat) (G : XG) (G1 : XG) (G10 : XG) (p2 : Int32) (p3 : Int32)
    (ha : K a = 5)
    (hp0 : K p0 = 8)
    (hp1 : K p1 = 2)
    (hk9999 : K (F a 0) = 21)
    (hj9999 : F (F a 0) 99 = 102)
    (hk9999a : K (F a 1) = 24)
    (hj9999a : F (F a 1) 99 = 5)
    (hk9999b : K (F a 2) = 24)
    (hj9999b : F (F a 2) 99 = 6)
    (hk9999c : K (F p1 1) = 15)
    (hj9999c : F (F p1 1) 99 = 1)
    (hk9999d : K (F p0 0) = 20)
    (hj9999d : F (F p0 0) 99 = F p0 99)
    (hF1 : XFr [(a, 3)] [F a 0] [] G G1)
    (bko : BKr K G (G.2.2.1 (F p1 1)))
    (oq1 : ∀ t : Int, 0 ≤ t → t < 3 → aI (G1.2.1 (F a 0)) t = 0)
    (oq10 : LGo (aI (G1.2.1 (F a 0))) (aI (G.2.1 (F a 1))) (aI (G.2.1 (F a 2))) ((G1.1 a 3).toInt) (aI (G10.2.1 (F a 0))) (aI (G10.2.1 (F a 1))) (aI (G10.2.1 (F a 2))) ((G10.1 a 3).toInt) (fun u9 k9 => lnC G1 (G1.2.2.1 (F p1 1)) (vw (G.2.1 (F p0 0))) ((G.1 p1 2).toInt) u9 k9 p2.toInt p3.toInt))
    (sb : 0 ≤ ((G.1 p1 2).toInt) ∧ ((G.1 p1 2).toInt) ≤ 12)
    (t1 : ((G1.1 a 3).toInt) = 0)
    (r_G1_F_p1_1 : G1.2.2.1 (F p1 1) = G.2.2.1 (F p1 1)) :
    ∃ b : Int → Int, ((G10.1 a 3).toInt) = toB b 3 ∧ ∀ t j : Int, inR t j → (bI (b t) j = 1 ↔ lnC G (G.2.2.1 (F p1 1)) (vw (G.2.1 (F p0 0))) ((G.1 p1 2).toInt) t j p2.toInt p3.toInt) := by
  have hd0 : ∀ p, p ∈ [(a, 3)] → K p.1 ≠ 9 := (List.forall_mem_cons.mpr ⟨(show K a ≠ 9 by omega), fun _ h => by cases h⟩)
  have hc : ∀ i q : Nat, i < 12 → G.2.2.1 (F p1 1) i = some q → G1.1 q = G.1 q := fun i q hi hq => hF1.rule hd0 (bko i q hi hq).1
  rw [r_G1_F_p1_1] at oq10
  obtain ⟨h1, -, -, h4⟩ := oq10
  try dsimp only at h4
  refine ⟨aI (G10.2.1 (F a 0)), h1.1, fun t j hi => ?_⟩
  rw [h4 t j hi, lnC_cg (show (G.1 p1 2).toInt ≤ 12 by omega) hc, oq1 t hi.1.1 hi.1.2, bI_0]
  constructor
  · rintro (h | h)
    · exact absurd h (by decide)
    · exact h
  · exact Or.inr
theorem v_X3_straightOrNot_8_1 {F : Nat → Nat → Nat} (G1 : XG) (a : Nat)
    (oq1 : ∀ t : Int, 0 ≤ t → t < 3 → aI (G1.2.1 (F a 0)) t = 0)
    (t1 : ((G1.1 a 3).toInt) = 0) :
    LIv (aI (G1.2.1 (F a 0))) (aI (G1.2.1 (F a 1))) (aI (G1.2.1 (F a 2))) ((G1.1 a 3).toInt) := by
  exact LIv_0 oq1 t1
theorem v_X3_straightOrNot_62_2 {K : Nat → Nat} {F : Nat → Nat → Nat} (a : Nat) (p0 : Nat) (p1 : Nat) (G : XG) (G_14 : XG) (G1 : XG) (G8 : XG) (p2 : Int32) (p3 : Int32) (l5_14 : Int32) (N14 : Nat)
    (ha : K a = 5)
    (hp0 : K p0 = 8)
    (hp1 : K p1 = 2)
    (oq8 : LGo (aI (G1.2.1 (F a 0))) (aI (G.2.1 (F a 1))) (aI (G.2.1 (F a 2))) ((G1.1 a 3).toInt) (aI (G8.2.1 (F a 0))) (aI (G8.2.1 (F a 1))) (aI (G8.2.1 (F a 2))) ((G8.1 a 3).toInt) (fun u9 k9 => u9 = p2.toInt ∧ k9 = p3.toInt))
    (pv : LIv (aI (G_14.2.1 (F a 0))) (aI (G_14.2.1 (F a 1))) (aI (G_14.2.1 (F a 2))) ((G_14.1 a 3).toInt))
    (ps : bI ((aI (G_14.2.1 (F a 0))) p2.toInt) p3.toInt = 1)
    (pr : ∀ t j : Int, inR t j → bI ((aI (G_14.2.1 (F a 0))) t) j = 1 → RCH (lnC G (G.2.2.1 (F p1 1)) (vw (G.2.1 (F p0 0))) ((G.1 p1 2).toInt)) p2.toInt p3.toInt t j)
    (pc : ∀ z : Int, 0 ≤ z → z < l5_14.toInt → ∀ t j : Int, inR t j → lnC G (G.2.2.1 (F p1 1)) (vw (G.2.1 (F p0 0))) ((G.1 p1 2).toInt) t j ((aI (G_14.2.1 (F a 1))) z) ((aI (G_14.2.1 (F a 2))) z) → bI ((aI (G_14.2.1 (F a 0))) t) j = 1)
    (sb : 0 ≤ ((G.1 p1 2).toInt) ∧ ((G.1 p1 2).toInt) ≤ 12)
    (e0 : 0 ≤ p2.toInt ∧ p2.toInt < 3 ∧ 0 ≤ p3.toInt ∧ p3.toInt < 30)
    (t1 : ((G1.1 a 3).toInt) = 0)
    (I14_0 : 0 ≤ l5_14.toInt ∧ l5_14.toInt ≤ 90)
    (hm14 : 100 - l5_14.toInt < (((N14) + 1 : Nat) : Int))
    (c20 : ((G_14.1 a 3).toInt) ≤ l5_14.toInt)
    (z56 : 0 ≤ ((G_14.1 a 3).toInt) ∧ ((G_14.1 a 3).toInt) ≤ 90) :
    ∃ b : Int → Int, (((G_14.1 a 3).toInt) - (1 : Int)) = toB b 3 - 1 ∧ ∀ t j : Int, inR t j → (bI (b t) j = 1 ↔ RCH (lnC G (G.2.2.1 (F p1 1)) (vw (G.2.1 (F p0 0))) ((G.1 p1 2).toInt)) p2.toInt p3.toInt t j) := by
  have hb := pv.b
  exact ⟨aI (G_14.2.1 (F a 0)), by rw [← pv.1], reach_all pv (i := l5_14.toInt) (by omega) ps pr pc ⟨by omega, by omega⟩⟩
theorem v_X3_straightOrNot_62_3 {K : Nat → Nat} {F : Nat → Nat → Nat} (a : Nat) (p0 : Nat) (p1 : Nat) (G : XG) (G_14 : XG) (G1 : XG) (G8 : XG) (p2 : Int32) (p3 : Int32) (l5_14 : Int32) (N14 : Nat)
    (ha : K a = 5)
    (hp0 : K p0 = 8)
    (hp1 : K p1 = 2)
    (oq8 : LGo (aI (G1.2.1 (F a 0))) (aI (G.2.1 (F a 1))) (aI (G.2.1 (F a 2))) ((G1.1 a 3).toInt) (aI (G8.2.1 (F a 0))) (aI (G8.2.1 (F a 1))) (aI (G8.2.1 (F a 2))) ((G8.1 a 3).toInt) (fun u9 k9 => u9 = p2.toInt ∧ k9 = p3.toInt))
    (pv : LIv (aI (G_14.2.1 (F a 0))) (aI (G_14.2.1 (F a 1))) (aI (G_14.2.1 (F a 2))) ((G_14.1 a 3).toInt))
    (ps : bI ((aI (G_14.2.1 (F a 0))) p2.toInt) p3.toInt = 1)
    (pr : ∀ t j : Int, inR t j → bI ((aI (G_14.2.1 (F a 0))) t) j = 1 → RCH (lnC G (G.2.2.1 (F p1 1)) (vw (G.2.1 (F p0 0))) ((G.1 p1 2).toInt)) p2.toInt p3.toInt t j)
    (pc : ∀ z : Int, 0 ≤ z → z < l5_14.toInt → ∀ t j : Int, inR t j → lnC G (G.2.2.1 (F p1 1)) (vw (G.2.1 (F p0 0))) ((G.1 p1 2).toInt) t j ((aI (G_14.2.1 (F a 1))) z) ((aI (G_14.2.1 (F a 2))) z) → bI ((aI (G_14.2.1 (F a 0))) t) j = 1)
    (sb : 0 ≤ ((G.1 p1 2).toInt) ∧ ((G.1 p1 2).toInt) ≤ 12)
    (e0 : 0 ≤ p2.toInt ∧ p2.toInt < 3 ∧ 0 ≤ p3.toInt ∧ p3.toInt < 30)
    (t1 : ((G1.1 a 3).toInt) = 0)
    (I14_0 : 0 ≤ l5_14.toInt ∧ l5_14.toInt ≤ 90)
    (hm14 : 100 - l5_14.toInt < (((N14) + 1 : Nat) : Int))
    (c20 : ¬ (((G_14.1 a 3).toInt) ≤ l5_14.toInt))
    (c27 : (90 : Int) ≤ l5_14.toInt)
    (z56 : 0 ≤ ((G_14.1 a 3).toInt) ∧ ((G_14.1 a 3).toInt) ≤ 90) :
    ∃ b : Int → Int, (((G_14.1 a 3).toInt) - (1 : Int)) = toB b 3 - 1 ∧ ∀ t j : Int, inR t j → (bI (b t) j = 1 ↔ RCH (lnC G (G.2.2.1 (F p1 1)) (vw (G.2.1 (F p0 0))) ((G.1 p1 2).toInt)) p2.toInt p3.toInt t j) := by
  have hb := pv.b
  exact ⟨aI (G_14.2.1 (F a 0)), by rw [← pv.1], reach_all pv (i := l5_14.toInt) (by omega) ps pr pc ⟨by omega, by omega⟩⟩
theorem v_X3_straightOrNot_47_4 {F : Nat → Nat → Nat} (G_14 : XG) (a : Nat)
    (pv : LIv (aI (G_14.2.1 (F a 0))) (aI (G_14.2.1 (F a 1))) (aI (G_14.2.1 (F a 2))) ((G_14.1 a 3).toInt)) :
    LIv (aI (G_14.2.1 (F a 0))) (aI (G_14.2.1 (F a 1))) (aI (G_14.2.1 (F a 2))) ((G_14.1 a 3).toInt) := by
  exact pv
theorem v_X3_straightOrNot_53_5 {F : Nat → Nat → Nat} (G_14 : XG) (a : Nat) (G47 : XG) (p1 : Nat) (G : XG) (p0 : Nat) (l5_14 : Int32)
    (oq47 : LGo (aI (G_14.2.1 (F a 0))) (aI (G_14.2.1 (F a 1))) (aI (G_14.2.1 (F a 2))) ((G_14.1 a 3).toInt) (aI (G47.2.1 (F a 0))) (aI (G47.2.1 (F a 1))) (aI (G47.2.1 (F a 2))) ((G47.1 a 3).toInt) (fun u9 k9 => lnC G_14 (G_14.2.2.1 (F p1 1)) (vw (G.2.1 (F p0 0))) ((G.1 p1 2).toInt) u9 k9 (aI (G_14.2.1 (F a 1)) (l5_14.toInt)) (aI (G_14.2.1 (F a 2)) (l5_14.toInt)))) :
    LIv (aI (G47.2.1 (F a 0))) (aI (G47.2.1 (F a 1))) (aI (G47.2.1 (F a 2))) ((G47.1 a 3).toInt) := by
  exact oq47.1
theorem v_X3_straightOrNot_53_6 {K : Nat → Nat} {F : Nat → Nat → Nat} (a : Nat) (p0 : Nat) (p1 : Nat) (G : XG) (G47 : XG) (G1 : XG) (G8 : XG) (G_14 : XG) (p2 : Int32) (p3 : Int32) (l5_14 : Int32) (N14 : Nat)
    (ha : K a = 5)
    (hp0 : K p0 = 8)
    (hp1 : K p1 = 2)
    (oq8 : LGo (aI (G1.2.1 (F a 0))) (aI (G.2.1 (F a 1))) (aI (G.2.1 (F a 2))) ((G1.1 a 3).toInt) (aI (G8.2.1 (F a 0))) (aI (G8.2.1 (F a 1))) (aI (G8.2.1 (F a 2))) ((G8.1 a 3).toInt) (fun u9 k9 => u9 = p2.toInt ∧ k9 = p3.toInt))
    (pv : LIv (aI (G_14.2.1 (F a 0))) (aI (G_14.2.1 (F a 1))) (aI (G_14.2.1 (F a 2))) ((G_14.1 a 3).toInt))
    (ps : bI ((aI (G_14.2.1 (F a 0))) p2.toInt) p3.toInt = 1)
    (oq47 : LGo (aI (G_14.2.1 (F a 0))) (aI (G_14.2.1 (F a 1))) (aI (G_14.2.1 (F a 2))) ((G_14.1 a 3).toInt) (aI (G47.2.1 (F a 0))) (aI (G47.2.1 (F a 1))) (aI (G47.2.1 (F a 2))) ((G47.1 a 3).toInt) (fun u9 k9 => lnC G_14 (G_14.2.2.1 (F p1 1)) (vw (G.2.1 (F p0 0))) ((G.1 p1 2).toInt) u9 k9 (aI (G_14.2.1 (F a 1)) (l5_14.toInt)) (aI (G_14.2.1 (F a 2)) (l5_14.toInt))))
    (sb : 0 ≤ ((G.1 p1 2).toInt) ∧ ((G.1 p1 2).toInt) ≤ 12)
    (e0 : 0 ≤ p2.toInt ∧ p2.toInt < 3 ∧ 0 ≤ p3.toInt ∧ p3.toInt < 30)
    (t1 : ((G1.1 a 3).toInt) = 0)
    (I14_0 : 0 ≤ l5_14.toInt ∧ l5_14.toInt ≤ 90)
    (hm14 : 100 - l5_14.toInt < (((N14) + 1 : Nat) : Int))
    (c20 : ¬ (((G_14.1 a 3).toInt) ≤ l5_14.toInt))
    (c27 : ¬ ((90 : Int) ≤ l5_14.toInt)) :
    bI ((aI (G47.2.1 (F a 0))) p2.toInt) p3.toInt = 1 := by
  exact (oq47.2.2.2 _ _ ⟨by omega, by omega⟩).mpr (Or.inl ps)
theorem v_X3_straightOrNot_53_7 {K : Nat → Nat} {F : Nat → Nat → Nat} (a : Nat) (p0 : Nat) (p1 : Nat) (G : XG) (G47 : XG) (G1 : XG) (G8 : XG) (G_14 : XG) (p2 : Int32) (p3 : Int32) (l5_14 : Int32) (N14 : Nat)
    (ha : K a = 5)
    (hp0 : K p0 = 8)
    (hp1 : K p1 = 2)
    (hk9999 : K (F a 0) = 21)
    (hj9999 : F (F a 0) 99 = 102)
    (hk9999a : K (F a 1) = 24)
    (hj9999a : F (F a 1) 99 = 5)
    (hk9999b : K (F a 2) = 24)
    (hj9999b : F (F a 2) 99 = 6)
    (hk9999c : K (F p1 1) = 15)
    (hj9999c : F (F p1 1) 99 = 1)
    (hk9999d : K (F p0 0) = 20)
    (hj9999d : F (F p0 0) 99 = F p0 99)
    (hF1 : XFr [(a, 3)] [F a 0] [] G G1)
    (hF8 : XFr [(a, 3)] [F a 0, F a 1, F a 2] [] G1 G8)
    (hF_14 : XFr [(a, 3)] [F a 0, F a 1, F a 2] [] G8 G_14)
    (bko : BKr K G (G.2.2.1 (F p1 1)))
    (oq8 : LGo (aI (G1.2.1 (F a 0))) (aI (G.2.1 (F a 1))) (aI (G.2.1 (F a 2))) ((G1.1 a 3).toInt) (aI (G8.2.1 (F a 0))) (aI (G8.2.1 (F a 1))) (aI (G8.2.1 (F a 2))) ((G8.1 a 3).toInt) (fun u9 k9 => u9 = p2.toInt ∧ k9 = p3.toInt))
    (pv : LIv (aI (G_14.2.1 (F a 0))) (aI (G_14.2.1 (F a 1))) (aI (G_14.2.1 (F a 2))) ((G_14.1 a 3).toInt))
    (ps : bI ((aI (G_14.2.1 (F a 0))) p2.toInt) p3.toInt = 1)
    (pr : ∀ t j : Int, inR t j → bI ((aI (G_14.2.1 (F a 0))) t) j = 1 → RCH (lnC G (G.2.2.1 (F p1 1)) (vw (G.2.1 (F p0 0))) ((G.1 p1 2).toInt)) p2.toInt p3.toInt t j)
    (oq47 : LGo (aI (G_14.2.1 (F a 0))) (aI (G_14.2.1 (F a 1))) (aI (G_14.2.1 (F a 2))) ((G_14.1 a 3).toInt) (aI (G47.2.1 (F a 0))) (aI (G47.2.1 (F a 1))) (aI (G47.2.1 (F a 2))) ((G47.1 a 3).toInt) (fun u9 k9 => lnC G_14 (G_14.2.2.1 (F p1 1)) (vw (G.2.1 (F p0 0))) ((G.1 p1 2).toInt) u9 k9 (aI (G_14.2.1 (F a 1)) (l5_14.toInt)) (aI (G_14.2.1 (F a 2)) (l5_14.toInt))))
    (sb : 0 ≤ ((G.1 p1 2).toInt) ∧ ((G.1 p1 2).toInt) ≤ 12)
    (e0 : 0 ≤ p2.toInt ∧ p2.toInt < 3 ∧ 0 ≤ p3.toInt ∧ p3.toInt < 30)
    (t1 : ((G1.1 a 3).toInt) = 0)
    (I14_0 : 0 ≤ l5_14.toInt ∧ l5_14.toInt ≤ 90)
    (hm14 : 100 - l5_14.toInt < (((N14) + 1 : Nat) : Int))
    (c20 : ¬ (((G_14.1 a 3).toInt) ≤ l5_14.toInt))
    (c27 : ¬ ((90 : Int) ≤ l5_14.toInt))
    (r_G_14_F_p1_1 : G_14.2.2.1 (F p1 1) = G.2.2.1 (F p1 1)) :
    ∀ t j : Int, inR t j → bI ((aI (G47.2.1 (F a 0))) t) j = 1 → RCH (lnC G (G.2.2.1 (F p1 1)) (vw (G.2.1 (F p0 0))) ((G.1 p1 2).toInt)) p2.toInt p3.toInt t j := by
  have hd0 : ∀ p, p ∈ [(a, 3)] → K p.1 ≠ 9 := (List.forall_mem_cons.mpr ⟨(show K a ≠ 9 by omega), fun _ h => by cases h⟩)
  have hc : ∀ i q : Nat, i < 12 → G.2.2.1 (F p1 1) i = some q → G_14.1 q = G.1 q := fun i q hi hq => (hF_14.rule hd0 (bko i q hi hq).1).trans ((hF8.rule hd0 (bko i q hi hq).1).trans (hF1.rule hd0 (bko i q hi hq).1))
  rw [r_G_14_F_p1_1] at oq47
  obtain ⟨g1, g2, g3, g4⟩ := oq47
  try dsimp only at g4
  have g5 : ∀ t j : Int, inR t j → (bI (aI (G47.2.1 (F a 0)) t) j = 1 ↔ bI (aI (G_14.2.1 (F a 0)) t) j = 1 ∨ lnC G (G.2.2.1 (F p1 1)) (vw (G.2.1 (F p0 0))) ((G.1 p1 2).toInt) t j (aI (G_14.2.1 (F a 1)) l5_14.toInt) (aI (G_14.2.1 (F a 2)) l5_14.toInt)) := fun t j hi => by rw [g4 t j hi, lnC_cg (show (G.1 p1 2).toInt ≤ 12 by omega) hc]
  intro t j hi h
  rcases (g5 t j hi).mp h with h | h
  · exact pr t j hi h
  · obtain ⟨k1, k2⟩ := pv.2.1 l5_14.toInt (by omega) (by omega)
    exact (pr _ _ k1 k2).go hi h
theorem v_X3_straightOrNot_53_8 {K : Nat → Nat} {F : Nat → Nat → Nat} (a : Nat) (p0 : Nat) (p1 : Nat) (G : XG) (G47 : XG) (G1 : XG) (G8 : XG) (G_14 : XG) (p2 : Int32) (p3 : Int32) (l5_14 : Int32) (N14 : Nat)
    (ha : K a = 5)
    (hp0 : K p0 = 8)
    (hp1 : K p1 = 2)
    (hk9999 : K (F a 0) = 21)
    (hj9999 : F (F a 0) 99 = 102)
    (hk9999a : K (F a 1) = 24)
    (hj9999a : F (F a 1) 99 = 5)
    (hk9999b : K (F a 2) = 24)
    (hj9999b : F (F a 2) 99 = 6)
    (hk9999c : K (F p1 1) = 15)
    (hj9999c : F (F p1 1) 99 = 1)
    (hk9999d : K (F p0 0) = 20)
    (hj9999d : F (F p0 0) 99 = F p0 99)
    (hF1 : XFr [(a, 3)] [F a 0] [] G G1)
    (hF8 : XFr [(a, 3)] [F a 0, F a 1, F a 2] [] G1 G8)
    (hF_14 : XFr [(a, 3)] [F a 0, F a 1, F a 2] [] G8 G_14)
    (bko : BKr K G (G.2.2.1 (F p1 1)))
    (oq8 : LGo (aI (G1.2.1 (F a 0))) (aI (G.2.1 (F a 1))) (aI (G.2.1 (F a 2))) ((G1.1 a 3).toInt) (aI (G8.2.1 (F a 0))) (aI (G8.2.1 (F a 1))) (aI (G8.2.1 (F a 2))) ((G8.1 a 3).toInt) (fun u9 k9 => u9 = p2.toInt ∧ k9 = p3.toInt))
    (pv : LIv (aI (G_14.2.1 (F a 0))) (aI (G_14.2.1 (F a 1))) (aI (G_14.2.1 (F a 2))) ((G_14.1 a 3).toInt))
    (ps : bI ((aI (G_14.2.1 (F a 0))) p2.toInt) p3.toInt = 1)
    (pc : ∀ z : Int, 0 ≤ z → z < l5_14.toInt → ∀ t j : Int, inR t j → lnC G (G.2.2.1 (F p1 1)) (vw (G.2.1 (F p0 0))) ((G.1 p1 2).toInt) t j ((aI (G_14.2.1 (F a 1))) z) ((aI (G_14.2.1 (F a 2))) z) → bI ((aI (G_14.2.1 (F a 0))) t) j = 1)
    (oq47 : LGo (aI (G_14.2.1 (F a 0))) (aI (G_14.2.1 (F a 1))) (aI (G_14.2.1 (F a 2))) ((G_14.1 a 3).toInt) (aI (G47.2.1 (F a 0))) (aI (G47.2.1 (F a 1))) (aI (G47.2.1 (F a 2))) ((G47.1 a 3).toInt) (fun u9 k9 => lnC G_14 (G_14.2.2.1 (F p1 1)) (vw (G.2.1 (F p0 0))) ((G.1 p1 2).toInt) u9 k9 (aI (G_14.2.1 (F a 1)) (l5_14.toInt)) (aI (G_14.2.1 (F a 2)) (l5_14.toInt))))
    (sb : 0 ≤ ((G.1 p1 2).toInt) ∧ ((G.1 p1 2).toInt) ≤ 12)
    (e0 : 0 ≤ p2.toInt ∧ p2.toInt < 3 ∧ 0 ≤ p3.toInt ∧ p3.toInt < 30)
    (t1 : ((G1.1 a 3).toInt) = 0)
    (I14_0 : 0 ≤ l5_14.toInt ∧ l5_14.toInt ≤ 90)
    (hm14 : 100 - l5_14.toInt < (((N14) + 1 : Nat) : Int))
    (c20 : ¬ (((G_14.1 a 3).toInt) ≤ l5_14.toInt))
    (c27 : ¬ ((90 : Int) ≤ l5_14.toInt))
    (r_G_14_F_p1_1 : G_14.2.2.1 (F p1 1) = G.2.2.1 (F p1 1)) :
    ∀ z : Int, 0 ≤ z → z < (l5_14.toInt + 1) → ∀ t j : Int, inR t j → lnC G (G.2.2.1 (F p1 1)) (vw (G.2.1 (F p0 0))) ((G.1 p1 2).toInt) t j ((aI (G47.2.1 (F a 1))) z) ((aI (G47.2.1 (F a 2))) z) → bI ((aI (G47.2.1 (F a 0))) t) j = 1 := by
  have hd0 : ∀ p, p ∈ [(a, 3)] → K p.1 ≠ 9 := (List.forall_mem_cons.mpr ⟨(show K a ≠ 9 by omega), fun _ h => by cases h⟩)
  have hc : ∀ i q : Nat, i < 12 → G.2.2.1 (F p1 1) i = some q → G_14.1 q = G.1 q := fun i q hi hq => (hF_14.rule hd0 (bko i q hi hq).1).trans ((hF8.rule hd0 (bko i q hi hq).1).trans (hF1.rule hd0 (bko i q hi hq).1))
  rw [r_G_14_F_p1_1] at oq47
  obtain ⟨g1, g2, g3, g4⟩ := oq47
  try dsimp only at g4
  have g5 : ∀ t j : Int, inR t j → (bI (aI (G47.2.1 (F a 0)) t) j = 1 ↔ bI (aI (G_14.2.1 (F a 0)) t) j = 1 ∨ lnC G (G.2.2.1 (F p1 1)) (vw (G.2.1 (F p0 0))) ((G.1 p1 2).toInt) t j (aI (G_14.2.1 (F a 1)) l5_14.toInt) (aI (G_14.2.1 (F a 2)) l5_14.toInt)) := fun t j hi => by rw [g4 t j hi, lnC_cg (show (G.1 p1 2).toInt ≤ 12 by omega) hc]
  intro z z0 z1 t j hi hl
  have g6 := g3 z z0 (by omega)
  rw [g6.1, g6.2] at hl
  by_cases e : z = l5_14.toInt
  · rw [e] at hl
    exact (g5 t j hi).mpr (Or.inr hl)
  · exact (g5 t j hi).mpr (Or.inl (pc z z0 (by omega) t j hi hl))
theorem v_X3_straightOrNot_12_9 {F : Nat → Nat → Nat} (G1 : XG) (a : Nat) (G : XG) (G8 : XG) (p2 : Int32) (p3 : Int32)
    (oq8 : LGo (aI (G1.2.1 (F a 0))) (aI (G.2.1 (F a 1))) (aI (G.2.1 (F a 2))) ((G1.1 a 3).toInt) (aI (G8.2.1 (F a 0))) (aI (G8.2.1 (F a 1))) (aI (G8.2.1 (F a 2))) ((G8.1 a 3).toInt) (fun u9 k9 => u9 = p2.toInt ∧ k9 = p3.toInt)) :
    LIv (aI (G8.2.1 (F a 0))) (aI (G8.2.1 (F a 1))) (aI (G8.2.1 (F a 2))) ((G8.1 a 3).toInt) := by
  exact oq8.1
theorem v_X3_straightOrNot_12_10 {K : Nat → Nat} {F : Nat → Nat → Nat} (a : Nat) (p0 : Nat) (p1 : Nat) (G : XG) (G8 : XG) (G1 : XG) (p2 : Int32) (p3 : Int32)
    (ha : K a = 5)
    (hp0 : K p0 = 8)
    (hp1 : K p1 = 2)
    (oq8 : LGo (aI (G1.2.1 (F a 0))) (aI (G.2.1 (F a 1))) (aI (G.2.1 (F a 2))) ((G1.1 a 3).toInt) (aI (G8.2.1 (F a 0))) (aI (G8.2.1 (F a 1))) (aI (G8.2.1 (F a 2))) ((G8.1 a 3).toInt) (fun u9 k9 => u9 = p2.toInt ∧ k9 = p3.toInt))
    (sb : 0 ≤ ((G.1 p1 2).toInt) ∧ ((G.1 p1 2).toInt) ≤ 12)
    (e0 : 0 ≤ p2.toInt ∧ p2.toInt < 3 ∧ 0 ≤ p3.toInt ∧ p3.toInt < 30)
    (t1 : ((G1.1 a 3).toInt) = 0) :
    bI ((aI (G8.2.1 (F a 0))) p2.toInt) p3.toInt = 1 := by
  exact (oq8.2.2.2 _ _ ⟨by omega, by omega⟩).mpr (Or.inr ⟨rfl, rfl⟩)
theorem v_X3_straightOrNot_12_11 {F : Nat → Nat → Nat} (a : Nat) (p0 : Nat) (p1 : Nat) (G : XG) (G8 : XG) (G1 : XG) (p2 : Int32) (p3 : Int32)
    (oq1 : ∀ t : Int, 0 ≤ t → t < 3 → aI (G1.2.1 (F a 0)) t = 0)
    (oq8 : LGo (aI (G1.2.1 (F a 0))) (aI (G.2.1 (F a 1))) (aI (G.2.1 (F a 2))) ((G1.1 a 3).toInt) (aI (G8.2.1 (F a 0))) (aI (G8.2.1 (F a 1))) (aI (G8.2.1 (F a 2))) ((G8.1 a 3).toInt) (fun u9 k9 => u9 = p2.toInt ∧ k9 = p3.toInt)) :
    ∀ t j : Int, inR t j → bI ((aI (G8.2.1 (F a 0))) t) j = 1 → RCH (lnC G (G.2.2.1 (F p1 1)) (vw (G.2.1 (F p0 0))) ((G.1 p1 2).toInt)) p2.toInt p3.toInt t j := by
  intro t j hi h
  rcases (oq8.2.2.2 t j hi).mp h with h | ⟨e1, e2⟩
  · rw [oq1 t hi.1.1 hi.1.2, bI_0] at h
    exact absurd h (by decide)
  · rw [e1, e2]
    exact RCH.self _ _ _
theorem v_X3_straightOrNot_12_12 {K : Nat → Nat} {F : Nat → Nat → Nat} (a : Nat) (p0 : Nat) (p1 : Nat) (G : XG) (G8 : XG) (G1 : XG) (p2 : Int32) (p3 : Int32)
    (ha : K a = 5)
    (hp0 : K p0 = 8)
    (hp1 : K p1 = 2)
    (oq8 : LGo (aI (G1.2.1 (F a 0))) (aI (G.2.1 (F a 1))) (aI (G.2.1 (F a 2))) ((G1.1 a 3).toInt) (aI (G8.2.1 (F a 0))) (aI (G8.2.1 (F a 1))) (aI (G8.2.1 (F a 2))) ((G8.1 a 3).toInt) (fun u9 k9 => u9 = p2.toInt ∧ k9 = p3.toInt))
    (sb : 0 ≤ ((G.1 p1 2).toInt) ∧ ((G.1 p1 2).toInt) ≤ 12)
    (e0 : 0 ≤ p2.toInt ∧ p2.toInt < 3 ∧ 0 ≤ p3.toInt ∧ p3.toInt < 30)
    (t1 : ((G1.1 a 3).toInt) = 0) :
    ∀ z : Int, 0 ≤ z → z < (0 : Int) → ∀ t j : Int, inR t j → lnC G (G.2.2.1 (F p1 1)) (vw (G.2.1 (F p0 0))) ((G.1 p1 2).toInt) t j ((aI (G8.2.1 (F a 1))) z) ((aI (G8.2.1 (F a 2))) z) → bI ((aI (G8.2.1 (F a 0))) t) j = 1 := by
  intro z z0 z1
  exact absurd z0 (by omega)
theorem v_X10_leans_6_1 {F : Nat → Nat → Nat} (a : Nat) (G : XG)
    (ron : RO (vw (G.2.1 (F (F a 3) 0))) (aI (G.2.1 (F (F a 3) 1)))) :
    RO (vw (G.2.1 (F (F a 3) 0))) (aI (G.2.1 (F (F a 3) 1))) := by exact ron
theorem v_X10_leans_77_2 {K : Nat → Nat} {F : Nat → Nat → Nat} (a : Nat) (G : XG) (p0 : Int32) (p1 : Int32) (x6 : Int32) (p2 : Int32)
    (ha : K a = 12)
    (sb : 0 ≤ ((G.1 (F a 2) 2).toInt) ∧ ((G.1 (F a 2) 2).toInt) ≤ 12)
    (z5 : ¬ (0 ≤ p0.toInt ∧ p0.toInt < 3 ∧ 0 ≤ p1.toInt ∧ p1.toInt < 30) → (cel (vw (G.2.1 (F (F a 3) 0))) (p0.toInt) (p1.toInt) 0) = -2000)
    (t6 : (x6.toInt = 1 ∧ (cel (vw (G.2.1 (F (F a 3) 0))) (p0.toInt) (p1.toInt) 0) ≠ -2000) ∨ (x6.toInt = 0 ∧ (cel (vw (G.2.1 (F (F a 3) 0))) (p0.toInt) (p1.toInt) 0) = -2000))
    (c9 : x6.toInt ≠ 0)
    (c15 : ¬ p2.toInt = 0 ∧ ¬ p2.toInt = 1) :
    ((cel (vw (G.2.1 (F (F a 3) 0))) p0.toInt p1.toInt 0 = -2000 ∨ (p2.toInt ≠ 0 ∧ p2.toInt ≠ 1)) ∧ (-1 : Int) = -1) ∨ (cel (vw (G.2.1 (F (F a 3) 0))) p0.toInt p1.toInt 0 ≠ -2000 ∧ ((p2.toInt = 0 ∧ ∃ b : Int → Int, (-1 : Int) = toB b 3 ∧ ∀ t j : Int, inR t j → (bI (b t) j = 1 ↔ lnC G (G.2.2.1 (F (F a 2) 1)) (vw (G.2.1 (F (F a 3) 0))) ((G.1 (F a 2) 2).toInt) t j p0.toInt p1.toInt)) ∨ (p2.toInt = 1 ∧ ∃ b : Int → Int, (-1 : Int) = toB b 3 - 1 ∧ ∀ t j : Int, inR t j → (bI (b t) j = 1 ↔ RCH (lnC G (G.2.2.1 (F (F a 2) 1)) (vw (G.2.1 (F (F a 3) 0))) ((G.1 (F a 2) 2).toInt)) p0.toInt p1.toInt t j)))) := by
  exact Or.inl ⟨Or.inr (by omega), rfl⟩
theorem v_X10_leans_54_3 {K : Nat → Nat} {F : Nat → Nat → Nat} (a : Nat) (G : XG)
    (bko : BKr K G (G.2.2.1 (F (F a 2) 1))) :
    BKr K G (G.2.2.1 (F (F a 2) 1)) := by exact bko
theorem v_X10_leans_57_4 {K : Nat → Nat} {F : Nat → Nat → Nat} (a : Nat) (G : XG) (x54 : Int32) (p0 : Int32) (p1 : Int32) (x6 : Int32) (p2 : Int32)
    (ha : K a = 12)
    (oq54 : ∃ b : Int → Int, x54.toInt = toB b 3 ∧ ∀ t j : Int, inR t j → (bI (b t) j = 1 ↔ lnC G (G.2.2.1 (F (F a 2) 1)) (vw (G.2.1 (F (F a 3) 0))) ((G.1 (F a 2) 2).toInt) t j p0.toInt p1.toInt))
    (sb : 0 ≤ ((G.1 (F a 2) 2).toInt) ∧ ((G.1 (F a 2) 2).toInt) ≤ 12)
    (z5 : ¬ (0 ≤ p0.toInt ∧ p0.toInt < 3 ∧ 0 ≤ p1.toInt ∧ p1.toInt < 30) → (cel (vw (G.2.1 (F (F a 3) 0))) (p0.toInt) (p1.toInt) 0) = -2000)
    (t6 : (x6.toInt = 1 ∧ (cel (vw (G.2.1 (F (F a 3) 0))) (p0.toInt) (p1.toInt) 0) ≠ -2000) ∨ (x6.toInt = 0 ∧ (cel (vw (G.2.1 (F (F a 3) 0))) (p0.toInt) (p1.toInt) 0) = -2000))
    (c9 : x6.toInt ≠ 0)
    (c15 : p2.toInt = 0) :
    ((cel (vw (G.2.1 (F (F a 3) 0))) p0.toInt p1.toInt 0 = -2000 ∨ (p2.toInt ≠ 0 ∧ p2.toInt ≠ 1)) ∧ x54.toInt = -1) ∨ (cel (vw (G.2.1 (F (F a 3) 0))) p0.toInt p1.toInt 0 ≠ -2000 ∧ ((p2.toInt = 0 ∧ ∃ b : Int → Int, x54.toInt = toB b 3 ∧ ∀ t j : Int, inR t j → (bI (b t) j = 1 ↔ lnC G (G.2.2.1 (F (F a 2) 1)) (vw (G.2.1 (F (F a 3) 0))) ((G.1 (F a 2) 2).toInt) t j p0.toInt p1.toInt)) ∨ (p2.toInt = 1 ∧ ∃ b : Int → Int, x54.toInt = toB b 3 - 1 ∧ ∀ t j : Int, inR t j → (bI (b t) j = 1 ↔ RCH (lnC G (G.2.2.1 (F (F a 2) 1)) (vw (G.2.1 (F (F a 3) 0))) ((G.1 (F a 2) 2).toInt)) p0.toInt p1.toInt t j)))) := by
  exact Or.inr ⟨by omega, Or.inl ⟨by omega, oq54⟩⟩
theorem v_X10_leans_72_5 {K : Nat → Nat} {F : Nat → Nat → Nat} (a : Nat) (G : XG)
    (bko : BKr K G (G.2.2.1 (F (F a 2) 1))) :
    BKr K G (G.2.2.1 (F (F a 2) 1)) := by exact bko
theorem v_X10_leans_75_6 {K : Nat → Nat} {F : Nat → Nat → Nat} (a : Nat) (G : XG) (x72 : Int32) (p0 : Int32) (p1 : Int32) (x6 : Int32) (p2 : Int32)
    (ha : K a = 12)
    (oq72 : ∃ b : Int → Int, x72.toInt = toB b 3 - 1 ∧ ∀ t j : Int, inR t j → (bI (b t) j = 1 ↔ RCH (lnC G (G.2.2.1 (F (F a 2) 1)) (vw (G.2.1 (F (F a 3) 0))) ((G.1 (F a 2) 2).toInt)) p0.toInt p1.toInt t j))
    (sb : 0 ≤ ((G.1 (F a 2) 2).toInt) ∧ ((G.1 (F a 2) 2).toInt) ≤ 12)
    (z5 : ¬ (0 ≤ p0.toInt ∧ p0.toInt < 3 ∧ 0 ≤ p1.toInt ∧ p1.toInt < 30) → (cel (vw (G.2.1 (F (F a 3) 0))) (p0.toInt) (p1.toInt) 0) = -2000)
    (t6 : (x6.toInt = 1 ∧ (cel (vw (G.2.1 (F (F a 3) 0))) (p0.toInt) (p1.toInt) 0) ≠ -2000) ∨ (x6.toInt = 0 ∧ (cel (vw (G.2.1 (F (F a 3) 0))) (p0.toInt) (p1.toInt) 0) = -2000))
    (c9 : x6.toInt ≠ 0)
    (c15 : p2.toInt = 1) :
    ((cel (vw (G.2.1 (F (F a 3) 0))) p0.toInt p1.toInt 0 = -2000 ∨ (p2.toInt ≠ 0 ∧ p2.toInt ≠ 1)) ∧ x72.toInt = -1) ∨ (cel (vw (G.2.1 (F (F a 3) 0))) p0.toInt p1.toInt 0 ≠ -2000 ∧ ((p2.toInt = 0 ∧ ∃ b : Int → Int, x72.toInt = toB b 3 ∧ ∀ t j : Int, inR t j → (bI (b t) j = 1 ↔ lnC G (G.2.2.1 (F (F a 2) 1)) (vw (G.2.1 (F (F a 3) 0))) ((G.1 (F a 2) 2).toInt) t j p0.toInt p1.toInt)) ∨ (p2.toInt = 1 ∧ ∃ b : Int → Int, x72.toInt = toB b 3 - 1 ∧ ∀ t j : Int, inR t j → (bI (b t) j = 1 ↔ RCH (lnC G (G.2.2.1 (F (F a 2) 1)) (vw (G.2.1 (F (F a 3) 0))) ((G.1 (F a 2) 2).toInt)) p0.toInt p1.toInt t j)))) := by
  exact Or.inr ⟨by omega, Or.inr ⟨by omega, oq72⟩⟩
theorem v_X10_leans_13_7 {K : Nat → Nat} {F : Nat → Nat → Nat} (a : Nat) (G : XG) (p0 : Int32) (p1 : Int32) (x6 : Int32) (p2 : Int32)
    (ha : K a = 12)
    (sb : 0 ≤ ((G.1 (F a 2) 2).toInt) ∧ ((G.1 (F a 2) 2).toInt) ≤ 12)
    (z5 : ¬ (0 ≤ p0.toInt ∧ p0.toInt < 3 ∧ 0 ≤ p1.toInt ∧ p1.toInt < 30) → (cel (vw (G.2.1 (F (F a 3) 0))) (p0.toInt) (p1.toInt) 0) = -2000)
    (t6 : (x6.toInt = 1 ∧ (cel (vw (G.2.1 (F (F a 3) 0))) (p0.toInt) (p1.toInt) 0) ≠ -2000) ∨ (x6.toInt = 0 ∧ (cel (vw (G.2.1 (F (F a 3) 0))) (p0.toInt) (p1.toInt) 0) = -2000))
    (c9 : ¬ (x6.toInt ≠ 0)) :
    ((cel (vw (G.2.1 (F (F a 3) 0))) p0.toInt p1.toInt 0 = -2000 ∨ (p2.toInt ≠ 0 ∧ p2.toInt ≠ 1)) ∧ (-1 : Int) = -1) ∨ (cel (vw (G.2.1 (F (F a 3) 0))) p0.toInt p1.toInt 0 ≠ -2000 ∧ ((p2.toInt = 0 ∧ ∃ b : Int → Int, (-1 : Int) = toB b 3 ∧ ∀ t j : Int, inR t j → (bI (b t) j = 1 ↔ lnC G (G.2.2.1 (F (F a 2) 1)) (vw (G.2.1 (F (F a 3) 0))) ((G.1 (F a 2) 2).toInt) t j p0.toInt p1.toInt)) ∨ (p2.toInt = 1 ∧ ∃ b : Int → Int, (-1 : Int) = toB b 3 - 1 ∧ ∀ t j : Int, inR t j → (bI (b t) j = 1 ↔ RCH (lnC G (G.2.2.1 (F (F a 2) 1)) (vw (G.2.1 (F (F a 3) 0))) ((G.1 (F a 2) 2).toInt)) p0.toInt p1.toInt t j)))) := by
  exact Or.inl ⟨Or.inl (by omega), rfl⟩
