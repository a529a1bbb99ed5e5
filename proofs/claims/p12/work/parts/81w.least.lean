theorem z_X1_ofOneRow_1 (a0 : Int) (h0 : 0 ≤ a0 ∧ a0 ≤ 3) : ¬ (2147483648 - a0 < ((0 : Nat) : Int)) := by omega
theorem z_X1_ofOneRow_2 (a0 : Int) (a1 : Int) (h0 : 0 ≤ a0 ∧ a0 < 3 ∧ 0 ≤ a1 ∧ a1 < 30) : 0 ≤ a0 ∧ a0 < ((3 : Nat) : Int) := by omega
theorem z_X1_ofOneRow_3 (a0 : Int) (h0 : 0 ≤ a0 ∧ a0 ≤ 3) (h1 : ¬ ((3 : Int) ≤ a0)) : 0 ≤ a0 ∧ a0 < ((3 : Nat) : Int) := by omega
theorem z_X1_ofOneRow_5 (a0 : Int) (a1 : Int) (h0 : 0 ≤ a0 ∧ a0 ≤ 3) (h1 : a1 = (a0 + 1) ∨ (a0 + 1) < -2147483648 ∨ 2147483648 ≤ (a0 + 1)) : a1 = (a0 + 1) := by omega
theorem z_X1_ofOneRow_6 (a0 : Int) (h0 : 0 ≤ a0 ∧ a0 ≤ 3) (h1 : ¬ ((3 : Int) ≤ a0)) : 0 ≤ (a0 + 1) ∧ (a0 + 1) ≤ 3 := by omega
theorem z_X1_ofOneRow_7 (a0 : Int) (h0 : 0 ≤ a0 ∧ a0 ≤ 3) : (0 : Int) ≤ (a0 + 1) := by omega
theorem z_X1_ofOneRow_8 (a0 : Int) (a1 : Nat) (h0 : 2147483648 - a0 < ((a1 + 1 : Nat) : Int)) : 2147483648 - (a0 + 1) < ((a1 : Nat) : Int) := by omega
abbrev rm_X1_ofOneRow : Room := { frames := 1, cells := 0, slots := 0, locals := 20 }
set_option maxHeartbeats 4000000 in
set_option maxRecDepth 100000 in
theorem c_X1_ofOneRow (l : Launch) (E : XE) (K : Nat → Nat) (F : Nat → Nat → Nat) (G : XG) (a : Nat) (p0 : Int32) (p1 : Int32) (ha : K a = 3) (e0 : 0 ≤ p0.toInt ∧ p0.toInt < 3 ∧ 0 ≤ p1.toInt ∧ p1.toInt < 30) : Met l yX1_ofOneRow (xw yX1_ofOneRow cX1_ofOneRow 4 none) rm_X1_ofOneRow (va_Pc [.ref a, .int p0, .int p1] (XP E K F G)) (XQv E (fun (u : XG) => XFr [] [F a 0, F a 1] [] G u ∧ (ONb (aI (u.2.1 (F a 1))) (aI (u.2.1 (F a 0))) p0.toInt p1.toInt)) (fun u H => TW E K F u H)) 0 0 (xA E) := by
  refine x_enter (by decide) (Nat.le_of_ble_eq_true rfl) ?_
  intro p e s m args below meth c Q S hr hlk hnm hQ hP ls hl
  obtain ⟨hz, hK, hT⟩ := hP
  obtain ⟨hx, hb, -, -, -⟩ := id S
  obtain ⟨H, hT, hS, hgo⟩ : ∃ H : Heap, TW E K F G H ∧ va_S (xA E) s.heap H [] ∧ H = s.heap := ⟨_, hT, va_S.rf, rfl⟩
  rw [← hgo]
  have hl : lv_has ls 4 [(0, .ref a), (1, .int p0), (2, .int p1)] := hl
  obtain ⟨hk9999, hj9999⟩ := fkX1_0 hT ha
  obtain ⟨hk9999a, hj9999a⟩ := fkX1_1 hT ha
  refine lv_iconst (v := 0) hx hb dX1_ofOneRow_0 (by decide) ?_
  refine lv_istore_n (lv' := [(3, .int 0), (0, .ref a), (1, .int p0), (2, .int p1)]) hx hb dX1_ofOneRow_1 rfl hl (by decide) rfl (fun ls hl => ?_)
  have L2 : ∀ (N2 : Nat) (l3_2 : Int32) (G_2 : XG) (H : Heap) (locs : List Loc) (ls : Array Slot), XFr [] [F a 0, F a 1] [] G G_2 → (∀ t : Int, 0 ≤ t → t < l3_2.toInt → aI (G_2.2.1 (F a 1)) t = 0 ∧ aI (G_2.2.1 (F a 0)) t = 0) → 0 ≤ l3_2.toInt ∧ l3_2.toInt ≤ 3 → (0 : Int) ≤ l3_2.toInt → 2147483648 - l3_2.toInt < ((N2 : Nat) : Int) → TW E K F G_2 H → va_S (xA E) s.heap H locs → lv_has ls 4 [(0, .ref a), (1, .int p0), (2, .int p1), (3, .int l3_2)] → W p l e rm_X1_ofOneRow s m args below meth c H locs 0 0 Q (F0 m 2 ls []) := by
    intro N2
    induction N2 with
    | zero =>
      intro l3_2 G_2 H locs ls hF_2 pz I2_0 I2_1 hm2
      exact absurd hm2 (z_X1_ofOneRow_1 l3_2.toInt I2_0)
    | succ N2 ih2 =>
      intro l3_2 G_2 H locs ls hF_2 pz I2_0 I2_1 hm2 hT hS hl
      refine lv_iload_n hx hb dX1_ofOneRow_2 rfl (lv_at hl 3 rfl) ?_
      refine lv_iconst (v := 3) hx hb dX1_ofOneRow_3 (by decide) ?_
      refine xi_cge (tgt := 27) hx hb (rfl : Int32.toInt l3_2 = l3_2.toInt) ((by decide) : Int32.toInt 3 = (3 : Int)) dX1_ofOneRow_4 (by decide) (fun c4 => ?_) (fun c4 => ?_)
      · refine lv_iload_n hx hb dX1_ofOneRow_27 rfl (lv_at hl 1 rfl) ?_
        refine x_clp (x_runSN (As := [.int p0]) (rest := []) S (c_X10_isTable l E K F G_2 H p0) ms_X10_isTable (by decide +kernel) rfl rfl ⟨Nat.le_of_ble_eq_true rfl, Nat.le_of_ble_eq_true rfl⟩ hK (fun _ => XPh.blind) (fun U hU hW => XPh.at hK hz hS hT hU hW) rfl hl.1 (Nat.le_of_ble_eq_true rfl) dX1_ofOneRow_28 ⟨Nat.le_of_ble_eq_true rfl, Nat.le_of_ble_eq_true rfl⟩) hS ?_
        rintro _ _ locs ⟨x28, rfl, b28, t28⟩ hS
        have t28 : (x28.toInt = 1 ∧ 0 ≤ p0.toInt ∧ p0.toInt < 3) ∨ (x28.toInt = 0 ∧ (p0.toInt < 0 ∨ 3 ≤ p0.toInt)) := t28
        refine xi_zeq (tgt := 50) hx hb (rfl : Int32.toInt x28 = x28.toInt) dX1_ofOneRow_31 (by decide) (fun c31 => ?_) (fun c31 => ?_)
        · exact x_rv hx hb hr hlk hQ (Nat.le_of_ble_eq_true rfl) (Nat.le_of_ble_eq_true rfl) hS dX1_ofOneRow_50 G_2 ⟨(XFr.call XFr.rf hF_2 xm0 (xm1 0 rfl (xm1 1 rfl xm0)) xm0), (v_X1_ofOneRow_50_1 (K := K) (F := F) a G_2 l3_2 p0 p1 N2 x28 ha pz e0 I2_0 I2_1 hm2 c4 t28 c31)⟩ hT
        · refine lv_iload_n hx hb dX1_ofOneRow_34 rfl (lv_at hl 2 rfl) ?_
          refine x_clp (x_runSN (As := [.int p1]) (rest := []) S (c_X10_isKey l E K F G_2 H p1) ms_X10_isKey (by decide +kernel) rfl rfl ⟨Nat.le_of_ble_eq_true rfl, Nat.le_of_ble_eq_true rfl⟩ hK (fun _ => XPh.blind) (fun U hU hW => XPh.at hK hz hS hT hU hW) rfl hl.1 (Nat.le_of_ble_eq_true rfl) dX1_ofOneRow_35 ⟨Nat.le_of_ble_eq_true rfl, Nat.le_of_ble_eq_true rfl⟩) hS ?_
          rintro _ _ locs ⟨x35, rfl, b35, t35⟩ hS
          have t35 : (x35.toInt = 1 ∧ 0 ≤ p1.toInt ∧ p1.toInt < 30) ∨ (x35.toInt = 0 ∧ (p1.toInt < 0 ∨ 30 ≤ p1.toInt)) := t35
          refine xi_zeq (tgt := 50) hx hb (rfl : Int32.toInt x35 = x35.toInt) dX1_ofOneRow_38 (by decide) (fun c38 => ?_) (fun c38 => ?_)
          · exact x_rv hx hb hr hlk hQ (Nat.le_of_ble_eq_true rfl) (Nat.le_of_ble_eq_true rfl) hS dX1_ofOneRow_50 G_2 ⟨(XFr.call XFr.rf hF_2 xm0 (xm1 0 rfl (xm1 1 rfl xm0)) xm0), (v_X1_ofOneRow_50_2 (K := K) (F := F) a G_2 l3_2 p0 p1 N2 x28 x35 ha pz e0 I2_0 I2_1 hm2 c4 t28 c31 t35 c38)⟩ hT
          · refine lv_aload_n hx hb dX1_ofOneRow_41 rfl (lv_at hl 0 rfl) ?_
            refine gX1_0 S hK hT ha kf_X1_9 dX1_ofOneRow_42 (fun _ _ => ?_)
            refine lv_iload_n hx hb dX1_ofOneRow_45 rfl (lv_at hl 1 rfl) ?_
            refine lv_iconst (v := 1) hx hb dX1_ofOneRow_46 (by decide) ?_
            refine lv_iload_n hx hb dX1_ofOneRow_47 rfl (lv_at hl 2 rfl) ?_
            refine lv_ishl hx hb dX1_ofOneRow_48 (lv_topi (fun x48 he48 => ?_))
            refine as_0 (x := x48) S hK hT hS hk9999 ar_21 aw_21 (by decide) (z_X1_ofOneRow_2 p0.toInt p1.toInt e0) dX1_ofOneRow_49 (fun H locs hT hS => ?_)
            obtain ⟨G49, hG49⟩ : ∃ GG : XG, GG = cput G_2 (F a 0) p0.toNatClampNeg x48 := ⟨_, rfl⟩
            rw [← hG49] at hT
            exact x_rv hx hb hr hlk hQ (Nat.le_of_ble_eq_true rfl) (Nat.le_of_ble_eq_true rfl) hS dX1_ofOneRow_50 G49 ⟨(by rw [hG49]; exact XFr.cput (XFr.call XFr.rf hF_2 xm0 (xm1 0 rfl (xm1 1 rfl xm0)) xm0) (List.mem_of_getElem? (i := 0) rfl)), (v_X1_ofOneRow_50_3 (K := K) (F := F) a G_2 G49 p0 x48 l3_2 p1 N2 x28 x35 ha hG49 pz he48 e0 I2_0 I2_1 hm2 c4 t28 c31 t35 c38 (lc_c hG49 (xne_j hj9999a hj9999 (by first | decide | omega))))⟩ hT
      · refine lv_aload_n hx hb dX1_ofOneRow_7 rfl (lv_at hl 0 rfl) ?_
        refine gX1_1 S hK hT ha kf_X1_15 dX1_ofOneRow_8 (fun _ _ => ?_)
        refine lv_iload_n hx hb dX1_ofOneRow_11 rfl (lv_at hl 3 rfl) ?_
        refine lv_iconst (v := 0) hx hb dX1_ofOneRow_12 (by decide) ?_
        refine as_0 (x := 0) S hK hT hS hk9999a ar_21 aw_21 (by decide) (z_X1_ofOneRow_3 l3_2.toInt I2_0 c4) dX1_ofOneRow_13 (fun H locs hT hS => ?_)
        obtain ⟨G13, hG13⟩ : ∃ GG : XG, GG = cput G_2 (F a 1) l3_2.toNatClampNeg 0 := ⟨_, rfl⟩
        rw [← hG13] at hT
        refine lv_aload_n hx hb dX1_ofOneRow_14 rfl (lv_at hl 0 rfl) ?_
        refine gX1_0 S hK hT ha kf_X1_9 dX1_ofOneRow_15 (fun _ _ => ?_)
        refine lv_iload_n hx hb dX1_ofOneRow_18 rfl (lv_at hl 3 rfl) ?_
        refine lv_iconst (v := 0) hx hb dX1_ofOneRow_19 (by decide) ?_
        refine as_0 (x := 0) S hK hT hS hk9999 ar_21 aw_21 (by decide) (z_X1_ofOneRow_3 l3_2.toInt I2_0 c4) dX1_ofOneRow_20 (fun H locs hT hS => ?_)
        obtain ⟨G20, hG20⟩ : ∃ GG : XG, GG = cput G13 (F a 0) l3_2.toNatClampNeg 0 := ⟨_, rfl⟩
        rw [← hG20] at hT
        refine xi_iinc (n := 1) (lv' := fun z9 => [(3, .int z9), (0, .ref a), (1, .int p0), (2, .int p1)]) (k := 3) hx hb (rfl : Int32.toInt l3_2 = l3_2.toInt) (by decide) dX1_ofOneRow_21 hl rfl (by decide) (fun _ => rfl) (fun x21 ls t21 hl => ?_)
        have e21 : x21.toInt = (l3_2.toInt + 1) := (z_X1_ofOneRow_5 l3_2.toInt x21.toInt I2_0 t21)
        have hl : lv_has ls 4 [(3, .int x21), (0, .ref a), (1, .int p0), (2, .int p1)] := hl
        refine lv_goto (tgt := 2) hx hb dX1_ofOneRow_24 (by decide) ?_
        exact ih2 x21 G20 _ _ _ (by rw [hG20]; exact XFr.cput (by rw [hG13]; exact XFr.cput (XFr.call XFr.rf hF_2 xm0 (xm1 0 rfl (xm1 1 rfl xm0)) xm0) (List.mem_of_getElem? (i := 1) rfl)) (List.mem_of_getElem? (i := 0) rfl)) (by rw [(e21 : Int32.toInt x21 = (l3_2.toInt + 1))] <;> exact (v_X1_ofOneRow_24_4 (K := K) (F := F) a G_2 G13 l3_2 G20 p0 p1 N2 ha hG13 hG20 pz e0 I2_0 I2_1 hm2 c4 (lc_c hG13 (xne_j hj9999 hj9999a (by first | decide | omega))) (lc_c hG20 (xne_j hj9999a hj9999 (by first | decide | omega))))) (by rw [(e21 : Int32.toInt x21 = (l3_2.toInt + 1))] <;> exact (z_X1_ofOneRow_6 l3_2.toInt I2_0 c4)) (by rw [(e21 : Int32.toInt x21 = (l3_2.toInt + 1))] <;> exact (z_X1_ofOneRow_7 l3_2.toInt I2_0)) (by rw [(e21 : Int32.toInt x21 = (l3_2.toInt + 1))] <;> exact (z_X1_ofOneRow_8 l3_2.toInt N2 hm2)) hT hS (lv_sub hl [1, 2, 3, 0] rfl)
  exact L2 4294967297 0 G _ _ _ XFr.rf (v_X1_ofOneRow_1_5 (K := K) (F := F) a p0 p1 G ha e0) (by decide) (by decide) (by decide) hT hS (lv_sub hl [1, 2, 3, 0] rfl)

theorem z_X10_holdsOnPaper_2 (a0 : Int) (a1 : Int) (h0 : 0 ≤ a0 ∧ a0 ≤ a1) (h1 : 0 ≤ a1 ∧ a1 ≤ 12) : ¬ (100 - a0 < ((0 : Nat) : Int)) := by omega
theorem z_X10_holdsOnPaper_3 (a0 : Int) (a1 : Int) (a2 : Int) (h0 : 0 ≤ a1 ∧ a1 ≤ 12) (h1 : 0 ≤ a2 ∧ a2 ≤ 90 * a0) (h2 : ¬ (a1 ≤ a0)) : 0 ≤ a2 ∧ a2 ≤ 1080 := by omega
theorem z_X10_holdsOnPaper_4 (a0 : Int) (a1 : Int) (a2 : Int) (h0 : 0 ≤ a2 ∧ a2 ≤ 12) (h1 : 0 ≤ a0 ∧ a0 ≤ a2) (h2 : a1 = (a0 + 1) ∨ (a0 + 1) < -2147483648 ∨ 2147483648 ≤ (a0 + 1)) : a1 = (a0 + 1) := by omega
theorem z_X10_holdsOnPaper_5 (a0 : Int) (a1 : Int) (h0 : 0 ≤ a0 ∧ a0 ≤ a1) (h1 : ¬ (a1 ≤ a0)) : 0 ≤ (a0 + 1) ∧ (a0 + 1) ≤ a1 := by omega
theorem z_X10_holdsOnPaper_6 (a0 : Int) (a1 : Int) (h0 : 0 ≤ a1 ∧ a1 ≤ 90 * a0) : 0 ≤ a1 ∧ a1 ≤ 90 * (a0 + 1) := by omega
theorem z_X10_holdsOnPaper_7 (a0 : Int) (a1 : Nat) (h0 : 100 - a0 < ((a1 + 1 : Nat) : Int)) : 100 - (a0 + 1) < ((a1 : Nat) : Int) := by omega
theorem z_X10_holdsOnPaper_8 (a0 : Int) (a1 : Int) (a2 : Int) (h0 : 0 ≤ a2 ∧ a2 ≤ 90 * a0) (h1 : 0 ≤ a0 ∧ a0 < a1 ∧ a0 < 12) : 0 ≤ a2 ∧ a2 ≤ 990 := by omega
theorem z_X10_holdsOnPaper_9 (a0 : Int) (a1 : Int) (a2 : Int) (a3 : Int) (h0 : 0 ≤ a3 ∧ a3 ≤ 90 * a0) (h1 : 0 ≤ a0 ∧ a0 < a1 ∧ a0 < 12) (h2 : a3 ≤ a2 ∧ a2 ≤ a3 + 90) : 0 ≤ a2 ∧ a2 ≤ 1080 := by omega
theorem z_X10_holdsOnPaper_10 (a0 : Int) (a1 : Int) (a2 : Int) (h0 : 0 ≤ a0 ∧ a0 < a2 ∧ a0 < 12) (h1 : a1 = (a0 + 1) ∨ (a0 + 1) < -2147483648 ∨ 2147483648 ≤ (a0 + 1)) : a1 = (a0 + 1) := by omega
theorem z_X10_holdsOnPaper_12 (a0 : Int) (a1 : Int) (a2 : Int) (h0 : 0 ≤ a2 ∧ a2 ≤ 90 * a0) (h1 : a2 ≤ a1 ∧ a1 ≤ a2 + 90) : 0 ≤ a1 ∧ a1 ≤ 90 * (a0 + 1) := by omega
theorem z_X10_holdsOnPaper_14 (a0 : Int) (h0 : 0 ≤ a0 ∧ a0 ≤ 12) : 0 ≤ (0 : Int) ∧ (0 : Int) ≤ a0 := by omega
theorem z_X10_holdsOnPaper_15 (a0 : Int) (h0 : a0 = 0) : 0 ≤ a0 ∧ a0 ≤ 90 * (0 : Int) := by omega
abbrev rm_X10_holdsOnPaper : Room := { frames := 5, cells := 0, slots := 0, locals := 123 }
set_option maxHeartbeats 4000000 in
set_option maxRecDepth 100000 in
theorem c_X10_holdsOnPaper (l : Launch) (E : XE) (K : Nat → Nat) (F : Nat → Nat → Nat) (G : XG) (a : Nat) (p0 : Int32) (p1 : Int32) (ha : K a = 12) (sb : 0 ≤ ((G.1 (F a 2) 2).toInt) ∧ ((G.1 (F a 2) 2).toInt) ≤ 12) (e0 : 0 ≤ p0.toInt ∧ p0.toInt < 3 ∧ 0 ≤ p1.toInt ∧ p1.toInt < 30) (ron : RO (vw (G.2.1 (F (F a 3) 0))) (aI (G.2.1 (F (F a 3) 1)))) (rop : RO (vw (G.2.1 (F (F a 5) 0))) (aI (G.2.1 (F (F a 5) 1)))) (bko : BKr K G (G.2.2.1 (F (F a 2) 1))) (h1 : ∀ cg ch : Int → Int, ONb cg ch p0.toInt p1.toInt → CH (vw (G.2.1 (F (F a 3) 0))) (vw (G.2.1 (F (F a 5) 0))) cg ch) : Met l yX10_holdsOnPaper (xw yX10_holdsOnPaper cX10_holdsOnPaper 5 (some .boolean)) rm_X10_holdsOnPaper (va_Pc [.ref a, .int p0, .int p1] (XP E K F G)) (XQ E (fun v (u : XG) => ∃ r : Int32, v = .int r ∧ (r = 0 ∨ r = 1) ∧ XFr [(F a 11, 3), (F a 9, 6)] [F (F a 11) 0, F (F a 11) 1, F (F a 11) 2, F (F a 9) 0, F (F a 9) 1, F (F a 9) 2, F (F a 9) 3, F (F a 9) 4, F (F a 9) 5] [] G u ∧ ((r.toInt = 1 ∧ ffL (gaL G (G.2.2.1 (F (F a 2) 1)) (vw (G.2.1 (F (F a 3) 0))) (vw (G.2.1 (F (F a 5) 0))) 0 (((G.1 (F a 2) 2).toInt)).toNat) = -1) ∨ (r.toInt = 0 ∧ ffL (gaL G (G.2.2.1 (F (F a 2) 1)) (vw (G.2.1 (F (F a 3) 0))) (vw (G.2.1 (F (F a 5) 0))) 0 (((G.1 (F a 2) 2).toInt)).toNat) ≠ -1))) (fun u H => TW E K F u H)) 0 0 (xA E) := by
  refine x_enter (by decide) (Nat.le_of_ble_eq_true rfl) ?_
  intro p e s m args below meth c Q S hr hlk hnm hQ hP ls hl
  obtain ⟨hz, hK, hT⟩ := hP
  obtain ⟨hx, hb, -, -, -⟩ := id S
  obtain ⟨H, hT, hS, hgo⟩ : ∃ H : Heap, TW E K F G H ∧ va_S (xA E) s.heap H [] ∧ H = s.heap := ⟨_, hT, va_S.rf, rfl⟩
  rw [← hgo]
  have hl : lv_has ls 5 [(0, .ref a), (1, .int p0), (2, .int p1)] := hl
  obtain ⟨hk9999, hj9999⟩ := fkX10_11 hT ha
  obtain ⟨hk9999a, hj9999a⟩ := fkX10_9 hT ha
  obtain ⟨hk9999b, hj9999b⟩ := fkX1_0 hT hk9999
  obtain ⟨hk9999c, hj9999c⟩ := fkX1_1 hT hk9999
  obtain ⟨hk9999d, hj9999d⟩ := fkX1_2 hT hk9999
  obtain ⟨hk9999e, hj9999e⟩ := fkX4_0 hT hk9999a
  have hj9999f : F (F (F a 9) 0) 99 = 10 * 1 + 0 := by rw [hj9999e, hj9999a]
  obtain ⟨hk9999f, hj9999g⟩ := fkX4_1 hT hk9999a
  have hj9999h : F (F (F a 9) 1) 99 = 10 * 1 + 1 := by rw [hj9999g, hj9999a]
  obtain ⟨hk9999g, hj9999i⟩ := fkX4_2 hT hk9999a
  have hj9999j : F (F (F a 9) 2) 99 = 10 * 1 + 2 := by rw [hj9999i, hj9999a]
  obtain ⟨hk9999h, hj9999k⟩ := fkX4_3 hT hk9999a
  have hj9999l : F (F (F a 9) 3) 99 = 10 * 1 + 3 := by rw [hj9999k, hj9999a]
  obtain ⟨hk9999i, hj9999m⟩ := fkX4_4 hT hk9999a
  have hj9999n : F (F (F a 9) 4) 99 = 10 * 1 + 4 := by rw [hj9999m, hj9999a]
  obtain ⟨hk9999j, hj9999o⟩ := fkX4_5 hT hk9999a
  have hj9999p : F (F (F a 9) 5) 99 = 10 * 1 + 5 := by rw [hj9999o, hj9999a]
  obtain ⟨hk9999k, hj9999q⟩ := fkX10_2 hT ha
  obtain ⟨hk9999l, hj9999r⟩ := fkX0_1 hT hk9999k
  obtain ⟨hk9999m, hj9999s⟩ := fkX10_3 hT ha
  obtain ⟨hk9999n, hj9999t⟩ := fkX6_0 hT hk9999m
  have hj9999u : F (F (F a 3) 0) 99 = 0 := by rw [hj9999t, hj9999s]
  obtain ⟨hk9999o, hj9999v⟩ := fkX6_1 hT hk9999m
  have hj9999w : F (F (F a 3) 1) 99 = 0 := by rw [hj9999v, hj9999s]
  obtain ⟨hk9999p, hj9999y⟩ := fkX10_5 hT ha
  obtain ⟨hk9999q, hj9999z25⟩ := fkX6_0 hT hk9999p
  have hj9999z26 : F (F (F a 5) 0) 99 = 2 := by rw [hj9999z25, hj9999y]
  obtain ⟨hk9999r, hj9999z27⟩ := fkX6_1 hT hk9999p
  have hj9999z28 : F (F (F a 5) 1) 99 = 2 := by rw [hj9999z27, hj9999y]
  refine lv_aload_n hx hb dX10_holdsOnPaper_0 rfl (lv_at hl 0 rfl) ?_
  refine gX10_9 S hK hT ha kf_X10_61 dX10_holdsOnPaper_1 (fun _ _ => ?_)
  refine x_cv0 (x_runV (b := (F a 9)) (As := []) (rest := []) S (c_X4_clear l E K F G (F a 9) hk9999a) mv_X4_clear km_X10_386 rfl rfl ⟨Nat.le_of_ble_eq_true rfl, Nat.le_of_ble_eq_true rfl⟩ (rc_6 hK hT hk9999a) hK (fun _ => XP.blind) (fun U hU hW => XP.at hK hz hS hT hU hW) rfl hl.1 (Nat.le_of_ble_eq_true rfl) dX10_holdsOnPaper_4 ⟨Nat.le_of_ble_eq_true rfl, Nat.le_of_ble_eq_true rfl⟩) hS ?_
  rintro G4 H locs ⟨hF4, t4⟩ hT hS
  have t4 : ((G4.1 (F a 9) 6).toInt) = 0 := t4
  refine lv_aload_n hx hb dX10_holdsOnPaper_7 rfl (lv_at hl 0 rfl) ?_
  refine gX10_11 S hK hT ha kf_X10_70 dX10_holdsOnPaper_8 (fun _ _ => ?_)
  refine lv_iload_n hx hb dX10_holdsOnPaper_11 rfl (lv_at hl 1 rfl) ?_
  refine lv_iload_n hx hb dX10_holdsOnPaper_12 rfl (lv_at hl 2 rfl) ?_
  refine x_cv0 (x_runV (b := (F a 11)) (As := [.int p0, .int p1]) (rest := []) S (c_X1_ofOneRow l E K F G4 (F a 11) p0 p1 hk9999 (e0)) mv_X1_ofOneRow km_X10_410 rfl rfl ⟨Nat.le_of_ble_eq_true rfl, Nat.le_of_ble_eq_true rfl⟩ (rc_3 hK hT hk9999) hK (fun _ => XP.blind) (fun U hU hW => XP.at hK hz hS hT hU hW) rfl hl.1 (Nat.le_of_ble_eq_true rfl) dX10_holdsOnPaper_13 ⟨Nat.le_of_ble_eq_true rfl, Nat.le_of_ble_eq_true rfl⟩) hS ?_
  rintro G13 H locs ⟨hF13, oq13⟩ hT hS
  refine lv_iconst (v := 0) hx hb dX10_holdsOnPaper_16 (by decide) ?_
  refine lv_istore_n (lv' := [(3, .int 0), (0, .ref a), (1, .int p0), (2, .int p1)]) hx hb dX10_holdsOnPaper_17 rfl hl (by decide) rfl (fun ls hl => ?_)
  have L18 : ∀ (N18 : Nat) (l3_18 : Int32) (G_18 : XG) (H : Heap) (locs : List Loc) (ls : Array Slot), XFr [(F a 11, 3), (F a 9, 6)] [F (F a 11) 2, F (F a 9) 0, F (F a 9) 1, F (F a 9) 2, F (F a 9) 3, F (F a 9) 4, F (F a 9) 5] [] G13 G_18 → qL G_18 F (F a 9) = gaL G (G.2.2.1 (F (F a 2) 1)) (vw (G.2.1 (F (F a 3) 0))) (vw (G.2.1 (F (F a 5) 0))) 0 (l3_18.toInt).toNat → ffL (qL G_18 F (F a 9)) = -1 → 0 ≤ l3_18.toInt ∧ l3_18.toInt ≤ ((G.1 (F a 2) 2).toInt) → 0 ≤ ((G_18.1 (F a 9) 6).toInt) ∧ ((G_18.1 (F a 9) 6).toInt) ≤ 90 * l3_18.toInt → 100 - l3_18.toInt < ((N18 : Nat) : Int) → TW E K F G_18 H → va_S (xA E) s.heap H locs → lv_has ls 5 [(0, .ref a), (3, .int l3_18)] → W p l e rm_X10_holdsOnPaper s m args below meth c H locs 0 0 Q (F0 m 18 ls []) := by
    intro N18
    induction N18 with
    | zero =>
      intro l3_18 G_18 H locs ls hF_18 gp gn I18_0 I18_1 hm18
      exact absurd hm18 (z_X10_holdsOnPaper_2 l3_18.toInt ((G.1 (F a 2) 2).toInt) I18_0 sb)
    | succ N18 ih18 =>
      intro l3_18 G_18 H locs ls hF_18 gp gn I18_0 I18_1 hm18 hT hS hl
      refine lv_iload_n hx hb dX10_holdsOnPaper_18 rfl (lv_at hl 1 rfl) ?_
      refine lv_aload_n hx hb dX10_holdsOnPaper_19 rfl (lv_at hl 0 rfl) ?_
      refine gX10_2 S hK hT ha kf_X10_30 dX10_holdsOnPaper_20 (fun _ _ => ?_)
      refine x_clp (x_runV (b := (F a 2)) (As := []) (rest := [.int l3_18]) S (c_X0_size l E K F G_18 H (F a 2) hk9999k) mv_X0_size km_X10_167 rfl rfl ⟨Nat.le_of_ble_eq_true rfl, Nat.le_of_ble_eq_true rfl⟩ (rc_2 hK hT hk9999k) hK (fun _ => XPh.blind) (fun U hU hW => XPh.at hK hz hS hT hU hW) rfl hl.1 (Nat.le_of_ble_eq_true rfl) dX10_holdsOnPaper_23 ⟨Nat.le_of_ble_eq_true rfl, Nat.le_of_ble_eq_true rfl⟩) hS ?_
      rintro _ _ locs ⟨x23, rfl, t23⟩ hS
      have t23 : x23.toInt = ((G.1 (F a 2) 2).toInt) := by rw [(show (G_18.1 (F a 2) 2).toInt = ((G.1 (F a 2) 2).toInt) from (congrArg Int32.toInt ((hF_18.1 _ _ (xnj (by decide) (xnj (by decide) xn0))).trans ((hF13.1 _ _ xn0).trans (hF4.1 _ _ (xnj (by decide) xn0))))).trans (rfl : Int32.toInt (G.1 (F a 2) 2) = ((G.1 (F a 2) 2).toInt)))] at t23; exact t23
      refine xi_cge (tgt := 84) hx hb (rfl : Int32.toInt l3_18 = l3_18.toInt) (t23 : Int32.toInt x23 = ((G.1 (F a 2) 2).toInt)) dX10_holdsOnPaper_26 (by decide) (fun c26 => ?_) (fun c26 => ?_)
      · refine lv_iconst (v := 1) hx hb dX10_holdsOnPaper_84 (by decide) ?_
        exact x_rz hx hb hr (xnz (Or.inr rfl)) hlk hQ (Nat.le_of_ble_eq_true rfl) (Nat.le_of_ble_eq_true rfl) hS dX10_holdsOnPaper_85 G_18 ⟨_, rfl, (Or.inr rfl), (XFr.call (XFr.call (XFr.call XFr.rf hF4 (xm1 1 rfl xm0) xm0 xm0) hF13 xm0 (xm1 0 rfl (xm1 1 rfl xm0)) xm0) hF_18 (xm1 0 rfl (xm1 1 rfl xm0)) (xm1 2 rfl (xm1 3 rfl (xm1 4 rfl (xm1 5 rfl (xm1 6 rfl (xm1 7 rfl (xm1 8 rfl xm0))))))) xm0), (v_X10_holdsOnPaper_85_1 (K := K) (F := F) a G G4 G13 G_18 p0 p1 l3_18 N18 ha oq13 gp gn sb e0 t4 I18_0 I18_1 hm18 c26)⟩ hT
      · refine lv_aload_n hx hb dX10_holdsOnPaper_29 rfl (lv_at hl 0 rfl) ?_
        refine gX10_2 S hK hT ha kf_X10_30 dX10_holdsOnPaper_30 (fun _ _ => ?_)
        refine lv_iload_n hx hb dX10_holdsOnPaper_33 rfl (lv_at hl 1 rfl) ?_
        refine x_clp (x_runV (b := (F a 2)) (As := [.int l3_18]) (rest := []) S (c_X0_inOrder l E K F G_18 H (F a 2) l3_18 hk9999k) mv_X0_inOrder km_X10_391 rfl rfl ⟨Nat.le_of_ble_eq_true rfl, Nat.le_of_ble_eq_true rfl⟩ (rc_2 hK hT hk9999k) hK (fun _ => XPh.blind) (fun U hU hW => XPh.at hK hz hS hT hU hW) rfl hl.1 (Nat.le_of_ble_eq_true rfl) dX10_holdsOnPaper_34 ⟨Nat.le_of_ble_eq_true rfl, Nat.le_of_ble_eq_true rfl⟩) hS ?_
        rintro _ _ locs (⟨rfl, hn34⟩ | ⟨q34, rfl, hk34, ht34, hs34⟩) hS
        · refine lv_astoreN (lv' := [(4, .null), (0, .ref a), (3, .int l3_18)]) hx hb dX10_holdsOnPaper_37 hl (by decide) rfl (fun ls hl => ?_)
          refine lv_aloadN hx hb dX10_holdsOnPaper_39 (lv_at hl 0 rfl) ?_
          refine lv_ifnullN (tgt := 65) hx hb dX10_holdsOnPaper_41 (by decide) ?_
          refine lv_aload_n hx hb dX10_holdsOnPaper_65 rfl (lv_at hl 1 rfl) ?_
          refine gX10_9 S hK hT ha kf_X10_61 dX10_holdsOnPaper_66 (fun _ _ => ?_)
          refine x_clp (x_runV (b := (F a 9)) (As := []) (rest := []) S (c_X4_firstFailing l E K F G_18 H (F a 9) hk9999a (z_X10_holdsOnPaper_3 l3_18.toInt ((G.1 (F a 2) 2).toInt) ((G_18.1 (F a 9) 6).toInt) sb I18_1 c26)) mv_X4_firstFailing km_X10_244 rfl rfl ⟨Nat.le_of_ble_eq_true rfl, Nat.le_of_ble_eq_true rfl⟩ (rc_6 hK hT hk9999a) hK (fun _ => XPh.blind) (fun U hU hW => XPh.at hK hz hS hT hU hW) rfl hl.1 (Nat.le_of_ble_eq_true rfl) dX10_holdsOnPaper_69 ⟨Nat.le_of_ble_eq_true rfl, Nat.le_of_ble_eq_true rfl⟩) hS ?_
          rintro _ _ locs ⟨x69, rfl, t69, oq69⟩ hS
          have t69 : x69.toInt = -1 ∨ (0 ≤ x69.toInt ∧ x69.toInt < ((G_18.1 (F a 9) 6).toInt) ∧ (aI (G_18.2.1 (F (F a 9) 5)) (x69.toInt)) = 1) := t69
          refine lv_iconst (v := (-1)) hx hb dX10_holdsOnPaper_72 (by decide) ?_
          refine xi_ceq (tgt := 78) hx hb (rfl : Int32.toInt x69 = x69.toInt) ((by decide) : Int32.toInt (-1) = (-1 : Int)) dX10_holdsOnPaper_73 (by decide) (fun c73 => ?_) (fun c73 => ?_)
          · refine xi_iinc (n := 1) (lv' := fun z9 => [(3, .int z9), (4, .null), (0, .ref a)]) (k := 2) hx hb (rfl : Int32.toInt l3_18 = l3_18.toInt) (by decide) dX10_holdsOnPaper_78 hl rfl (by decide) (fun _ => rfl) (fun x78 ls t78 hl => ?_)
            have e78 : x78.toInt = (l3_18.toInt + 1) := (z_X10_holdsOnPaper_4 l3_18.toInt x78.toInt ((G.1 (F a 2) 2).toInt) sb I18_0 t78)
            have hl : lv_has ls 5 [(3, .int x78), (4, .null), (0, .ref a)] := hl
            refine lv_goto (tgt := 18) hx hb dX10_holdsOnPaper_81 (by decide) ?_
            exact ih18 x78 G_18 _ _ _ (XFr.call XFr.rf hF_18 (xm1 0 rfl (xm1 1 rfl xm0)) (xm1 0 rfl (xm1 1 rfl (xm1 2 rfl (xm1 3 rfl (xm1 4 rfl (xm1 5 rfl (xm1 6 rfl xm0))))))) xm0) (by rw [(e78 : Int32.toInt x78 = (l3_18.toInt + 1))] <;> exact (v_X10_holdsOnPaper_81_2 (K := K) (F := F) a G G4 G13 G_18 p0 p1 l3_18 x69 N18 ha oq13 gp gn hn34 sb e0 t4 I18_0 I18_1 hm18 c26 t69 c73 ((hF_18.2.2 _ xn0).trans ((hF13.2.2 _ xn0).trans (hF4.2.2 _ xn0))) ((hF_18.1 _ _ (xnj (by decide) (xnj (by decide) xn0))).trans ((hF13.1 _ _ xn0).trans (hF4.1 _ _ (xnj (by decide) xn0)))))) (v_X10_holdsOnPaper_81_3 (F := F) a G_18 x69 oq69 t69 c73) (by rw [(e78 : Int32.toInt x78 = (l3_18.toInt + 1))] <;> exact (z_X10_holdsOnPaper_5 l3_18.toInt ((G.1 (F a 2) 2).toInt) I18_0 c26)) (by rw [(e78 : Int32.toInt x78 = (l3_18.toInt + 1))] <;> exact (z_X10_holdsOnPaper_6 l3_18.toInt ((G_18.1 (F a 9) 6).toInt) I18_1)) (by rw [(e78 : Int32.toInt x78 = (l3_18.toInt + 1))] <;> exact (z_X10_holdsOnPaper_7 l3_18.toInt N18 hm18)) hT hS (lv_sub hl [2, 0] rfl)
          · refine lv_iconst (v := 0) hx hb dX10_holdsOnPaper_76 (by decide) ?_
            exact x_rz hx hb hr (xnz (Or.inl rfl)) hlk hQ (Nat.le_of_ble_eq_true rfl) (Nat.le_of_ble_eq_true rfl) hS dX10_holdsOnPaper_77 G_18 ⟨_, rfl, (Or.inl rfl), (XFr.call (XFr.call (XFr.call XFr.rf hF4 (xm1 1 rfl xm0) xm0 xm0) hF13 xm0 (xm1 0 rfl (xm1 1 rfl xm0)) xm0) hF_18 (xm1 0 rfl (xm1 1 rfl xm0)) (xm1 2 rfl (xm1 3 rfl (xm1 4 rfl (xm1 5 rfl (xm1 6 rfl (xm1 7 rfl (xm1 8 rfl xm0))))))) xm0), (v_X10_holdsOnPaper_77_4 (K := K) (F := F) a G G4 G13 G_18 p0 p1 l3_18 x69 N18 ha oq13 gp gn hn34 oq69 sb e0 t4 I18_0 I18_1 hm18 c26 t69 c73 ((hF_18.2.2 _ xn0).trans ((hF13.2.2 _ xn0).trans (hF4.2.2 _ xn0))))⟩ hT
        · have ht34 : 0 ≤ l3_18.toInt ∧ l3_18.toInt < ((G.1 (F a 2) 2).toInt) ∧ l3_18.toInt < 12 := by rw [(show (G_18.1 (F a 2) 2).toInt = ((G.1 (F a 2) 2).toInt) from (congrArg Int32.toInt ((hF_18.1 _ _ (xnj (by decide) (xnj (by decide) xn0))).trans ((hF13.1 _ _ xn0).trans (hF4.1 _ _ (xnj (by decide) xn0))))).trans (rfl : Int32.toInt (G.1 (F a 2) 2) = ((G.1 (F a 2) 2).toInt)))] at ht34; exact ht34
          refine lv_astore (lv' := [(4, .ref q34), (0, .ref a), (3, .int l3_18)]) hx hb dX10_holdsOnPaper_37 hl (by decide) rfl (fun ls hl => ?_)
          refine lv_aload hx hb dX10_holdsOnPaper_39 (lv_at hl 0 rfl) ?_
          refine lv_ifnull hx hb dX10_holdsOnPaper_41 ?_
          refine lv_aload_n hx hb dX10_holdsOnPaper_44 rfl (lv_at hl 1 rfl) ?_
          refine gX10_11 S hK hT ha kf_X10_70 dX10_holdsOnPaper_45 (fun _ _ => ?_)
          refine lv_aload hx hb dX10_holdsOnPaper_48 (lv_at hl 0 rfl) ?_
          refine lv_aload_n hx hb dX10_holdsOnPaper_50 rfl (lv_at hl 1 rfl) ?_
          refine gX10_3 S hK hT ha kf_X10_37 dX10_holdsOnPaper_51 (fun _ _ => ?_)
          refine lv_aload_n hx hb dX10_holdsOnPaper_54 rfl (lv_at hl 1 rfl) ?_
          refine gX10_5 S hK hT ha kf_X10_44 dX10_holdsOnPaper_55 (fun _ _ => ?_)
          refine lv_aload_n hx hb dX10_holdsOnPaper_58 rfl (lv_at hl 1 rfl) ?_
          refine gX10_9 S hK hT ha kf_X10_61 dX10_holdsOnPaper_59 (fun _ _ => ?_)
          refine x_cv0 (x_runV (b := (F a 11)) (As := [.ref q34, .ref (F a 3), .ref (F a 5), .ref (F a 9)]) (rest := []) S (c_X1_addQuestions l E K F G_18 (F a 11) q34 (F a 3) (F a 5) (F a 9) hk9999 hk34 hk9999m hk9999p hk9999a (z_X10_holdsOnPaper_8 l3_18.toInt ((G.1 (F a 2) 2).toInt) ((G_18.1 (F a 9) 6).toInt) I18_1 ht34) (v_X10_holdsOnPaper_62_5 (F := F) a G G_18 ron rop ((hF_18.2.1 _ (xn1 (xne_k hk9999n hk9999d (by decide)) (xn1 (xne_k hk9999n hk9999e (by decide)) (xn1 (xne_k hk9999n hk9999f (by decide)) (xn1 (xne_k hk9999n hk9999g (by decide)) (xn1 (xne_k hk9999n hk9999h (by decide)) (xn1 (xne_k hk9999n hk9999i (by decide)) (xn1 (xne_k hk9999n hk9999j (by decide)) xn0)))))))).trans ((hF13.2.1 _ (xn1 (xne_k hk9999n hk9999b (by decide)) (xn1 (xne_k hk9999n hk9999c (by decide)) xn0))).trans (hF4.2.1 _ xn0))) ((hF_18.2.1 _ (xn1 (xne_k hk9999o hk9999d (by decide)) (xn1 (xne_k hk9999o hk9999e (by decide)) (xn1 (xne_k hk9999o hk9999f (by decide)) (xn1 (xne_k hk9999o hk9999g (by decide)) (xn1 (xne_k hk9999o hk9999h (by decide)) (xn1 (xne_k hk9999o hk9999i (by decide)) (xn1 (xne_k hk9999o hk9999j (by decide)) xn0)))))))).trans ((hF13.2.1 _ (xn1 (xne_j hj9999w hj9999b (by first | decide | omega)) (xn1 (xne_j hj9999w hj9999c (by first | decide | omega)) xn0))).trans (hF4.2.1 _ xn0)))) (v_X10_holdsOnPaper_62_6 (F := F) a G G_18 ron rop ((hF_18.2.1 _ (xn1 (xne_k hk9999q hk9999d (by decide)) (xn1 (xne_k hk9999q hk9999e (by decide)) (xn1 (xne_k hk9999q hk9999f (by decide)) (xn1 (xne_k hk9999q hk9999g (by decide)) (xn1 (xne_k hk9999q hk9999h (by decide)) (xn1 (xne_k hk9999q hk9999i (by decide)) (xn1 (xne_k hk9999q hk9999j (by decide)) xn0)))))))).trans ((hF13.2.1 _ (xn1 (xne_k hk9999q hk9999b (by decide)) (xn1 (xne_k hk9999q hk9999c (by decide)) xn0))).trans (hF4.2.1 _ xn0))) ((hF_18.2.1 _ (xn1 (xne_k hk9999r hk9999d (by decide)) (xn1 (xne_k hk9999r hk9999e (by decide)) (xn1 (xne_k hk9999r hk9999f (by decide)) (xn1 (xne_k hk9999r hk9999g (by decide)) (xn1 (xne_k hk9999r hk9999h (by decide)) (xn1 (xne_k hk9999r hk9999i (by decide)) (xn1 (xne_k hk9999r hk9999j (by decide)) xn0)))))))).trans ((hF13.2.1 _ (xn1 (xne_j hj9999z28 hj9999b (by first | decide | omega)) (xn1 (xne_j hj9999z28 hj9999c (by first | decide | omega)) xn0))).trans (hF4.2.1 _ xn0)))) (v_X10_holdsOnPaper_62_7 (K := K) (F := F) G a G_18 l3_18 q34 bko hs34 ht34 ((hF_18.2.2 _ xn0).trans ((hF13.2.2 _ xn0).trans (hF4.2.2 _ xn0))) ((fr_A hF_18 (fun _ => (xna (xne_k hk34 hk9999 (by decide)) (xna (xne_k hk34 hk9999a (by decide)) xn0)))).trans ((fr_A hF13 (fun _ => xn0)).trans (fr_A hF4 (fun _ => (xna (xne_k hk34 hk9999a (by decide)) xn0)))))) (v_X10_holdsOnPaper_62_8 (F := F) p0 p1 G a G13 G_18 h1 oq13 (hF_18.2.1 _ (xn1 (xne_k hk9999b hk9999d (by decide)) (xn1 (xne_k hk9999b hk9999e (by decide)) (xn1 (xne_k hk9999b hk9999f (by decide)) (xn1 (xne_k hk9999b hk9999g (by decide)) (xn1 (xne_k hk9999b hk9999h (by decide)) (xn1 (xne_k hk9999b hk9999i (by decide)) (xn1 (xne_k hk9999b hk9999j (by decide)) xn0)))))))) (hF_18.2.1 _ (xn1 (xne_k hk9999c hk9999d (by decide)) (xn1 (xne_k hk9999c hk9999e (by decide)) (xn1 (xne_k hk9999c hk9999f (by decide)) (xn1 (xne_k hk9999c hk9999g (by decide)) (xn1 (xne_k hk9999c hk9999h (by decide)) (xn1 (xne_k hk9999c hk9999i (by decide)) (xn1 (xne_k hk9999c hk9999j (by decide)) xn0)))))))) ((hF_18.2.1 _ (xn1 (xne_k hk9999n hk9999d (by decide)) (xn1 (xne_k hk9999n hk9999e (by decide)) (xn1 (xne_k hk9999n hk9999f (by decide)) (xn1 (xne_k hk9999n hk9999g (by decide)) (xn1 (xne_k hk9999n hk9999h (by decide)) (xn1 (xne_k hk9999n hk9999i (by decide)) (xn1 (xne_k hk9999n hk9999j (by decide)) xn0)))))))).trans ((hF13.2.1 _ (xn1 (xne_k hk9999n hk9999b (by decide)) (xn1 (xne_k hk9999n hk9999c (by decide)) xn0))).trans (hF4.2.1 _ xn0))) ((hF_18.2.1 _ (xn1 (xne_k hk9999q hk9999d (by decide)) (xn1 (xne_k hk9999q hk9999e (by decide)) (xn1 (xne_k hk9999q hk9999f (by decide)) (xn1 (xne_k hk9999q hk9999g (by decide)) (xn1 (xne_k hk9999q hk9999h (by decide)) (xn1 (xne_k hk9999q hk9999i (by decide)) (xn1 (xne_k hk9999q hk9999j (by decide)) xn0)))))))).trans ((hF13.2.1 _ (xn1 (xne_k hk9999q hk9999b (by decide)) (xn1 (xne_k hk9999q hk9999c (by decide)) xn0))).trans (hF4.2.1 _ xn0))))) mv_X1_addQuestions km_X10_397 rfl rfl ⟨Nat.le_of_ble_eq_true rfl, Nat.le_of_ble_eq_true rfl⟩ (rc_3 hK hT hk9999) hK (fun _ => XP.blind) (fun U hU hW => XP.at hK hz hS hT hU hW) rfl hl.1 (Nat.le_of_ble_eq_true rfl) dX10_holdsOnPaper_62 ⟨Nat.le_of_ble_eq_true rfl, Nat.le_of_ble_eq_true rfl⟩) hS ?_
          rintro G62 H locs ⟨hF62, t62, oq62⟩ hT hS
          have t62 : ((G_18.1 (F a 9) 6).toInt) ≤ ((G62.1 (F a 9) 6).toInt) ∧ ((G62.1 (F a 9) 6).toInt) ≤ ((G_18.1 (F a 9) 6).toInt) + 90 := t62
          have oq62 : qL G62 F (F a 9) = qL G_18 F (F a 9) ++ uqs (vw (G.2.1 (F (F a 3) 0))) (vw (G.2.1 (F (F a 5) 0))) (G_18.1 q34) := by simp only [(show G_18.2.1 (F (F a 3) 0) = G.2.1 (F (F a 3) 0) from ((hF_18.2.1 _ (xn1 (xne_k hk9999n hk9999d (by decide)) (xn1 (xne_k hk9999n hk9999e (by decide)) (xn1 (xne_k hk9999n hk9999f (by decide)) (xn1 (xne_k hk9999n hk9999g (by decide)) (xn1 (xne_k hk9999n hk9999h (by decide)) (xn1 (xne_k hk9999n hk9999i (by decide)) (xn1 (xne_k hk9999n hk9999j (by decide)) xn0)))))))).trans ((hF13.2.1 _ (xn1 (xne_k hk9999n hk9999b (by decide)) (xn1 (xne_k hk9999n hk9999c (by decide)) xn0))).trans (hF4.2.1 _ xn0)))), (show G_18.2.1 (F (F a 5) 0) = G.2.1 (F (F a 5) 0) from ((hF_18.2.1 _ (xn1 (xne_k hk9999q hk9999d (by decide)) (xn1 (xne_k hk9999q hk9999e (by decide)) (xn1 (xne_k hk9999q hk9999f (by decide)) (xn1 (xne_k hk9999q hk9999g (by decide)) (xn1 (xne_k hk9999q hk9999h (by decide)) (xn1 (xne_k hk9999q hk9999i (by decide)) (xn1 (xne_k hk9999q hk9999j (by decide)) xn0)))))))).trans ((hF13.2.1 _ (xn1 (xne_k hk9999q hk9999b (by decide)) (xn1 (xne_k hk9999q hk9999c (by decide)) xn0))).trans (hF4.2.1 _ xn0))))] at oq62; exact oq62
          refine lv_aload_n hx hb dX10_holdsOnPaper_65 rfl (lv_at hl 1 rfl) ?_
          refine gX10_9 S hK hT ha kf_X10_61 dX10_holdsOnPaper_66 (fun _ _ => ?_)
          refine x_clp (x_runV (b := (F a 9)) (As := []) (rest := []) S (c_X4_firstFailing l E K F G62 H (F a 9) hk9999a (z_X10_holdsOnPaper_9 l3_18.toInt ((G.1 (F a 2) 2).toInt) ((G62.1 (F a 9) 6).toInt) ((G_18.1 (F a 9) 6).toInt) I18_1 ht34 t62)) mv_X4_firstFailing km_X10_244 rfl rfl ⟨Nat.le_of_ble_eq_true rfl, Nat.le_of_ble_eq_true rfl⟩ (rc_6 hK hT hk9999a) hK (fun _ => XPh.blind) (fun U hU hW => XPh.at hK hz hS hT hU hW) rfl hl.1 (Nat.le_of_ble_eq_true rfl) dX10_holdsOnPaper_69 ⟨Nat.le_of_ble_eq_true rfl, Nat.le_of_ble_eq_true rfl⟩) hS ?_
          rintro _ _ locs ⟨x69, rfl, t69, oq69⟩ hS
          have t69 : x69.toInt = -1 ∨ (0 ≤ x69.toInt ∧ x69.toInt < ((G62.1 (F a 9) 6).toInt) ∧ (aI (G62.2.1 (F (F a 9) 5)) (x69.toInt)) = 1) := t69
          refine lv_iconst (v := (-1)) hx hb dX10_holdsOnPaper_72 (by decide) ?_
          refine xi_ceq (tgt := 78) hx hb (rfl : Int32.toInt x69 = x69.toInt) ((by decide) : Int32.toInt (-1) = (-1 : Int)) dX10_holdsOnPaper_73 (by decide) (fun c73 => ?_) (fun c73 => ?_)
          · refine xi_iinc (n := 1) (lv' := fun z9 => [(3, .int z9), (4, .ref q34), (0, .ref a)]) (k := 2) hx hb (rfl : Int32.toInt l3_18 = l3_18.toInt) (by decide) dX10_holdsOnPaper_78 hl rfl (by decide) (fun _ => rfl) (fun x78 ls t78 hl => ?_)
            have e78 : x78.toInt = (l3_18.toInt + 1) := (z_X10_holdsOnPaper_10 l3_18.toInt x78.toInt ((G.1 (F a 2) 2).toInt) ht34 t78)
            have hl : lv_has ls 5 [(3, .int x78), (4, .ref q34), (0, .ref a)] := hl
            refine lv_goto (tgt := 18) hx hb dX10_holdsOnPaper_81 (by decide) ?_
            exact ih18 x78 G62 _ _ _ (XFr.call (XFr.call XFr.rf hF_18 (xm1 0 rfl (xm1 1 rfl xm0)) (xm1 0 rfl (xm1 1 rfl (xm1 2 rfl (xm1 3 rfl (xm1 4 rfl (xm1 5 rfl (xm1 6 rfl xm0))))))) xm0) hF62 (xm1 0 rfl (xm1 1 rfl xm0)) (xm1 0 rfl (xm1 1 rfl (xm1 2 rfl (xm1 3 rfl (xm1 4 rfl (xm1 5 rfl (xm1 6 rfl xm0))))))) xm0) (by rw [(e78 : Int32.toInt x78 = (l3_18.toInt + 1))] <;> exact (v_X10_holdsOnPaper_81_9 (K := K) (F := F) a q34 G G4 G13 G_18 G62 p0 p1 l3_18 x69 N18 ha oq13 gp gn hs34 oq62 sb e0 t4 I18_0 I18_1 hm18 c26 ht34 t62 t69 c73 ((hF_18.2.2 _ xn0).trans ((hF13.2.2 _ xn0).trans (hF4.2.2 _ xn0))) ((fr_A hF_18 (fun _ => (xna (xne_k hk34 hk9999 (by decide)) (xna (xne_k hk34 hk9999a (by decide)) xn0)))).trans ((fr_A hF13 (fun _ => xn0)).trans (fr_A hF4 (fun _ => (xna (xne_k hk34 hk9999a (by decide)) xn0))))))) (v_X10_holdsOnPaper_81_10 (F := F) a G62 x69 oq69 t69 c73) (by rw [(e78 : Int32.toInt x78 = (l3_18.toInt + 1))] <;> exact (z_X10_holdsOnPaper_5 l3_18.toInt ((G.1 (F a 2) 2).toInt) I18_0 c26)) (by rw [(e78 : Int32.toInt x78 = (l3_18.toInt + 1))] <;> exact (z_X10_holdsOnPaper_12 l3_18.toInt ((G62.1 (F a 9) 6).toInt) ((G_18.1 (F a 9) 6).toInt) I18_1 t62)) (by rw [(e78 : Int32.toInt x78 = (l3_18.toInt + 1))] <;> exact (z_X10_holdsOnPaper_7 l3_18.toInt N18 hm18)) hT hS (lv_sub hl [2, 0] rfl)
          · refine lv_iconst (v := 0) hx hb dX10_holdsOnPaper_76 (by decide) ?_
            exact x_rz hx hb hr (xnz (Or.inl rfl)) hlk hQ (Nat.le_of_ble_eq_true rfl) (Nat.le_of_ble_eq_true rfl) hS dX10_holdsOnPaper_77 G62 ⟨_, rfl, (Or.inl rfl), (XFr.call (XFr.call (XFr.call (XFr.call XFr.rf hF4 (xm1 1 rfl xm0) xm0 xm0) hF13 xm0 (xm1 0 rfl (xm1 1 rfl xm0)) xm0) hF_18 (xm1 0 rfl (xm1 1 rfl xm0)) (xm1 2 rfl (xm1 3 rfl (xm1 4 rfl (xm1 5 rfl (xm1 6 rfl (xm1 7 rfl (xm1 8 rfl xm0))))))) xm0) hF62 (xm1 0 rfl (xm1 1 rfl xm0)) (xm1 2 rfl (xm1 3 rfl (xm1 4 rfl (xm1 5 rfl (xm1 6 rfl (xm1 7 rfl (xm1 8 rfl xm0))))))) xm0), (v_X10_holdsOnPaper_77_11 (K := K) (F := F) a q34 G G4 G13 G_18 G62 p0 p1 l3_18 x69 N18 ha oq13 gp gn hs34 oq62 oq69 sb e0 t4 I18_0 I18_1 hm18 c26 ht34 t62 t69 c73 ((hF_18.2.2 _ xn0).trans ((hF13.2.2 _ xn0).trans (hF4.2.2 _ xn0))) ((fr_A hF_18 (fun _ => (xna (xne_k hk34 hk9999 (by decide)) (xna (xne_k hk34 hk9999a (by decide)) xn0)))).trans ((fr_A hF13 (fun _ => xn0)).trans (fr_A hF4 (fun _ => (xna (xne_k hk34 hk9999a (by decide)) xn0))))))⟩ hT
  exact L18 4294967297 0 G13 _ _ _ XFr.rf (v_X10_holdsOnPaper_17_12 (F := F) a G G4 G13 t4 (hF13.1 _ _ xn0)) (v_X10_holdsOnPaper_17_13 (F := F) a G4 G13 t4 (hF13.1 _ _ xn0)) (z_X10_holdsOnPaper_14 ((G.1 (F a 2) 2).toInt) sb) (by rw [(show (G13.1 (F a 9) 6).toInt = ((G4.1 (F a 9) 6).toInt) from (congrArg Int32.toInt (hF13.1 _ _ xn0)).trans (rfl : Int32.toInt (G4.1 (F a 9) 6) = ((G4.1 (F a 9) 6).toInt)))] <;> exact (z_X10_holdsOnPaper_15 ((G4.1 (F a 9) 6).toInt) t4)) (by decide) hT hS (lv_sub hl [1, 0] rfl)

theorem z_X10_least_1 (a0 : Int) (h0 : -99 ≤ a0 ∧ a0 ≤ 100) : ¬ (200 - a0 < ((0 : Nat) : Int)) := by omega
theorem z_X10_least_2 (a0 : Int) (a1 : Int) (h0 : (a1 = 1 ∧ 0 ≤ a0 ∧ a0 < 3) ∨ (a1 = 0 ∧ (a0 < 0 ∨ 3 ≤ a0))) (h1 : a1 ≠ 0) : 0 ≤ a0 ∧ a0 < 3 := by omega
theorem z_X10_least_3 (a0 : Int) (h0 : -99 ≤ a0 ∧ a0 ≤ 100) (h1 : ¬ ((99 : Int) < a0)) : a0 = -1000 ∨ (-99 ≤ a0 ∧ a0 ≤ 99) := by omega
theorem z_X10_least_4 (a0 : Int) (a1 : Int) (h0 : -99 ≤ a0 ∧ a0 ≤ 100) (h1 : a1 = (a0 + 1) ∨ (a0 + 1) < -2147483648 ∨ 2147483648 ≤ (a0 + 1)) : a1 = (a0 + 1) := by omega
theorem z_X10_least_5 (a0 : Int) (h0 : -99 ≤ a0 ∧ a0 ≤ 100) (h1 : ¬ ((99 : Int) < a0)) : -99 ≤ (a0 + 1) ∧ (a0 + 1) ≤ 100 := by omega
theorem z_X10_least_6 (a0 : Int) (a1 : Nat) (h0 : 200 - a0 < ((a1 + 1 : Nat) : Int)) : 200 - (a0 + 1) < ((a1 : Nat) : Int) := by omega
theorem z_X10_least_8 (a0 : Int) (a1 : Int) (a2 : Int) (a3 : Int) (h0 : ¬ (0 ≤ a0 ∧ a0 < 3 ∧ 0 ≤ a1 ∧ a1 < 30) → a3 = -2000) (h1 : (a2 = 1 ∧ a3 ≠ -2000) ∨ (a2 = 0 ∧ a3 = -2000)) (h2 : ¬ (a2 = 0)) : 0 ≤ a0 ∧ a0 < 3 ∧ 0 ≤ a1 ∧ a1 < 30 := by omega
abbrev rm_X10_least : Room := { frames := 6, cells := 0, slots := 0, locals := 147 }
set_option maxHeartbeats 4000000 in
set_option maxRecDepth 100000 in
theorem c_X10_least (l : Launch) (E : XE) (K : Nat → Nat) (F : Nat → Nat → Nat) (G : XG) (a : Nat) (p0 : Int32) (p1 : Int32) (p2 : Int32) (ha : K a = 12) (sb : 0 ≤ ((G.1 (F a 2) 2).toInt) ∧ ((G.1 (F a 2) 2).toInt) ≤ 12) (ron : RO (vw (G.2.1 (F (F a 3) 0))) (aI (G.2.1 (F (F a 3) 1)))) (bko : BKr K G (G.2.2.1 (F (F a 2) 1))) : Met l yX10_least (xw yX10_least cX10_least 6 (some .int)) rm_X10_least (va_Pc [.ref a, .int p0, .int p1, .int p2] (XP E K F G)) (XQ E (fun v (u : XG) => ∃ r : Int32, v = .int r ∧ XFr [(F a 11, 3), (F a 9, 6)] [F (F a 11) 0, F (F a 11) 1, F (F a 11) 2, F (F a 9) 0, F (F a 9) 1, F (F a 9) 2, F (F a 9) 3, F (F a 9) 4, F (F a 9) 5, F (F a 5) 0, F (F a 5) 1] [] G u ∧ ((¬ (cel (vw (G.2.1 (F (F a 3) 0))) p0.toInt p1.toInt 0 ≠ -2000 ∧ 0 ≤ p2.toInt ∧ p2.toInt < 3) ∧ r.toInt = -2147483648) ∨ ((cel (vw (G.2.1 (F (F a 3) 0))) p0.toInt p1.toInt 0 ≠ -2000 ∧ 0 ≤ p2.toInt ∧ p2.toInt < 3) ∧ LsS (fun v => ffL (gaL G (G.2.2.1 (F (F a 2) 1)) (vw (G.2.1 (F (F a 3) 0))) (rset (vw (G.2.1 (F (F a 3) 0))) (90 * p0.toInt + 30 * p2.toInt + p1.toInt) v) 0 (((G.1 (F a 2) 2).toInt)).toNat) = -1) (cel (vw (G.2.1 (F (F a 3) 0))) p0.toInt p1.toInt p2.toInt) r.toInt))) (fun u H => TW E K F u H)) 0 0 (xA E) := by
  refine x_enter (by decide) (Nat.le_of_ble_eq_true rfl) ?_
  intro p e s m args below meth c Q S hr hlk hnm hQ hP ls hl
  obtain ⟨hz, hK, hT⟩ := hP
  obtain ⟨hx, hb, -, -, -⟩ := id S
  obtain ⟨H, hT, hS, hgo⟩ : ∃ H : Heap, TW E K F G H ∧ va_S (xA E) s.heap H [] ∧ H = s.heap := ⟨_, hT, va_S.rf, rfl⟩
  rw [← hgo]
  have hl : lv_has ls 6 [(0, .ref a), (1, .int p0), (2, .int p1), (3, .int p2)] := hl
  obtain ⟨hk9999, hj9999⟩ := fkX10_11 hT ha
  obtain ⟨hk9999a, hj9999a⟩ := fkX10_9 hT ha
  obtain ⟨hk9999b, hj9999b⟩ := fkX1_0 hT hk9999
  obtain ⟨hk9999c, hj9999c⟩ := fkX1_1 hT hk9999
  obtain ⟨hk9999d, hj9999d⟩ := fkX1_2 hT hk9999
  obtain ⟨hk9999e, hj9999e⟩ := fkX4_0 hT hk9999a
  have hj9999f : F (F (F a 9) 0) 99 = 10 * 1 + 0 := by rw [hj9999e, hj9999a]
  obtain ⟨hk9999f, hj9999g⟩ := fkX4_1 hT hk9999a
  have hj9999h : F (F (F a 9) 1) 99 = 10 * 1 + 1 := by rw [hj9999g, hj9999a]
  obtain ⟨hk9999g, hj9999i⟩ := fkX4_2 hT hk9999a
  have hj9999j : F (F (F a 9) 2) 99 = 10 * 1 + 2 := by rw [hj9999i, hj9999a]
  obtain ⟨hk9999h, hj9999k⟩ := fkX4_3 hT hk9999a
  have hj9999l : F (F (F a 9) 3) 99 = 10 * 1 + 3 := by rw [hj9999k, hj9999a]
  obtain ⟨hk9999i, hj9999m⟩ := fkX4_4 hT hk9999a
  have hj9999n : F (F (F a 9) 4) 99 = 10 * 1 + 4 := by rw [hj9999m, hj9999a]
  obtain ⟨hk9999j, hj9999o⟩ := fkX4_5 hT hk9999a
  have hj9999p : F (F (F a 9) 5) 99 = 10 * 1 + 5 := by rw [hj9999o, hj9999a]
  obtain ⟨hk9999k, hj9999q⟩ := fkX10_5 hT ha
  obtain ⟨hk9999l, hj9999r⟩ := fkX6_0 hT hk9999k
  have hj9999s : F (F (F a 5) 0) 99 = 2 := by rw [hj9999r, hj9999q]
  obtain ⟨hk9999m, hj9999t⟩ := fkX6_1 hT hk9999k
  have hj9999u : F (F (F a 5) 1) 99 = 2 := by rw [hj9999t, hj9999q]
  obtain ⟨hk9999n, hj9999v⟩ := fkX10_2 hT ha
  obtain ⟨hk9999o, hj9999w⟩ := fkX0_1 hT hk9999n
  obtain ⟨hk9999p, hj9999y⟩ := fkX10_3 hT ha
  obtain ⟨hk9999q, hj9999z25⟩ := fkX6_0 hT hk9999p
  have hj9999z26 : F (F (F a 3) 0) 99 = 0 := by rw [hj9999z25, hj9999y]
  obtain ⟨hk9999r, hj9999z27⟩ := fkX6_1 hT hk9999p
  have hj9999z28 : F (F (F a 3) 1) 99 = 0 := by rw [hj9999z27, hj9999y]
  refine lv_aload_n hx hb dX10_least_0 rfl (lv_at hl 0 rfl) ?_
  refine gX10_3 S hK hT ha kf_X10_37 dX10_least_1 (fun _ _ => ?_)
  refine lv_iload_n hx hb dX10_least_4 rfl (lv_at hl 1 rfl) ?_
  have z5 : ¬ (0 ≤ p0.toInt ∧ p0.toInt < 3 ∧ 0 ≤ p1.toInt ∧ p1.toInt < 30) → (cel (vw (G.2.1 (F (F a 3) 0))) (p0.toInt) (p1.toInt) 0) = -2000 := fun h9 => cel_out (by omega)
  refine lv_iload_n hx hb dX10_least_5 rfl (lv_at hl 2 rfl) ?_
  refine x_clp (x_runV (b := (F a 3)) (As := [.int p0, .int p1]) (rest := []) S (c_X6_has l E K F G H (F a 3) p0 p1 hk9999p (v_X10_least_6_1 (F := F) a G ron)) mv_X6_has km_X10_191 rfl rfl ⟨Nat.le_of_ble_eq_true rfl, Nat.le_of_ble_eq_true rfl⟩ (rc_8 hK hT hk9999p) hK (fun _ => XPh.blind) (fun U hU hW => XPh.at hK hz hS hT hU hW) rfl hl.1 (Nat.le_of_ble_eq_true rfl) dX10_least_6 ⟨Nat.le_of_ble_eq_true rfl, Nat.le_of_ble_eq_true rfl⟩) hS ?_
  rintro _ _ locs ⟨x6, rfl, b6, t6⟩ hS
  have t6 : (x6.toInt = 1 ∧ (cel (vw (G.2.1 (F (F a 3) 0))) (p0.toInt) (p1.toInt) 0) ≠ -2000) ∨ (x6.toInt = 0 ∧ (cel (vw (G.2.1 (F (F a 3) 0))) (p0.toInt) (p1.toInt) 0) = -2000) := t6
  refine xi_zeq (tgt := 19) hx hb (rfl : Int32.toInt x6 = x6.toInt) dX10_least_9 (by decide) (fun c9 => ?_) (fun c9 => ?_)
  · refine lv_ldcw (v := (-2147483648)) hx hb S.2.2.2.1 (S.2.2.2.2 _ (List.mem_cons_of_mem _ kc_X10_274)) dX10_least_19 ?_
    exact x_ri hx hb hr hlk hQ (Nat.le_of_ble_eq_true rfl) (Nat.le_of_ble_eq_true rfl) hS dX10_least_22 G ⟨_, rfl, XFr.rf, (by rw [((by decide) : Int32.toInt (-2147483648) = (-2147483648 : Int))] <;> exact (v_X10_least_22_2 (K := K) (F := F) a G p0 p1 x6 p2 ha sb z5 t6 c9))⟩ hT
  · refine lv_iload_n hx hb dX10_least_12 rfl (lv_at hl 3 rfl) ?_
    refine x_clp (x_runS (As := [.int p2]) (rest := []) S (c_X10_isColumn l E K F G H p2) ms_X10_isColumn km_X10_255 rfl rfl ⟨Nat.le_of_ble_eq_true rfl, Nat.le_of_ble_eq_true rfl⟩ hK (fun _ => XPh.blind) (fun U hU hW => XPh.at hK hz hS hT hU hW) rfl hl.1 (Nat.le_of_ble_eq_true rfl) dX10_least_13 ⟨Nat.le_of_ble_eq_true rfl, Nat.le_of_ble_eq_true rfl⟩) hS ?_
    rintro _ _ locs ⟨x13, rfl, b13, t13⟩ hS
    have t13 : (x13.toInt = 1 ∧ 0 ≤ p2.toInt ∧ p2.toInt < 3) ∨ (x13.toInt = 0 ∧ (p2.toInt < 0 ∨ 3 ≤ p2.toInt)) := t13
    refine xi_zne (tgt := 23) hx hb (rfl : Int32.toInt x13 = x13.toInt) dX10_least_16 (by decide) (fun c16 => ?_) (fun c16 => ?_)
    · refine lv_aload_n hx hb dX10_least_23 rfl (lv_at hl 0 rfl) ?_
      refine gX10_3 S hK hT ha kf_X10_37 dX10_least_24 (fun _ _ => ?_)
      refine lv_iload_n hx hb dX10_least_27 rfl (lv_at hl 1 rfl) ?_
      refine lv_iload_n hx hb dX10_least_28 rfl (lv_at hl 2 rfl) ?_
      refine lv_iload_n hx hb dX10_least_29 rfl (lv_at hl 3 rfl) ?_
      refine x_clp (x_runV (b := (F a 3)) (As := [.int p0, .int p1, .int p2]) (rest := []) S (c_X6_cell l E K F G H (F a 3) p0 p1 p2 hk9999p) mv_X6_cell km_X10_265 rfl rfl ⟨Nat.le_of_ble_eq_true rfl, Nat.le_of_ble_eq_true rfl⟩ (rc_8 hK hT hk9999p) hK (fun _ => XPh.blind) (fun U hU hW => XPh.at hK hz hS hT hU hW) rfl hl.1 (Nat.le_of_ble_eq_true rfl) dX10_least_30 ⟨Nat.le_of_ble_eq_true rfl, Nat.le_of_ble_eq_true rfl⟩) hS ?_
      rintro _ _ locs ⟨x30, rfl, t30⟩ hS
      have t30 : x30.toInt = (cel (vw (G.2.1 (F (F a 3) 0))) (p0.toInt) (p1.toInt) (p2.toInt)) := t30
      refine lv_istore (lv' := [(4, .int x30), (0, .ref a), (1, .int p0), (2, .int p1), (3, .int p2)]) hx hb dX10_least_33 hl (by decide) rfl (fun ls hl => ?_)
      refine lv_aload_n hx hb dX10_least_35 rfl (lv_at hl 1 rfl) ?_
      refine gX10_5 S hK hT ha kf_X10_44 dX10_least_36 (fun _ _ => ?_)
      refine lv_aload_n hx hb dX10_least_39 rfl (lv_at hl 1 rfl) ?_
      refine gX10_3 S hK hT ha kf_X10_37 dX10_least_40 (fun _ _ => ?_)
      refine x_cv0 (x_runV (b := (F a 5)) (As := [.ref (F a 3)]) (rest := []) S (c_X6_copy l E K F G (F a 5) (F a 3) hk9999k hk9999p (v_X10_least_43_3 (F := F) a G ron)) mv_X6_copy km_X10_195 rfl rfl ⟨Nat.le_of_ble_eq_true rfl, Nat.le_of_ble_eq_true rfl⟩ (rc_8 hK hT hk9999k) hK (fun _ => XP.blind) (fun U hU hW => XP.at hK hz hS hT hU hW) rfl hl.1 (Nat.le_of_ble_eq_true rfl) dX10_least_43 ⟨Nat.le_of_ble_eq_true rfl, Nat.le_of_ble_eq_true rfl⟩) hS ?_
      rintro G43 H locs ⟨hF43, oq43, oq43a⟩ hT hS
      refine lv_bipush (v := (-99)) hx hb dX10_least_46 (by decide) ?_
      refine lv_istore (lv' := [(5, .int (-99)), (4, .int x30), (0, .ref a), (1, .int p0), (2, .int p1), (3, .int p2)]) hx hb dX10_least_48 hl (by decide) rfl (fun ls hl => ?_)
      have L50 : ∀ (N50 : Nat) (l5_50 : Int32) (G_50 : XG) (H : Heap) (locs : List Loc) (ls : Array Slot), XFr [(F a 11, 3), (F a 9, 6)] [F (F a 11) 0, F (F a 11) 1, F (F a 11) 2, F (F a 9) 0, F (F a 9) 1, F (F a 9) 2, F (F a 9) 3, F (F a 9) 4, F (F a 9) 5, F (F a 5) 0, F (F a 5) 1] [] G43 G_50 → (∀ v : Int, rset (vw (G_50.2.1 (F (F a 5) 0))) (90 * p0.toInt + 30 * p2.toInt + p1.toInt) v = rset (vw (G.2.1 (F (F a 3) 0))) (90 * p0.toInt + 30 * p2.toInt + p1.toInt) v) → RO (vw (G_50.2.1 (F (F a 5) 0))) (aI (G_50.2.1 (F (F a 5) 1))) → cel (vw (G_50.2.1 (F (F a 5) 0))) p0.toInt p1.toInt 0 ≠ -2000 → (∀ v : Int, -99 ≤ v → v < l5_50.toInt → v ≠ cel (vw (G.2.1 (F (F a 3) 0))) p0.toInt p1.toInt p2.toInt → ffL (gaL G (G.2.2.1 (F (F a 2) 1)) (vw (G.2.1 (F (F a 3) 0))) (rset (vw (G.2.1 (F (F a 3) 0))) (90 * p0.toInt + 30 * p2.toInt + p1.toInt) v) 0 ((G.1 (F a 2) 2).toInt).toNat) ≠ -1) → -99 ≤ l5_50.toInt ∧ l5_50.toInt ≤ 100 → 200 - l5_50.toInt < ((N50 : Nat) : Int) → TW E K F G_50 H → va_S (xA E) s.heap H locs → lv_has ls 6 [(0, .ref a), (1, .int p0), (2, .int p1), (3, .int p2), (4, .int x30), (5, .int l5_50)] → W p l e rm_X10_least s m args below meth c H locs 0 0 Q (F0 m 50 ls []) := by
        intro N50
        induction N50 with
        | zero =>
          intro l5_50 G_50 H locs ls hF_50 pp ro ph lp I50_0 hm50
          exact absurd hm50 (z_X10_least_1 l5_50.toInt I50_0)
        | succ N50 ih50 =>
          intro l5_50 G_50 H locs ls hF_50 pp ro ph lp I50_0 hm50 hT hS hl
          refine lv_iload hx hb dX10_least_50 (lv_at hl 5 rfl) ?_
          refine lv_bipush (v := 99) hx hb dX10_least_52 (by decide) ?_
          refine xi_cgt (tgt := 94) hx hb (rfl : Int32.toInt l5_50 = l5_50.toInt) ((by decide) : Int32.toInt 99 = (99 : Int)) dX10_least_54 (by decide) (fun c54 => ?_) (fun c54 => ?_)
          · refine lv_ldcw (v := (-2147483648)) hx hb S.2.2.2.1 (S.2.2.2.2 _ (List.mem_cons_of_mem _ kc_X10_274)) dX10_least_94 ?_
            exact x_ri hx hb hr hlk hQ (Nat.le_of_ble_eq_true rfl) (Nat.le_of_ble_eq_true rfl) hS dX10_least_97 G_50 ⟨_, rfl, (XFr.call (XFr.call XFr.rf hF43 xm0 (xm1 9 rfl (xm1 10 rfl xm0)) xm0) hF_50 (xm1 0 rfl (xm1 1 rfl xm0)) (xm1 0 rfl (xm1 1 rfl (xm1 2 rfl (xm1 3 rfl (xm1 4 rfl (xm1 5 rfl (xm1 6 rfl (xm1 7 rfl (xm1 8 rfl (xm1 9 rfl (xm1 10 rfl xm0))))))))))) xm0), (by rw [((by decide) : Int32.toInt (-2147483648) = (-2147483648 : Int))] <;> exact (v_X10_least_97_4 (K := K) (F := F) a G G_50 p0 p1 p2 l5_50 x6 x13 N50 ha ph lp sb z5 t6 c9 t13 c16 I50_0 hm50 c54))⟩ hT
          · refine lv_aload_n hx hb dX10_least_57 rfl (lv_at hl 0 rfl) ?_
            refine gX10_5 S hK hT ha kf_X10_44 dX10_least_58 (fun _ _ => ?_)
            refine lv_iload_n hx hb dX10_least_61 rfl (lv_at hl 1 rfl) ?_
            refine lv_iload_n hx hb dX10_least_62 rfl (lv_at hl 2 rfl) ?_
            refine lv_iload_n hx hb dX10_least_63 rfl (lv_at hl 3 rfl) ?_
            refine lv_iload hx hb dX10_least_64 (lv_at hl 5 rfl) ?_
            refine x_cv0 (x_runV (b := (F a 5)) (As := [.int p0, .int p1, .int p2, .int l5_50]) (rest := []) S (c_X6_change l E K F G_50 (F a 5) p0 p1 p2 l5_50 hk9999k (z_X10_least_2 p2.toInt x13.toInt t13 c16) (z_X10_least_3 l5_50.toInt I50_0 c54) (v_X10_least_66_5 (F := F) a G_50 ro)) mv_X6_change km_X10_203 rfl rfl ⟨Nat.le_of_ble_eq_true rfl, Nat.le_of_ble_eq_true rfl⟩ (rc_8 hK hT hk9999k) hK (fun _ => XP.blind) (fun U hU hW => XP.at hK hz hS hT hU hW) rfl hl.1 (Nat.le_of_ble_eq_true rfl) dX10_least_66 ⟨Nat.le_of_ble_eq_true rfl, Nat.le_of_ble_eq_true rfl⟩) hS ?_
            rintro G66 H locs ⟨hF66, oq66, oq66a⟩ hT hS
            refine lv_iload hx hb dX10_least_69 (lv_at hl 5 rfl) ?_
            refine lv_iload hx hb dX10_least_71 (lv_at hl 4 rfl) ?_
            refine xi_ceq (tgt := 88) hx hb (rfl : Int32.toInt l5_50 = l5_50.toInt) (t30 : Int32.toInt x30 = (cel (vw (G.2.1 (F (F a 3) 0))) (p0.toInt) (p1.toInt) (p2.toInt))) dX10_least_73 (by decide) (fun c73 => ?_) (fun c73 => ?_)
            · refine xi_iinc (n := 1) (lv' := fun z9 => [(5, .int z9), (0, .ref a), (1, .int p0), (2, .int p1), (3, .int p2), (4, .int x30)]) (k := 5) hx hb (rfl : Int32.toInt l5_50 = l5_50.toInt) (by decide) dX10_least_88 hl rfl (by decide) (fun _ => rfl) (fun x88 ls t88 hl => ?_)
              have e88 : x88.toInt = (l5_50.toInt + 1) := (z_X10_least_4 l5_50.toInt x88.toInt I50_0 t88)
              have hl : lv_has ls 6 [(5, .int x88), (0, .ref a), (1, .int p0), (2, .int p1), (3, .int p2), (4, .int x30)] := hl
              refine lv_goto (tgt := 50) hx hb dX10_least_91 (by decide) ?_
              exact ih50 x88 G66 _ _ _ (XFr.call (XFr.call XFr.rf hF_50 (xm1 0 rfl (xm1 1 rfl xm0)) (xm1 0 rfl (xm1 1 rfl (xm1 2 rfl (xm1 3 rfl (xm1 4 rfl (xm1 5 rfl (xm1 6 rfl (xm1 7 rfl (xm1 8 rfl (xm1 9 rfl (xm1 10 rfl xm0))))))))))) xm0) hF66 xm0 (xm1 9 rfl xm0) xm0) (v_X10_least_91_6 (F := F) G_50 a p0 p2 p1 G G66 l5_50 pp ph oq66) (by rw [(show G66.2.1 (F (F a 5) 1) = G_50.2.1 (F (F a 5) 1) from (hF66.2.1 _ (xn1 (xne_k hk9999m hk9999l (by decide)) xn0)))] <;> exact (v_X10_least_91_7 (F := F) G66 a G_50 oq66a (hF66.2.1 _ (xn1 (xne_k hk9999m hk9999l (by decide)) xn0)))) (v_X10_least_91_8 (F := F) G_50 a p0 p1 G66 p2 l5_50 G x6 x13 ph oq66 z5 t6 c9 t13 c16 I50_0 c54) (by rw [(e88 : Int32.toInt x88 = (l5_50.toInt + 1))] <;> exact (v_X10_least_91_9 (K := K) (F := F) a G G66 G_50 p0 p1 p2 l5_50 x6 x13 N50 ha hk9999 hj9999 hk9999a hj9999a hk9999b hj9999b hk9999c hj9999c hk9999d hj9999d hk9999e hj9999f hk9999f hj9999h hk9999g hj9999j hk9999h hj9999l hk9999i hj9999n hk9999j hj9999p hk9999k hj9999q hk9999l hj9999s hk9999m hj9999u hk9999n hj9999v hk9999o hj9999w hk9999p hj9999y hk9999q hj9999z26 hk9999r hj9999z28 (XFr.call (XFr.call (XFr.call XFr.rf hF43 xm0 (xm1 9 rfl (xm1 10 rfl xm0)) xm0) hF_50 (xm1 0 rfl (xm1 1 rfl xm0)) (xm1 0 rfl (xm1 1 rfl (xm1 2 rfl (xm1 3 rfl (xm1 4 rfl (xm1 5 rfl (xm1 6 rfl (xm1 7 rfl (xm1 8 rfl (xm1 9 rfl (xm1 10 rfl xm0))))))))))) xm0) hF66 xm0 (xm1 9 rfl xm0) xm0) bko pp ph lp oq66 sb z5 t6 c9 t13 c16 I50_0 hm50 c54 c73 ((hF66.2.2 _ xn0).trans ((hF_50.2.2 _ xn0).trans (hF43.2.2 _ xn0))))) (by rw [(e88 : Int32.toInt x88 = (l5_50.toInt + 1))] <;> exact (z_X10_least_5 l5_50.toInt I50_0 c54)) (by rw [(e88 : Int32.toInt x88 = (l5_50.toInt + 1))] <;> exact (z_X10_least_6 l5_50.toInt N50 hm50)) hT hS (lv_sub hl [1, 2, 3, 4, 5, 0] rfl)
            · refine lv_aload_n hx hb dX10_least_76 rfl (lv_at hl 0 rfl) ?_
              refine lv_iload_n hx hb dX10_least_77 rfl (lv_at hl 1 rfl) ?_
              refine lv_iload_n hx hb dX10_least_78 rfl (lv_at hl 2 rfl) ?_
              refine x_cl0 (x_runV (b := a) (As := [.int p0, .int p1]) (rest := []) S (c_X10_holdsOnPaper l E K F G66 a p0 p1 ha (by rw [(show (G66.1 (F a 2) 2).toInt = ((G.1 (F a 2) 2).toInt) from (congrArg Int32.toInt ((hF66.1 _ _ xn0).trans ((hF_50.1 _ _ (xnj (by decide) (xnj (by decide) xn0))).trans (hF43.1 _ _ xn0)))).trans (rfl : Int32.toInt (G.1 (F a 2) 2) = ((G.1 (F a 2) 2).toInt)))] <;> exact (sb)) (z_X10_least_8 p0.toInt p1.toInt x6.toInt (cel (vw (G.2.1 (F (F a 3) 0))) (p0.toInt) (p1.toInt) 0) z5 t6 c9) (v_X10_least_79_10 (F := F) a G G66 G43 G_50 ron oq43a ro oq66a ((hF66.2.1 _ (xn1 (xne_j hj9999z26 hj9999s (by first | decide | omega)) xn0)).trans ((hF_50.2.1 _ (xn1 (xne_k hk9999q hk9999b (by decide)) (xn1 (xne_k hk9999q hk9999c (by decide)) (xn1 (xne_k hk9999q hk9999d (by decide)) (xn1 (xne_k hk9999q hk9999e (by decide)) (xn1 (xne_k hk9999q hk9999f (by decide)) (xn1 (xne_k hk9999q hk9999g (by decide)) (xn1 (xne_k hk9999q hk9999h (by decide)) (xn1 (xne_k hk9999q hk9999i (by decide)) (xn1 (xne_k hk9999q hk9999j (by decide)) (xn1 (xne_j hj9999z26 hj9999s (by first | decide | omega)) (xn1 (xne_k hk9999q hk9999m (by decide)) xn0)))))))))))).trans (hF43.2.1 _ (xn1 (xne_j hj9999z26 hj9999s (by first | decide | omega)) (xn1 (xne_k hk9999q hk9999m (by decide)) xn0))))) ((hF66.2.1 _ (xn1 (xne_k hk9999r hk9999l (by decide)) xn0)).trans ((hF_50.2.1 _ (xn1 (xne_j hj9999z28 hj9999b (by first | decide | omega)) (xn1 (xne_j hj9999z28 hj9999c (by first | decide | omega)) (xn1 (xne_k hk9999r hk9999d (by decide)) (xn1 (xne_k hk9999r hk9999e (by decide)) (xn1 (xne_k hk9999r hk9999f (by decide)) (xn1 (xne_k hk9999r hk9999g (by decide)) (xn1 (xne_k hk9999r hk9999h (by decide)) (xn1 (xne_k hk9999r hk9999i (by decide)) (xn1 (xne_k hk9999r hk9999j (by decide)) (xn1 (xne_k hk9999r hk9999l (by decide)) (xn1 (xne_j hj9999z28 hj9999u (by first | decide | omega)) xn0)))))))))))).trans (hF43.2.1 _ (xn1 (xne_k hk9999r hk9999l (by decide)) (xn1 (xne_j hj9999z28 hj9999u (by first | decide | omega)) xn0)))))) (v_X10_least_79_11 (F := F) G66 a oq66a) (v_X10_least_79_12 (K := K) (F := F) a G G66 G43 G_50 x30 p0 p1 p2 l5_50 x6 x13 N50 ha hk9999 hj9999 hk9999a hj9999a hk9999b hj9999b hk9999c hj9999c hk9999d hj9999d hk9999e hj9999f hk9999f hj9999h hk9999g hj9999j hk9999h hj9999l hk9999i hj9999n hk9999j hj9999p hk9999k hj9999q hk9999l hj9999s hk9999m hj9999u hk9999n hj9999v hk9999o hj9999w hk9999p hj9999y hk9999q hj9999z26 hk9999r hj9999z28 (XFr.call (XFr.call (XFr.call XFr.rf hF43 xm0 (xm1 9 rfl (xm1 10 rfl xm0)) xm0) hF_50 (xm1 0 rfl (xm1 1 rfl xm0)) (xm1 0 rfl (xm1 1 rfl (xm1 2 rfl (xm1 3 rfl (xm1 4 rfl (xm1 5 rfl (xm1 6 rfl (xm1 7 rfl (xm1 8 rfl (xm1 9 rfl (xm1 10 rfl xm0))))))))))) xm0) hF66 xm0 (xm1 9 rfl xm0) xm0) hF43 hF_50 hF66 ron bko t30 oq43 oq43a pp ro ph lp oq66 oq66a sb z5 t6 c9 t13 c16 I50_0 hm50 c54 c73 (hF66.2.1 _ (xn1 (xne_k hk9999b hk9999l (by decide)) xn0)) (hF66.2.1 _ (xn1 (xne_k hk9999c hk9999l (by decide)) xn0)) (hF66.2.1 _ (xn1 (xne_k hk9999d hk9999l (by decide)) xn0)) ((hF66.2.1 _ (xn1 (xne_j hj9999z26 hj9999s (by first | decide | omega)) xn0)).trans ((hF_50.2.1 _ (xn1 (xne_k hk9999q hk9999b (by decide)) (xn1 (xne_k hk9999q hk9999c (by decide)) (xn1 (xne_k hk9999q hk9999d (by decide)) (xn1 (xne_k hk9999q hk9999e (by decide)) (xn1 (xne_k hk9999q hk9999f (by decide)) (xn1 (xne_k hk9999q hk9999g (by decide)) (xn1 (xne_k hk9999q hk9999h (by decide)) (xn1 (xne_k hk9999q hk9999i (by decide)) (xn1 (xne_k hk9999q hk9999j (by decide)) (xn1 (xne_j hj9999z26 hj9999s (by first | decide | omega)) (xn1 (xne_k hk9999q hk9999m (by decide)) xn0)))))))))))).trans (hF43.2.1 _ (xn1 (xne_j hj9999z26 hj9999s (by first | decide | omega)) (xn1 (xne_k hk9999q hk9999m (by decide)) xn0))))) (hF66.2.1 _ (xn1 (xne_k hk9999m hk9999l (by decide)) xn0)) (hF66.2.1 _ (xn1 (xne_k hk9999e hk9999l (by decide)) xn0)) (hF66.2.1 _ (xn1 (xne_k hk9999f hk9999l (by decide)) xn0)) (hF66.2.1 _ (xn1 (xne_k hk9999g hk9999l (by decide)) xn0)) (hF66.2.1 _ (xn1 (xne_k hk9999h hk9999l (by decide)) xn0)) (hF66.2.1 _ (xn1 (xne_k hk9999i hk9999l (by decide)) xn0)) (hF66.2.1 _ (xn1 (xne_k hk9999j hk9999l (by decide)) xn0)) ((hF66.2.2 _ xn0).trans ((hF_50.2.2 _ xn0).trans (hF43.2.2 _ xn0))) (hF66.1 _ _ xn0) (hF66.1 _ _ xn0)) (v_X10_least_79_13 (F := F) G a p0 p1 p2 G_50 G66 l5_50 x6 x13 ron pp ph oq66 z5 t6 c9 t13 c16 I50_0 c54 c73 ((hF66.2.1 _ (xn1 (xne_j hj9999z26 hj9999s (by first | decide | omega)) xn0)).trans ((hF_50.2.1 _ (xn1 (xne_k hk9999q hk9999b (by decide)) (xn1 (xne_k hk9999q hk9999c (by decide)) (xn1 (xne_k hk9999q hk9999d (by decide)) (xn1 (xne_k hk9999q hk9999e (by decide)) (xn1 (xne_k hk9999q hk9999f (by decide)) (xn1 (xne_k hk9999q hk9999g (by decide)) (xn1 (xne_k hk9999q hk9999h (by decide)) (xn1 (xne_k hk9999q hk9999i (by decide)) (xn1 (xne_k hk9999q hk9999j (by decide)) (xn1 (xne_j hj9999z26 hj9999s (by first | decide | omega)) (xn1 (xne_k hk9999q hk9999m (by decide)) xn0)))))))))))).trans (hF43.2.1 _ (xn1 (xne_j hj9999z26 hj9999s (by first | decide | omega)) (xn1 (xne_k hk9999q hk9999m (by decide)) xn0))))))) mv_X10_holdsOnPaper km_X10_365 rfl rfl ⟨Nat.le_of_ble_eq_true rfl, Nat.le_of_ble_eq_true rfl⟩ (rc_12 hK hT ha) hK (fun _ => XP.blind) (fun U hU hW => XP.at hK hz hS hT hU hW) rfl hl.1 (Nat.le_of_ble_eq_true rfl) dX10_least_79 ⟨Nat.le_of_ble_eq_true rfl, Nat.le_of_ble_eq_true rfl⟩) hS ?_
              rintro _ G79 H locs ⟨x79, rfl, b79, hF79, oq79⟩ hT hS
              have oq79 : (x79.toInt = 1 ∧ ffL (gaL G66 (G66.2.2.1 (F (F a 2) 1)) (vw (G.2.1 (F (F a 3) 0))) (vw (G66.2.1 (F (F a 5) 0))) 0 (((G.1 (F a 2) 2).toInt)).toNat) = -1) ∨ (x79.toInt = 0 ∧ ffL (gaL G66 (G66.2.2.1 (F (F a 2) 1)) (vw (G.2.1 (F (F a 3) 0))) (vw (G66.2.1 (F (F a 5) 0))) 0 (((G.1 (F a 2) 2).toInt)).toNat) ≠ -1) := by simp only [(show G66.2.1 (F (F a 3) 0) = G.2.1 (F (F a 3) 0) from ((hF66.2.1 _ (xn1 (xne_j hj9999z26 hj9999s (by first | decide | omega)) xn0)).trans ((hF_50.2.1 _ (xn1 (xne_k hk9999q hk9999b (by decide)) (xn1 (xne_k hk9999q hk9999c (by decide)) (xn1 (xne_k hk9999q hk9999d (by decide)) (xn1 (xne_k hk9999q hk9999e (by decide)) (xn1 (xne_k hk9999q hk9999f (by decide)) (xn1 (xne_k hk9999q hk9999g (by decide)) (xn1 (xne_k hk9999q hk9999h (by decide)) (xn1 (xne_k hk9999q hk9999i (by decide)) (xn1 (xne_k hk9999q hk9999j (by decide)) (xn1 (xne_j hj9999z26 hj9999s (by first | decide | omega)) (xn1 (xne_k hk9999q hk9999m (by decide)) xn0)))))))))))).trans (hF43.2.1 _ (xn1 (xne_j hj9999z26 hj9999s (by first | decide | omega)) (xn1 (xne_k hk9999q hk9999m (by decide)) xn0)))))), (show G66.1 (F a 2) 2 = G.1 (F a 2) 2 from ((hF66.1 _ _ xn0).trans ((hF_50.1 _ _ (xnj (by decide) (xnj (by decide) xn0))).trans (hF43.1 _ _ xn0))))] at oq79; exact oq79
              refine xi_zeq (tgt := 88) hx hb (rfl : Int32.toInt x79 = x79.toInt) dX10_least_82 (by decide) (fun c82 => ?_) (fun c82 => ?_)
              · refine xi_iinc (n := 1) (lv' := fun z9 => [(5, .int z9), (0, .ref a), (1, .int p0), (2, .int p1), (3, .int p2), (4, .int x30)]) (k := 5) hx hb (rfl : Int32.toInt l5_50 = l5_50.toInt) (by decide) dX10_least_88 hl rfl (by decide) (fun _ => rfl) (fun x88 ls t88 hl => ?_)
                have e88 : x88.toInt = (l5_50.toInt + 1) := (z_X10_least_4 l5_50.toInt x88.toInt I50_0 t88)
                have hl : lv_has ls 6 [(5, .int x88), (0, .ref a), (1, .int p0), (2, .int p1), (3, .int p2), (4, .int x30)] := hl
                refine lv_goto (tgt := 50) hx hb dX10_least_91 (by decide) ?_
                exact ih50 x88 G79 _ _ _ (XFr.call (XFr.call (XFr.call XFr.rf hF_50 (xm1 0 rfl (xm1 1 rfl xm0)) (xm1 0 rfl (xm1 1 rfl (xm1 2 rfl (xm1 3 rfl (xm1 4 rfl (xm1 5 rfl (xm1 6 rfl (xm1 7 rfl (xm1 8 rfl (xm1 9 rfl (xm1 10 rfl xm0))))))))))) xm0) hF66 xm0 (xm1 9 rfl xm0) xm0) hF79 (xm1 0 rfl (xm1 1 rfl xm0)) (xm1 0 rfl (xm1 1 rfl (xm1 2 rfl (xm1 3 rfl (xm1 4 rfl (xm1 5 rfl (xm1 6 rfl (xm1 7 rfl (xm1 8 rfl xm0))))))))) xm0) (by rw [(show G79.2.1 (F (F a 5) 0) = G66.2.1 (F (F a 5) 0) from (hF79.2.1 _ (xn1 (xne_k hk9999l hk9999b (by decide)) (xn1 (xne_k hk9999l hk9999c (by decide)) (xn1 (xne_k hk9999l hk9999d (by decide)) (xn1 (xne_k hk9999l hk9999e (by decide)) (xn1 (xne_k hk9999l hk9999f (by decide)) (xn1 (xne_k hk9999l hk9999g (by decide)) (xn1 (xne_k hk9999l hk9999h (by decide)) (xn1 (xne_k hk9999l hk9999i (by decide)) (xn1 (xne_k hk9999l hk9999j (by decide)) xn0)))))))))))] <;> exact (v_X10_least_91_14 (F := F) G_50 a p0 p2 p1 G G66 l5_50 G79 pp ph oq66 (hF79.2.1 _ (xn1 (xne_k hk9999l hk9999b (by decide)) (xn1 (xne_k hk9999l hk9999c (by decide)) (xn1 (xne_k hk9999l hk9999d (by decide)) (xn1 (xne_k hk9999l hk9999e (by decide)) (xn1 (xne_k hk9999l hk9999f (by decide)) (xn1 (xne_k hk9999l hk9999g (by decide)) (xn1 (xne_k hk9999l hk9999h (by decide)) (xn1 (xne_k hk9999l hk9999i (by decide)) (xn1 (xne_k hk9999l hk9999j (by decide)) xn0)))))))))))) (by rw [(show G79.2.1 (F (F a 5) 0) = G66.2.1 (F (F a 5) 0) from (hF79.2.1 _ (xn1 (xne_k hk9999l hk9999b (by decide)) (xn1 (xne_k hk9999l hk9999c (by decide)) (xn1 (xne_k hk9999l hk9999d (by decide)) (xn1 (xne_k hk9999l hk9999e (by decide)) (xn1 (xne_k hk9999l hk9999f (by decide)) (xn1 (xne_k hk9999l hk9999g (by decide)) (xn1 (xne_k hk9999l hk9999h (by decide)) (xn1 (xne_k hk9999l hk9999i (by decide)) (xn1 (xne_k hk9999l hk9999j (by decide)) xn0))))))))))), (show G79.2.1 (F (F a 5) 1) = G_50.2.1 (F (F a 5) 1) from ((hF79.2.1 _ (xn1 (xne_j hj9999u hj9999b (by first | decide | omega)) (xn1 (xne_j hj9999u hj9999c (by first | decide | omega)) (xn1 (xne_k hk9999m hk9999d (by decide)) (xn1 (xne_k hk9999m hk9999e (by decide)) (xn1 (xne_k hk9999m hk9999f (by decide)) (xn1 (xne_k hk9999m hk9999g (by decide)) (xn1 (xne_k hk9999m hk9999h (by decide)) (xn1 (xne_k hk9999m hk9999i (by decide)) (xn1 (xne_k hk9999m hk9999j (by decide)) xn0)))))))))).trans (hF66.2.1 _ (xn1 (xne_k hk9999m hk9999l (by decide)) xn0))))] <;> exact (v_X10_least_91_15 (F := F) G66 a G_50 G79 oq66a (hF66.2.1 _ (xn1 (xne_k hk9999m hk9999l (by decide)) xn0)) (hF79.2.1 _ (xn1 (xne_k hk9999l hk9999b (by decide)) (xn1 (xne_k hk9999l hk9999c (by decide)) (xn1 (xne_k hk9999l hk9999d (by decide)) (xn1 (xne_k hk9999l hk9999e (by decide)) (xn1 (xne_k hk9999l hk9999f (by decide)) (xn1 (xne_k hk9999l hk9999g (by decide)) (xn1 (xne_k hk9999l hk9999h (by decide)) (xn1 (xne_k hk9999l hk9999i (by decide)) (xn1 (xne_k hk9999l hk9999j (by decide)) xn0)))))))))) ((hF79.2.1 _ (xn1 (xne_j hj9999u hj9999b (by first | decide | omega)) (xn1 (xne_j hj9999u hj9999c (by first | decide | omega)) (xn1 (xne_k hk9999m hk9999d (by decide)) (xn1 (xne_k hk9999m hk9999e (by decide)) (xn1 (xne_k hk9999m hk9999f (by decide)) (xn1 (xne_k hk9999m hk9999g (by decide)) (xn1 (xne_k hk9999m hk9999h (by decide)) (xn1 (xne_k hk9999m hk9999i (by decide)) (xn1 (xne_k hk9999m hk9999j (by decide)) xn0)))))))))).trans (hF66.2.1 _ (xn1 (xne_k hk9999m hk9999l (by decide)) xn0))))) (by rw [(show G79.2.1 (F (F a 5) 0) = G66.2.1 (F (F a 5) 0) from (hF79.2.1 _ (xn1 (xne_k hk9999l hk9999b (by decide)) (xn1 (xne_k hk9999l hk9999c (by decide)) (xn1 (xne_k hk9999l hk9999d (by decide)) (xn1 (xne_k hk9999l hk9999e (by decide)) (xn1 (xne_k hk9999l hk9999f (by decide)) (xn1 (xne_k hk9999l hk9999g (by decide)) (xn1 (xne_k hk9999l hk9999h (by decide)) (xn1 (xne_k hk9999l hk9999i (by decide)) (xn1 (xne_k hk9999l hk9999j (by decide)) xn0)))))))))))] <;> exact (v_X10_least_91_16 (F := F) G_50 a p0 p1 G66 p2 l5_50 G x6 x13 G79 ph oq66 z5 t6 c9 t13 c16 I50_0 c54 (hF79.2.1 _ (xn1 (xne_k hk9999l hk9999b (by decide)) (xn1 (xne_k hk9999l hk9999c (by decide)) (xn1 (xne_k hk9999l hk9999d (by decide)) (xn1 (xne_k hk9999l hk9999e (by decide)) (xn1 (xne_k hk9999l hk9999f (by decide)) (xn1 (xne_k hk9999l hk9999g (by decide)) (xn1 (xne_k hk9999l hk9999h (by decide)) (xn1 (xne_k hk9999l hk9999i (by decide)) (xn1 (xne_k hk9999l hk9999j (by decide)) xn0)))))))))))) (by rw [(e88 : Int32.toInt x88 = (l5_50.toInt + 1))] <;> exact (v_X10_least_91_17 (K := K) (F := F) a G G79 G_50 G66 p0 p1 p2 l5_50 x79 x6 x13 N50 ha hk9999 hj9999 hk9999a hj9999a hk9999b hj9999b hk9999c hj9999c hk9999d hj9999d hk9999e hj9999f hk9999f hj9999h hk9999g hj9999j hk9999h hj9999l hk9999i hj9999n hk9999j hj9999p hk9999k hj9999q hk9999l hj9999s hk9999m hj9999u hk9999n hj9999v hk9999o hj9999w hk9999p hj9999y hk9999q hj9999z26 hk9999r hj9999z28 (XFr.call (XFr.call (XFr.call (XFr.call XFr.rf hF43 xm0 (xm1 9 rfl (xm1 10 rfl xm0)) xm0) hF_50 (xm1 0 rfl (xm1 1 rfl xm0)) (xm1 0 rfl (xm1 1 rfl (xm1 2 rfl (xm1 3 rfl (xm1 4 rfl (xm1 5 rfl (xm1 6 rfl (xm1 7 rfl (xm1 8 rfl (xm1 9 rfl (xm1 10 rfl xm0))))))))))) xm0) hF66 xm0 (xm1 9 rfl xm0) xm0) hF79 (xm1 0 rfl (xm1 1 rfl xm0)) (xm1 0 rfl (xm1 1 rfl (xm1 2 rfl (xm1 3 rfl (xm1 4 rfl (xm1 5 rfl (xm1 6 rfl (xm1 7 rfl (xm1 8 rfl xm0))))))))) xm0) hF79 bko pp ph lp oq66 oq79 sb z5 t6 c9 t13 c16 I50_0 hm50 c54 c73 c82 ((hF66.2.2 _ xn0).trans ((hF_50.2.2 _ xn0).trans (hF43.2.2 _ xn0))))) (by rw [(e88 : Int32.toInt x88 = (l5_50.toInt + 1))] <;> exact (z_X10_least_5 l5_50.toInt I50_0 c54)) (by rw [(e88 : Int32.toInt x88 = (l5_50.toInt + 1))] <;> exact (z_X10_least_6 l5_50.toInt N50 hm50)) hT hS (lv_sub hl [1, 2, 3, 4, 5, 0] rfl)
              · refine lv_iload hx hb dX10_least_85 (lv_at hl 5 rfl) ?_
                exact x_ri hx hb hr hlk hQ (Nat.le_of_ble_eq_true rfl) (Nat.le_of_ble_eq_true rfl) hS dX10_least_87 G79 ⟨_, rfl, (XFr.call (XFr.call (XFr.call (XFr.call XFr.rf hF43 xm0 (xm1 9 rfl (xm1 10 rfl xm0)) xm0) hF_50 (xm1 0 rfl (xm1 1 rfl xm0)) (xm1 0 rfl (xm1 1 rfl (xm1 2 rfl (xm1 3 rfl (xm1 4 rfl (xm1 5 rfl (xm1 6 rfl (xm1 7 rfl (xm1 8 rfl (xm1 9 rfl (xm1 10 rfl xm0))))))))))) xm0) hF66 xm0 (xm1 9 rfl xm0) xm0) hF79 (xm1 0 rfl (xm1 1 rfl xm0)) (xm1 0 rfl (xm1 1 rfl (xm1 2 rfl (xm1 3 rfl (xm1 4 rfl (xm1 5 rfl (xm1 6 rfl (xm1 7 rfl (xm1 8 rfl xm0))))))))) xm0), (v_X10_least_87_18 (K := K) (F := F) a G G79 G_50 G66 p0 p1 p2 l5_50 x79 x6 x13 N50 ha hk9999 hj9999 hk9999a hj9999a hk9999b hj9999b hk9999c hj9999c hk9999d hj9999d hk9999e hj9999f hk9999f hj9999h hk9999g hj9999j hk9999h hj9999l hk9999i hj9999n hk9999j hj9999p hk9999k hj9999q hk9999l hj9999s hk9999m hj9999u hk9999n hj9999v hk9999o hj9999w hk9999p hj9999y hk9999q hj9999z26 hk9999r hj9999z28 (XFr.call (XFr.call (XFr.call (XFr.call XFr.rf hF43 xm0 (xm1 9 rfl (xm1 10 rfl xm0)) xm0) hF_50 (xm1 0 rfl (xm1 1 rfl xm0)) (xm1 0 rfl (xm1 1 rfl (xm1 2 rfl (xm1 3 rfl (xm1 4 rfl (xm1 5 rfl (xm1 6 rfl (xm1 7 rfl (xm1 8 rfl (xm1 9 rfl (xm1 10 rfl xm0))))))))))) xm0) hF66 xm0 (xm1 9 rfl xm0) xm0) hF79 (xm1 0 rfl (xm1 1 rfl xm0)) (xm1 0 rfl (xm1 1 rfl (xm1 2 rfl (xm1 3 rfl (xm1 4 rfl (xm1 5 rfl (xm1 6 rfl (xm1 7 rfl (xm1 8 rfl xm0))))))))) xm0) hF79 bko pp ph lp oq66 oq79 sb z5 t6 c9 t13 c16 I50_0 hm50 c54 c73 c82 ((hF66.2.2 _ xn0).trans ((hF_50.2.2 _ xn0).trans (hF43.2.2 _ xn0))))⟩ hT
      exact L50 4294967297 (-99) G43 _ _ _ XFr.rf (v_X10_least_48_19 (F := F) G43 a G p0 p2 p1 oq43) (v_X10_least_48_20 (F := F) G43 a oq43a) (v_X10_least_48_21 (F := F) G43 a G x6 p0 p1 oq43 t6 c9) (by rw [((by decide) : Int32.toInt (-99) = (-99 : Int))] <;> exact (v_X10_least_48_22 (K := K) (F := F) a G p0 p1 p2 x6 x13 ha sb z5 t6 c9 t13 c16)) (by rw [((by decide) : Int32.toInt (-99) = (-99 : Int))] <;> exact (by decide)) (by rw [((by decide) : Int32.toInt (-99) = (-99 : Int))] <;> exact (by decide)) hT hS (lv_sub hl [2, 3, 4, 5, 1, 0] rfl)
    · refine lv_ldcw (v := (-2147483648)) hx hb S.2.2.2.1 (S.2.2.2.2 _ (List.mem_cons_of_mem _ kc_X10_274)) dX10_least_19 ?_
      exact x_ri hx hb hr hlk hQ (Nat.le_of_ble_eq_true rfl) (Nat.le_of_ble_eq_true rfl) hS dX10_least_22 G ⟨_, rfl, XFr.rf, (by rw [((by decide) : Int32.toInt (-2147483648) = (-2147483648 : Int))] <;> exact (v_X10_least_22_23 (K := K) (F := F) a G p0 p1 x6 x13 p2 ha sb z5 t6 c9 t13 c16))⟩ hT

