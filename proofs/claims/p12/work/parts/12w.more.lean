abbrev rm_X6_copy : Room := { frames := 1, cells := 0, slots := 0, locals := 60 }
set_option maxHeartbeats 4000000 in
set_option maxRecDepth 100000 in
theorem c_X6_copy (l : Launch) (E : XE) (K : Nat → Nat) (F : Nat → Nat → Nat) (G : XG) (a : Nat) (p0 : Nat) (ha : K a = 8) (hp0 : K p0 = 8) (hro : RO (vw (G.2.1 (F p0 0))) (aI (G.2.1 (F p0 1)))) : Met l yX6_copy (xw yX6_copy cX6_copy 2 none) rm_X6_copy (va_Pc [.ref a, .ref p0] (XP E K F G)) (XQv E (fun (u : XG) => XFr [] [F a 0, F a 1] [] G u ∧ ((vw (u.2.1 (F a 0))) = (vw (G.2.1 (F p0 0)))) ∧ (RO (vw (u.2.1 (F a 0))) (aI (u.2.1 (F a 1))))) (fun u H => TW E K F u H)) 0 0 (xA E) := by
  refine x_enter (by decide) (Nat.le_of_ble_eq_true rfl) ?_
  intro p e s m args below meth c Q S hr hlk hnm hQ hP ls hl
  obtain ⟨hz, hK, hT⟩ := hP
  obtain ⟨hx, hb, -, -, -⟩ := id S
  obtain ⟨H, hT, hS, hgo⟩ : ∃ H : Heap, TW E K F G H ∧ va_S (xA E) s.heap H [] ∧ H = s.heap := ⟨_, hT, va_S.rf, rfl⟩
  rw [← hgo]
  have hl : lv_has ls 2 [(0, .ref a), (1, .ref p0)] := hl
  obtain ⟨hk9999, hj9999⟩ := fkX6_0 hT ha
  obtain ⟨hk9999a, hj9999a⟩ := fkX6_1 hT ha
  obtain ⟨hk9999b, hj9999b⟩ := fkX6_0 hT hp0
  obtain ⟨hk9999c, hj9999c⟩ := fkX6_1 hT hp0
  refine lv_aload_n hx hb dX6_copy_0 rfl (lv_at hl 1 rfl) ?_
  refine gX6_0 S hK hT hp0 kf_X6_9 dX6_copy_1 (fun _ _ => ?_)
  refine lv_iconst (v := 0) hx hb dX6_copy_4 (by decide) ?_
  refine lv_aload_n hx hb dX6_copy_5 rfl (lv_at hl 0 rfl) ?_
  refine gX6_0 S hK hT ha kf_X6_9 dX6_copy_6 (fun _ _ => ?_)
  refine lv_iconst (v := 0) hx hb dX6_copy_9 (by decide) ?_
  refine lv_sipush (v := 270) hx hb dX6_copy_10 (by decide) ?_
  refine x_copy S hK hT hS kac km_X6_18 hk9999b hk9999 ar_20 ar_20 aw_20 (by decide) (by decide) (by decide) (by decide) (by decide) (by decide) hl.1 (Nat.le_of_ble_eq_true rfl) (Nat.le_of_ble_eq_true rfl) dX6_copy_13 (fun H locs hT hS => ?_)
  obtain ⟨G13, hG13⟩ : ∃ GG : XG, GG = ccopy G (F a 0) (va_cpy (G.2.1 (F p0 0)) (G.2.1 (F a 0)) (0 : Int32).toNatClampNeg (0 : Int32).toNatClampNeg (270 : Int32).toNatClampNeg) := ⟨_, rfl⟩
  rw [← hG13] at hT
  refine lv_aload_n hx hb dX6_copy_16 rfl (lv_at hl 1 rfl) ?_
  refine gX6_1 S hK hT hp0 kf_X6_15 dX6_copy_17 (fun _ _ => ?_)
  refine lv_iconst (v := 0) hx hb dX6_copy_20 (by decide) ?_
  refine lv_aload_n hx hb dX6_copy_21 rfl (lv_at hl 0 rfl) ?_
  refine gX6_1 S hK hT ha kf_X6_15 dX6_copy_22 (fun _ _ => ?_)
  refine lv_iconst (v := 0) hx hb dX6_copy_25 (by decide) ?_
  refine lv_iconst (v := 3) hx hb dX6_copy_26 (by decide) ?_
  refine x_copy S hK hT hS kac km_X6_18 hk9999c hk9999a ar_21 ar_21 aw_21 (by decide) (by decide) (by decide) (by decide) (by decide) (by decide) hl.1 (Nat.le_of_ble_eq_true rfl) (Nat.le_of_ble_eq_true rfl) dX6_copy_27 (fun H locs hT hS => ?_)
  obtain ⟨G27, hG27⟩ : ∃ GG : XG, GG = ccopy G13 (F a 1) (va_cpy (G13.2.1 (F p0 1)) (G13.2.1 (F a 1)) (0 : Int32).toNatClampNeg (0 : Int32).toNatClampNeg (3 : Int32).toNatClampNeg) := ⟨_, rfl⟩
  rw [← hG27] at hT
  exact x_rv hx hb hr hlk hQ (Nat.le_of_ble_eq_true rfl) (Nat.le_of_ble_eq_true rfl) hS dX6_copy_30 G27 ⟨(by rw [hG27]; exact XFr.ccopy (by rw [hG13]; exact XFr.ccopy XFr.rf (List.mem_of_getElem? (i := 0) rfl)) (List.mem_of_getElem? (i := 1) rfl)), (v_X6_copy_30_1 (F := F) a p0 G13 G G27 hG13 (lcc_c hG27 (xne_k hk9999 hk9999a (by decide)))), (v_X6_copy_30_2 (K := K) (F := F) a p0 G13 G G27 ha hp0 hG13 hG27 hro (lcc_c hG13 (xne_k hk9999c hk9999 (by decide))) (lcc_c hG27 (xne_k hk9999 hk9999a (by decide))))⟩ hT

theorem z_X6_move_1 (a0 : Int) (a1 : Int) (h0 : a1 ≠ -2000) (h1 : (a0 = 1 ∧ a1 ≠ -2000) ∨ (a0 = 0 ∧ a1 = -2000)) (h2 : a0 = 0) : (0 : Int) = 1 ∧ a0 = a0 := by omega
theorem z_X6_move_2 (a0 : Int) (a1 : Int) (h0 : 0 ≤ a0) (h1 : a0 < 30) (h2 : (a1 = 1 ∧ 0 ≤ a0 ∧ a0 < 30) ∨ (a1 = 0 ∧ (a0 < 0 ∨ 30 ≤ a0))) (h3 : a1 = 0) : (0 : Int) = 1 ∧ a1 = a1 := by omega
theorem z_X6_move_3 (a0 : Int) (a1 : Int) (h0 : 0 ≤ a0) (h1 : a0 < 3) (h2 : 0 ≤ a1) (h3 : a1 < 30) : 0 ≤ a0 ∧ a0 < 3 ∧ 0 ≤ a1 ∧ a1 < 30 := by omega
theorem z_X6_move_4 (a0 : Int) (h0 : 0 ≤ a0 ∧ a0 ≤ 3) : ¬ (2147483648 - a0 < ((0 : Nat) : Int)) := by omega
theorem z_X6_move_6 (a0 : Int) (a1 : Int) (a2 : Int) (a3 : Int) (h0 : 0 ≤ a1) (h1 : a1 < 3) (h2 : 0 ≤ a2) (h3 : a2 < 30) (h4 : 0 ≤ a3) (h5 : a3 < 30) (h6 : a2 ≠ a3) (h7 : 0 ≤ a0 ∧ a0 ≤ 3) (h8 : ¬ ((3 : Int) ≤ a0)) : 0 ≤ a1 ∧ a1 < 3 ∧ 0 ≤ a2 ∧ a2 < 30 ∧ 0 ≤ a3 ∧ a3 < 30 ∧ a2 ≠ a3 ∧ 0 ≤ a0 ∧ a0 < 3 ∧ 0 ≤ a0 := by omega
theorem z_X6_move_7 (a0 : Int) (h0 : 0 ≤ a0 ∧ a0 ≤ 3) (h1 : ¬ ((3 : Int) ≤ a0)) : 0 ≤ a0 ∧ a0 < 3 := by omega
theorem z_X6_move_9 (a0 : Int) (a1 : Int) (h0 : 0 ≤ a0 ∧ a0 ≤ 3) (h1 : a1 = (a0 + 1) ∨ (a0 + 1) < -2147483648 ∨ 2147483648 ≤ (a0 + 1)) : a1 = (a0 + 1) := by omega
theorem z_X6_move_10 (a0 : Int) (h0 : 0 ≤ a0 ∧ a0 ≤ 3) (h1 : ¬ ((3 : Int) ≤ a0)) : 0 ≤ (a0 + 1) ∧ (a0 + 1) ≤ 3 := by omega
theorem z_X6_move_11 (a0 : Int) (h0 : 0 ≤ a0 ∧ a0 ≤ 3) : (0 : Int) ≤ (a0 + 1) := by omega
theorem z_X6_move_12 (a0 : Int) (a1 : Nat) (h0 : 2147483648 - a0 < ((a1 + 1 : Nat) : Int)) : 2147483648 - (a0 + 1) < ((a1 : Nat) : Int) := by omega
theorem z_X6_move_13 (a0 : Int) (a1 : Int) (h0 : a0 ≠ a1) (h1 : ¬ (a1 ≠ a0)) : (0 : Int) = 1 ∧ a1 = a1 := by omega
abbrev rm_X6_move : Room := { frames := 3, cells := 0, slots := 0, locals := 67 }
set_option maxHeartbeats 4000000 in
set_option maxRecDepth 100000 in
theorem c_X6_move (l : Launch) (E : XE) (K : Nat → Nat) (F : Nat → Nat → Nat) (G : XG) (a : Nat) (p0 : Int32) (p1 : Int32) (p2 : Int32) (ha : K a = 8) (e0 : 0 ≤ p0.toInt ∧ p0.toInt < 3 ∧ 0 ≤ p1.toInt ∧ p1.toInt < 30 ∧ 0 ≤ p2.toInt ∧ p2.toInt < 30 ∧ p1.toInt ≠ p2.toInt) (e1 : (cel (vw (G.2.1 (F a 0))) (p0.toInt) (p1.toInt) 0) ≠ -2000) (hro : RO (vw (G.2.1 (F a 0))) (aI (G.2.1 (F a 1)))) : Met l yX6_move (xw yX6_move cX6_move 5 none) rm_X6_move (va_Pc [.ref a, .int p0, .int p1, .int p2] (XP E K F G)) (XQv E (fun (u : XG) => XFr [] [F a 0, F a 1] [] G u ∧ ((vw (u.2.1 (F a 0))) = rmv (vw (G.2.1 (F a 0))) (p0.toInt) (p1.toInt) (p2.toInt)) ∧ (RO (vw (u.2.1 (F a 0))) (aI (u.2.1 (F a 1))))) (fun u H => TW E K F u H)) 0 0 (xA E) := by
  refine x_enter (by decide) (Nat.le_of_ble_eq_true rfl) ?_
  intro p e s m args below meth c Q S hr hlk hnm hQ hP ls hl
  obtain ⟨hz, hK, hT⟩ := hP
  obtain ⟨hx, hb, -, -, -⟩ := id S
  obtain ⟨H, hT, hS, hgo⟩ : ∃ H : Heap, TW E K F G H ∧ va_S (xA E) s.heap H [] ∧ H = s.heap := ⟨_, hT, va_S.rf, rfl⟩
  rw [← hgo]
  have hl : lv_has ls 5 [(0, .ref a), (1, .int p0), (2, .int p1), (3, .int p2)] := hl
  obtain ⟨hk9999, hj9999⟩ := fkX6_0 hT ha
  obtain ⟨hk9999a, hj9999a⟩ := fkX6_1 hT ha
  refine lv_aload_n hx hb dX6_move_0 rfl (lv_at hl 0 rfl) ?_
  refine lv_iload_n hx hb dX6_move_1 rfl (lv_at hl 1 rfl) ?_
  refine lv_iload_n hx hb dX6_move_2 rfl (lv_at hl 2 rfl) ?_
  refine x_clp (x_runV (b := a) (As := [.int p0, .int p1]) (rest := []) S (c_X6_has l E K F G H a p0 p1 ha (v_X6_move_3_1 (F := F) a G hro)) mv_X6_has km_X6_54 rfl rfl ⟨Nat.le_of_ble_eq_true rfl, Nat.le_of_ble_eq_true rfl⟩ (rc_8 hK hT ha) hK (fun _ => XPh.blind) (fun U hU hW => XPh.at hK hz hS hT hU hW) rfl hl.1 (Nat.le_of_ble_eq_true rfl) dX6_move_3 ⟨Nat.le_of_ble_eq_true rfl, Nat.le_of_ble_eq_true rfl⟩) hS ?_
  rintro _ _ locs ⟨x3, rfl, b3, t3⟩ hS
  have t3 : (x3.toInt = 1 ∧ (cel (vw (G.2.1 (F a 0))) (p0.toInt) (p1.toInt) 0) ≠ -2000) ∨ (x3.toInt = 0 ∧ (cel (vw (G.2.1 (F a 0))) (p0.toInt) (p1.toInt) 0) = -2000) := t3
  refine xi_zeq (tgt := 21) hx hb (rfl : Int32.toInt x3 = x3.toInt) dX6_move_6 (by decide) (fun c6 => ?_) (fun c6 => ?_)
  · exact absurd ((z_X6_move_1 x3.toInt (cel (vw (G.2.1 (F a 0))) (p0.toInt) (p1.toInt) 0) e1 t3 c6)).1 (by decide)
  · refine lv_iload_n hx hb dX6_move_9 rfl (lv_at hl 3 rfl) ?_
    refine x_clp (x_runSN (As := [.int p2]) (rest := []) S (c_X10_isKey l E K F G H p2) ms_X10_isKey (by decide +kernel) rfl rfl ⟨Nat.le_of_ble_eq_true rfl, Nat.le_of_ble_eq_true rfl⟩ hK (fun _ => XPh.blind) (fun U hU hW => XPh.at hK hz hS hT hU hW) rfl hl.1 (Nat.le_of_ble_eq_true rfl) dX6_move_10 ⟨Nat.le_of_ble_eq_true rfl, Nat.le_of_ble_eq_true rfl⟩) hS ?_
    rintro _ _ locs ⟨x10, rfl, b10, t10⟩ hS
    have t10 : (x10.toInt = 1 ∧ 0 ≤ p2.toInt ∧ p2.toInt < 30) ∨ (x10.toInt = 0 ∧ (p2.toInt < 0 ∨ 30 ≤ p2.toInt)) := t10
    refine xi_zeq (tgt := 21) hx hb (rfl : Int32.toInt x10 = x10.toInt) dX6_move_13 (by decide) (fun c13 => ?_) (fun c13 => ?_)
    · exact absurd ((z_X6_move_2 p2.toInt x10.toInt (e0).2.2.2.2.1 (e0).2.2.2.2.2.1 t10 c13)).1 (by decide)
    · refine lv_iload_n hx hb dX6_move_16 rfl (lv_at hl 3 rfl) ?_
      refine lv_iload_n hx hb dX6_move_17 rfl (lv_at hl 2 rfl) ?_
      refine xi_cne (tgt := 22) hx hb (rfl : Int32.toInt p2 = p2.toInt) (rfl : Int32.toInt p1 = p1.toInt) dX6_move_18 (by decide) (fun c18 => ?_) (fun c18 => ?_)
      · refine lv_aload_n hx hb dX6_move_22 rfl (lv_at hl 0 rfl) ?_
        refine lv_iload_n hx hb dX6_move_23 rfl (lv_at hl 1 rfl) ?_
        refine lv_iload_n hx hb dX6_move_24 rfl (lv_at hl 3 rfl) ?_
        refine x_cv0 (x_runV (b := a) (As := [.int p0, .int p2]) (rest := []) S (c_X6_add l E K F G a p0 p2 ha (z_X6_move_3 p0.toInt p2.toInt (e0).1 (e0).2.1 (e0).2.2.2.2.1 (e0).2.2.2.2.2.1) (v_X6_move_25_2 (F := F) a G hro)) mv_X6_add km_X6_58 rfl rfl ⟨Nat.le_of_ble_eq_true rfl, Nat.le_of_ble_eq_true rfl⟩ (rc_8 hK hT ha) hK (fun _ => XP.blind) (fun U hU hW => XP.at hK hz hS hT hU hW) rfl hl.1 (Nat.le_of_ble_eq_true rfl) dX6_move_25 ⟨Nat.le_of_ble_eq_true rfl, Nat.le_of_ble_eq_true rfl⟩) hS ?_
        rintro G25 H locs ⟨hF25, oq25, oq25a⟩ hT hS
        refine lv_iconst (v := 0) hx hb dX6_move_28 (by decide) ?_
        refine lv_istore (lv' := [(4, .int 0), (0, .ref a), (1, .int p0), (2, .int p1), (3, .int p2)]) hx hb dX6_move_29 hl (by decide) rfl (fun ls hl => ?_)
        have L31 : ∀ (N31 : Nat) (l4_31 : Int32) (G_31 : XG) (H : Heap) (locs : List Loc) (ls : Array Slot), XFr [] [F a 0, F a 1] [] G25 G_31 → vw (G_31.2.1 (F a 0)) = rmc (vw (G.2.1 (F a 0))) (p0.toInt) (p1.toInt) (p2.toInt) (l4_31.toInt) → RO (vw (G_31.2.1 (F a 0))) (aI (G_31.2.1 (F a 1))) → 0 ≤ l4_31.toInt ∧ l4_31.toInt ≤ 3 → (0 : Int) ≤ l4_31.toInt → 2147483648 - l4_31.toInt < ((N31 : Nat) : Int) → TW E K F G_31 H → va_S (xA E) s.heap H locs → lv_has ls 5 [(0, .ref a), (1, .int p0), (2, .int p1), (3, .int p2), (4, .int l4_31)] → W p l e rm_X6_move s m args below meth c H locs 0 0 Q (F0 m 31 ls []) := by
          intro N31
          induction N31 with
          | zero =>
            intro l4_31 G_31 H locs ls hF_31 pm pr I31_0 I31_1 hm31
            exact absurd hm31 (z_X6_move_4 l4_31.toInt I31_0)
          | succ N31 ih31 =>
            intro l4_31 G_31 H locs ls hF_31 pm pr I31_0 I31_1 hm31 hT hS hl
            refine lv_iload hx hb dX6_move_31 (lv_at hl 4 rfl) ?_
            refine lv_iconst (v := 3) hx hb dX6_move_33 (by decide) ?_
            refine xi_cge (tgt := 59) hx hb (rfl : Int32.toInt l4_31 = l4_31.toInt) ((by decide) : Int32.toInt 3 = (3 : Int)) dX6_move_34 (by decide) (fun c34 => ?_) (fun c34 => ?_)
            · refine lv_aload_n hx hb dX6_move_59 rfl (lv_at hl 0 rfl) ?_
              refine lv_iload_n hx hb dX6_move_60 rfl (lv_at hl 1 rfl) ?_
              refine lv_iload_n hx hb dX6_move_61 rfl (lv_at hl 2 rfl) ?_
              refine x_cv0 (x_runV (b := a) (As := [.int p0, .int p1]) (rest := []) S (c_X6_remove l E K F G_31 a p0 p1 ha (z_X6_move_3 p0.toInt p1.toInt (e0).1 (e0).2.1 (e0).2.2.1 (e0).2.2.2.1) (v_X6_move_62_3 (F := F) a G_31 pr)) mv_X6_remove km_X6_70 rfl rfl ⟨Nat.le_of_ble_eq_true rfl, Nat.le_of_ble_eq_true rfl⟩ (rc_8 hK hT ha) hK (fun _ => XP.blind) (fun U hU hW => XP.at hK hz hS hT hU hW) rfl hl.1 (Nat.le_of_ble_eq_true rfl) dX6_move_62 ⟨Nat.le_of_ble_eq_true rfl, Nat.le_of_ble_eq_true rfl⟩) hS ?_
              rintro G62 H locs ⟨hF62, oq62, oq62a⟩ hT hS
              exact x_rv hx hb hr hlk hQ (Nat.le_of_ble_eq_true rfl) (Nat.le_of_ble_eq_true rfl) hS dX6_move_65 G62 ⟨(XFr.call (XFr.call (XFr.call XFr.rf hF25 xm0 (xm1 0 rfl (xm1 1 rfl xm0)) xm0) hF_31 xm0 (xm1 0 rfl (xm1 1 rfl xm0)) xm0) hF62 xm0 (xm1 0 rfl (xm1 1 rfl xm0)) xm0), (v_X6_move_65_4 (K := K) (F := F) a G G_31 G62 p0 p2 p1 l4_31 x3 x10 N31 ha pm oq62 e0 e1 t3 c6 t10 c13 c18 I31_0 I31_1 hm31 c34), (v_X6_move_65_5 (F := F) a G62 oq62a)⟩ hT
            · refine lv_aload_n hx hb dX6_move_37 rfl (lv_at hl 0 rfl) ?_
              refine lv_iload_n hx hb dX6_move_38 rfl (lv_at hl 1 rfl) ?_
              refine lv_iload_n hx hb dX6_move_39 rfl (lv_at hl 3 rfl) ?_
              refine lv_iload hx hb dX6_move_40 (lv_at hl 4 rfl) ?_
              refine lv_aload_n hx hb dX6_move_42 rfl (lv_at hl 0 rfl) ?_
              refine lv_iload_n hx hb dX6_move_43 rfl (lv_at hl 1 rfl) ?_
              refine lv_iload_n hx hb dX6_move_44 rfl (lv_at hl 2 rfl) ?_
              refine lv_iload hx hb dX6_move_45 (lv_at hl 4 rfl) ?_
              refine x_clp (x_runV (b := a) (As := [.int p0, .int p1, .int l4_31]) (rest := [.int l4_31, .int p2, .int p0, .ref a]) S (c_X6_cell l E K F G_31 H a p0 p1 l4_31 ha) mv_X6_cell km_X6_62 rfl rfl ⟨Nat.le_of_ble_eq_true rfl, Nat.le_of_ble_eq_true rfl⟩ (rc_8 hK hT ha) hK (fun _ => XPh.blind) (fun U hU hW => XPh.at hK hz hS hT hU hW) rfl hl.1 (Nat.le_of_ble_eq_true rfl) dX6_move_47 ⟨Nat.le_of_ble_eq_true rfl, Nat.le_of_ble_eq_true rfl⟩) hS ?_
              rintro _ _ locs ⟨x47, rfl, t47⟩ hS
              have t47 : x47.toInt = (cel (vw (G_31.2.1 (F a 0))) (p0.toInt) (p1.toInt) (l4_31.toInt)) := t47
              have z50 : (cel (vw (G_31.2.1 (F a 0))) (p0.toInt) (p1.toInt) (l4_31.toInt)) = -1000 ∨ (-99 ≤ (cel (vw (G_31.2.1 (F a 0))) (p0.toInt) (p1.toInt) (l4_31.toInt)) ∧ (cel (vw (G_31.2.1 (F a 0))) (p0.toInt) (p1.toInt) (l4_31.toInt)) ≤ 99) := mv_ok hro e1 pm (z_X6_move_6 l4_31.toInt p0.toInt p1.toInt p2.toInt (e0).1 (e0).2.1 (e0).2.2.1 (e0).2.2.2.1 (e0).2.2.2.2.1 (e0).2.2.2.2.2.1 (e0).2.2.2.2.2.2 I31_0 c34)
              refine x_cv0 (x_runV (b := a) (As := [.int p0, .int p2, .int l4_31, .int x47]) (rest := []) S (c_X6_change l E K F G_31 a p0 p2 l4_31 x47 ha (z_X6_move_7 l4_31.toInt I31_0 c34) (by rw [(t47 : Int32.toInt x47 = (cel (vw (G_31.2.1 (F a 0))) (p0.toInt) (p1.toInt) (l4_31.toInt)))] <;> exact (z50)) (v_X6_move_50_6 (F := F) a G_31 pr)) mv_X6_change km_X6_66 rfl rfl ⟨Nat.le_of_ble_eq_true rfl, Nat.le_of_ble_eq_true rfl⟩ (rc_8 hK hT ha) hK (fun _ => XP.blind) (fun U hU hW => XP.at hK hz hS hT hU hW) rfl hl.1 (Nat.le_of_ble_eq_true rfl) dX6_move_50 ⟨Nat.le_of_ble_eq_true rfl, Nat.le_of_ble_eq_true rfl⟩) hS ?_
              rintro G50 H locs ⟨hF50, oq50, oq50a⟩ hT hS
              have oq50 : (vw (G50.2.1 (F a 0))) = if cel (vw (G_31.2.1 (F a 0))) (p0.toInt) (p2.toInt) 0 ≠ -2000 then rset (vw (G_31.2.1 (F a 0))) (90 * (p0.toInt) + 30 * (l4_31.toInt) + (p2.toInt)) ((cel (vw (G_31.2.1 (F a 0))) (p0.toInt) (p1.toInt) (l4_31.toInt))) else (vw (G_31.2.1 (F a 0))) := by simp only [(t47 : Int32.toInt x47 = (cel (vw (G_31.2.1 (F a 0))) (p0.toInt) (p1.toInt) (l4_31.toInt)))] at oq50; exact oq50
              refine xi_iinc (n := 1) (lv' := fun z9 => [(4, .int z9), (0, .ref a), (1, .int p0), (2, .int p1), (3, .int p2)]) (k := 4) hx hb (rfl : Int32.toInt l4_31 = l4_31.toInt) (by decide) dX6_move_53 hl rfl (by decide) (fun _ => rfl) (fun x53 ls t53 hl => ?_)
              have e53 : x53.toInt = (l4_31.toInt + 1) := (z_X6_move_9 l4_31.toInt x53.toInt I31_0 t53)
              have hl : lv_has ls 5 [(4, .int x53), (0, .ref a), (1, .int p0), (2, .int p1), (3, .int p2)] := hl
              refine lv_goto (tgt := 31) hx hb dX6_move_56 (by decide) ?_
              exact ih31 x53 G50 _ _ _ (XFr.call (XFr.call XFr.rf hF_31 xm0 (xm1 0 rfl (xm1 1 rfl xm0)) xm0) hF50 xm0 (xm1 0 rfl xm0) xm0) (by rw [(e53 : Int32.toInt x53 = (l4_31.toInt + 1))] <;> exact (v_X6_move_56_7 (K := K) (F := F) a G G_31 G50 p0 p2 p1 l4_31 x3 x10 N31 ha pm oq50 e0 e1 t3 c6 t10 c13 c18 I31_0 I31_1 hm31 c34 z50)) (v_X6_move_56_8 (F := F) a G50 oq50a) (by rw [(e53 : Int32.toInt x53 = (l4_31.toInt + 1))] <;> exact (z_X6_move_10 l4_31.toInt I31_0 c34)) (by rw [(e53 : Int32.toInt x53 = (l4_31.toInt + 1))] <;> exact (z_X6_move_11 l4_31.toInt I31_0)) (by rw [(e53 : Int32.toInt x53 = (l4_31.toInt + 1))] <;> exact (z_X6_move_12 l4_31.toInt N31 hm31)) hT hS (lv_sub hl [1, 2, 3, 4, 0] rfl)
        exact L31 4294967297 0 G25 _ _ _ XFr.rf (v_X6_move_29_9 (F := F) a G G25 p0 p2 p1 oq25) (v_X6_move_29_10 (F := F) a G25 oq25a) (by decide) (by decide) (by decide) hT hS (lv_sub hl [1, 2, 3, 4, 0] rfl)
      · exact absurd ((z_X6_move_13 p1.toInt p2.toInt (e0).2.2.2.2.2.2 c18)).1 (by decide)

theorem z_X0_enter_1 (a0 : Int) (h0 : 0 ≤ a0 ∧ a0 ≤ 11) : 0 ≤ a0 ∧ a0 < 12 := by omega
abbrev rm_X0_enter : Room := { frames := 2, cells := 0, slots := 0, locals := 45 }
set_option maxHeartbeats 4000000 in
set_option maxRecDepth 100000 in
theorem c_X0_enter (l : Launch) (E : XE) (K : Nat → Nat) (F : Nat → Nat → Nat) (G : XG) (a : Nat) (p0 : Nat) (ha : K a = 2) (hp0 : K p0 = 9) (e0 : 0 ≤ ((G.1 p0 1).toInt) ∧ ((G.1 p0 1).toInt) ≤ 11) : Met l yX0_enter (xw yX0_enter cX0_enter 2 none) rm_X0_enter (va_Pc [.ref a, .ref p0] (XP E K F G)) (XQv E (fun (u : XG) => XFr [(a, 2)] [] [F a 0, F a 1] G u ∧ (∀ i : Nat, u.2.2.1 (F a 0) i = if i = (((G.1 p0 1).toInt)).toNat then some p0 else G.2.2.1 (F a 0) i) ∧ (BO u F a) ∧ (∀ (i q : Nat), u.2.2.1 (F a 1) i = some q → (∃ j : Nat, G.2.2.1 (F a 1) j = some q) ∨ ∃ j : Nat, u.2.2.1 (F a 0) j = some q)) (fun u H => TW E K F u H)) 0 0 (xA E) := by
  refine x_enter (by decide) (Nat.le_of_ble_eq_true rfl) ?_
  intro p e s m args below meth c Q S hr hlk hnm hQ hP ls hl
  obtain ⟨hz, hK, hT⟩ := hP
  obtain ⟨hx, hb, -, -, -⟩ := id S
  obtain ⟨H, hT, hS, hgo⟩ : ∃ H : Heap, TW E K F G H ∧ va_S (xA E) s.heap H [] ∧ H = s.heap := ⟨_, hT, va_S.rf, rfl⟩
  rw [← hgo]
  have hl : lv_has ls 2 [(0, .ref a), (1, .ref p0)] := hl
  obtain ⟨hk9999, hj9999⟩ := fkX0_0 hT ha
  obtain ⟨hk9999a, hj9999a⟩ := fkX0_1 hT ha
  refine lv_aload_n hx hb dX0_enter_0 rfl (lv_at hl 1 rfl) ?_
  refine gX7_1 S hK hT hp0 kf_X0_28 dX0_enter_1 (v := (G.1 p0 1)) rfl (?_)
  refine xi_zlt (tgt := 30) hx hb (rfl : Int32.toInt (G.1 p0 1) = ((G.1 p0 1).toInt)) dX0_enter_4 (by decide) (fun c4 => ?_) (fun c4 => ?_)
  · exact x_rv hx hb hr hlk hQ (Nat.le_of_ble_eq_true rfl) (Nat.le_of_ble_eq_true rfl) hS dX0_enter_30 G ⟨XFr.rf, (v_X0_enter_30_1 (K := K) (F := F) a p0 G ha hp0 e0 c4), (v_X0_enter_30_2 (K := K) (F := F) a p0 G ha hp0 e0 c4), (v_X0_enter_30_3 (K := K) (F := F) a p0 G ha hp0 e0 c4)⟩ hT
  · refine lv_aload_n hx hb dX0_enter_7 rfl (lv_at hl 1 rfl) ?_
    refine gX7_1 S hK hT hp0 kf_X0_28 dX0_enter_8 (v := (G.1 p0 1)) rfl (?_)
    refine lv_bipush (v := 12) hx hb dX0_enter_11 (by decide) ?_
    refine xi_cge (tgt := 30) hx hb (rfl : Int32.toInt (G.1 p0 1) = ((G.1 p0 1).toInt)) ((by decide) : Int32.toInt 12 = (12 : Int)) dX0_enter_13 (by decide) (fun c13 => ?_) (fun c13 => ?_)
    · exact x_rv hx hb hr hlk hQ (Nat.le_of_ble_eq_true rfl) (Nat.le_of_ble_eq_true rfl) hS dX0_enter_30 G ⟨XFr.rf, (v_X0_enter_30_4 (K := K) (F := F) a p0 G ha hp0 e0 c4 c13), (v_X0_enter_30_5 (K := K) (F := F) a p0 G ha hp0 e0 c4 c13), (v_X0_enter_30_6 (K := K) (F := F) a p0 G ha hp0 e0 c4 c13)⟩ hT
    · refine lv_aload_n hx hb dX0_enter_16 rfl (lv_at hl 0 rfl) ?_
      refine gX0_0 S hK hT ha kf_X0_11 dX0_enter_17 (fun _ _ => ?_)
      refine lv_aload_n hx hb dX0_enter_20 rfl (lv_at hl 1 rfl) ?_
      refine gX7_1 S hK hT hp0 kf_X0_28 dX0_enter_21 (v := (G.1 p0 1)) rfl (?_)
      refine lv_aload_n hx hb dX0_enter_24 rfl (lv_at hl 1 rfl) ?_
      refine as_15r S hK hT hS hk9999 hp0 (z_X0_enter_1 ((G.1 p0 1).toInt) e0) dX0_enter_25 (fun H locs hT hS => ?_)
      obtain ⟨G25, hG25⟩ : ∃ GG : XG, GG = rput G (F a 0) (G.1 p0 1).toInt.toNat (some p0) := ⟨_, rfl⟩
      rw [← hG25] at hT
      refine lv_aload_n hx hb dX0_enter_26 rfl (lv_at hl 0 rfl) ?_
      refine x_cv0 (x_runV (b := a) (As := []) (rest := []) S (c_X0_arrange l E K F G25 a ha) mv_X0_arrange km_X0_31 rfl rfl ⟨Nat.le_of_ble_eq_true rfl, Nat.le_of_ble_eq_true rfl⟩ (rc_2 hK hT ha) hK (fun _ => XP.blind) (fun U hU hW => XP.at hK hz hS hT hU hW) rfl hl.1 (Nat.le_of_ble_eq_true rfl) dX0_enter_27 ⟨Nat.le_of_ble_eq_true rfl, Nat.le_of_ble_eq_true rfl⟩) hS ?_
      rintro G27 H locs ⟨hF27, oq27, oq27a⟩ hT hS
      exact x_rv hx hb hr hlk hQ (Nat.le_of_ble_eq_true rfl) (Nat.le_of_ble_eq_true rfl) hS dX0_enter_30 G27 ⟨(XFr.call (by rw [hG25]; exact XFr.rput XFr.rf (List.mem_of_getElem? (i := 0) rfl)) hF27 (xm1 0 rfl xm0) xm0 (xm1 1 rfl xm0)), (v_X0_enter_30_7 (K := K) (F := F) a p0 G25 G G27 ha hp0 hG25 oq27 e0 c4 c13 (hF27.2.2 _ (xn1 (xne_j hj9999 hj9999a (by first | decide | omega)) xn0))), (v_X0_enter_30_8 (K := K) (F := F) a p0 G25 G G27 ha hp0 hF27 oq27 e0 c4 c13 (hF27.2.2 _ (xn1 (xne_j hj9999 hj9999a (by first | decide | omega)) xn0))), (v_X0_enter_30_9 (K := K) (F := F) a p0 G25 G G27 ha hp0 oq27 oq27a e0 c4 c13 (lr_r hG25 (xne_j hj9999a hj9999 (by first | decide | omega))) (hF27.2.2 _ (xn1 (xne_j hj9999 hj9999a (by first | decide | omega)) xn0)))⟩ hT

abbrev rm_X0_strike : Room := { frames := 2, cells := 0, slots := 0, locals := 45 }
set_option maxHeartbeats 4000000 in
set_option maxRecDepth 100000 in
theorem c_X0_strike (l : Launch) (E : XE) (K : Nat → Nat) (F : Nat → Nat → Nat) (G : XG) (a : Nat) (p0 : Int32) (ha : K a = 2) (e0 : 0 ≤ p0.toInt ∧ p0.toInt ≤ 11) : Met l yX0_strike (xw yX0_strike cX0_strike 2 none) rm_X0_strike (va_Pc [.ref a, .int p0] (XP E K F G)) (XQv E (fun (u : XG) => XFr [(a, 2)] [] [F a 0, F a 1] G u ∧ (∀ i : Nat, u.2.2.1 (F a 0) i = if i = (p0.toInt).toNat then none else G.2.2.1 (F a 0) i) ∧ (BO u F a) ∧ (∀ (i q : Nat), u.2.2.1 (F a 1) i = some q → (∃ j : Nat, G.2.2.1 (F a 1) j = some q) ∨ ∃ j : Nat, u.2.2.1 (F a 0) j = some q)) (fun u H => TW E K F u H)) 0 0 (xA E) := by
  refine x_enter (by decide) (Nat.le_of_ble_eq_true rfl) ?_
  intro p e s m args below meth c Q S hr hlk hnm hQ hP ls hl
  obtain ⟨hz, hK, hT⟩ := hP
  obtain ⟨hx, hb, -, -, -⟩ := id S
  obtain ⟨H, hT, hS, hgo⟩ : ∃ H : Heap, TW E K F G H ∧ va_S (xA E) s.heap H [] ∧ H = s.heap := ⟨_, hT, va_S.rf, rfl⟩
  rw [← hgo]
  have hl : lv_has ls 2 [(0, .ref a), (1, .int p0)] := hl
  obtain ⟨hk9999, hj9999⟩ := fkX0_0 hT ha
  obtain ⟨hk9999a, hj9999a⟩ := fkX0_1 hT ha
  refine lv_iload_n hx hb dX0_strike_0 rfl (lv_at hl 1 rfl) ?_
  refine xi_zlt (tgt := 21) hx hb (rfl : Int32.toInt p0 = p0.toInt) dX0_strike_1 (by decide) (fun c1 => ?_) (fun c1 => ?_)
  · exact x_rv hx hb hr hlk hQ (Nat.le_of_ble_eq_true rfl) (Nat.le_of_ble_eq_true rfl) hS dX0_strike_21 G ⟨XFr.rf, (v_X0_strike_21_1 (K := K) (F := F) a p0 G ha e0 c1), (v_X0_strike_21_2 (K := K) (F := F) a p0 G ha e0 c1), (v_X0_strike_21_3 (K := K) (F := F) a p0 G ha e0 c1)⟩ hT
  · refine lv_iload_n hx hb dX0_strike_4 rfl (lv_at hl 1 rfl) ?_
    refine lv_bipush (v := 12) hx hb dX0_strike_5 (by decide) ?_
    refine xi_cge (tgt := 21) hx hb (rfl : Int32.toInt p0 = p0.toInt) ((by decide) : Int32.toInt 12 = (12 : Int)) dX0_strike_7 (by decide) (fun c7 => ?_) (fun c7 => ?_)
    · exact x_rv hx hb hr hlk hQ (Nat.le_of_ble_eq_true rfl) (Nat.le_of_ble_eq_true rfl) hS dX0_strike_21 G ⟨XFr.rf, (v_X0_strike_21_4 (K := K) (F := F) a p0 G ha e0 c1 c7), (v_X0_strike_21_5 (K := K) (F := F) a p0 G ha e0 c1 c7), (v_X0_strike_21_6 (K := K) (F := F) a p0 G ha e0 c1 c7)⟩ hT
    · refine lv_aload_n hx hb dX0_strike_10 rfl (lv_at hl 0 rfl) ?_
      refine gX0_0 S hK hT ha kf_X0_11 dX0_strike_11 (fun _ _ => ?_)
      refine lv_iload_n hx hb dX0_strike_14 rfl (lv_at hl 1 rfl) ?_
      refine lv_null hx hb dX0_strike_15 ?_
      refine as_15n S hK hT hS hk9999 (z_X0_enter_1 p0.toInt e0) dX0_strike_16 (fun H locs hT hS => ?_)
      obtain ⟨G16, hG16⟩ : ∃ GG : XG, GG = rput G (F a 0) p0.toInt.toNat none := ⟨_, rfl⟩
      rw [← hG16] at hT
      refine lv_aload_n hx hb dX0_strike_17 rfl (lv_at hl 0 rfl) ?_
      refine x_cv0 (x_runV (b := a) (As := []) (rest := []) S (c_X0_arrange l E K F G16 a ha) mv_X0_arrange km_X0_31 rfl rfl ⟨Nat.le_of_ble_eq_true rfl, Nat.le_of_ble_eq_true rfl⟩ (rc_2 hK hT ha) hK (fun _ => XP.blind) (fun U hU hW => XP.at hK hz hS hT hU hW) rfl hl.1 (Nat.le_of_ble_eq_true rfl) dX0_strike_18 ⟨Nat.le_of_ble_eq_true rfl, Nat.le_of_ble_eq_true rfl⟩) hS ?_
      rintro G18 H locs ⟨hF18, oq18, oq18a⟩ hT hS
      exact x_rv hx hb hr hlk hQ (Nat.le_of_ble_eq_true rfl) (Nat.le_of_ble_eq_true rfl) hS dX0_strike_21 G18 ⟨(XFr.call (by rw [hG16]; exact XFr.rput XFr.rf (List.mem_of_getElem? (i := 0) rfl)) hF18 (xm1 0 rfl xm0) xm0 (xm1 1 rfl xm0)), (v_X0_strike_21_7 (K := K) (F := F) a G16 G p0 G18 ha hG16 oq18 e0 c1 c7 (hF18.2.2 _ (xn1 (xne_j hj9999 hj9999a (by first | decide | omega)) xn0))), (v_X0_strike_21_8 (K := K) (F := F) a G16 p0 G18 ha hF18 oq18 e0 c1 c7 (hF18.2.2 _ (xn1 (xne_j hj9999 hj9999a (by first | decide | omega)) xn0))), (v_X0_strike_21_9 (K := K) (F := F) a G16 G p0 G18 ha oq18 oq18a e0 c1 c7 (lr_r hG16 (xne_j hj9999a hj9999 (by first | decide | omega))) (hF18.2.2 _ (xn1 (xne_j hj9999 hj9999a (by first | decide | omega)) xn0)))⟩ hT

