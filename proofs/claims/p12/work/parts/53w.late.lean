theorem z_X10_mark_1 (a0 : Int) (a1 : Int) (h0 : 0 ≤ a1 ∧ a1 ≤ 8) (h1 : a0 = (a1 + (1 : Int)) ∨ (a1 + (1 : Int)) < -2147483648 ∨ 2147483648 ≤ (a1 + (1 : Int))) : a0 = (a1 + (1 : Int)) := by omega
theorem z_X10_mark_2 (a0 : Int) (a1 : Int) (h0 : a1 ≠ 0) (h1 : a0 < (8 : Int)) : (a1 = 0 ∧ a0 = -3 ∧ (a0 + (1 : Int)) = a0) ∨ (a1 ≠ 0 ∧ 8 ≤ a0 ∧ a0 = -4 ∧ (a0 + (1 : Int)) = a0) ∨ (a1 ≠ 0 ∧ a0 < 8 ∧ a0 = a0 ∧ (a0 + (1 : Int)) = a0 + 1) := by omega
theorem z_X10_mark_4 (a0 : Int) (a1 : Int) (h0 : a1 ≠ 0) (h1 : ¬ (a0 < (8 : Int))) : (a1 = 0 ∧ (-4 : Int) = -3 ∧ a0 = a0) ∨ (a1 ≠ 0 ∧ 8 ≤ a0 ∧ (-4 : Int) = -4 ∧ a0 = a0) ∨ (a1 ≠ 0 ∧ a0 < 8 ∧ (-4 : Int) = a0 ∧ a0 = a0 + 1) := by omega
theorem z_X10_mark_5 (a0 : Int) (a1 : Int) (h0 : ¬ (a1 ≠ 0)) : (a1 = 0 ∧ (-3 : Int) = -3 ∧ a0 = a0) ∨ (a1 ≠ 0 ∧ 8 ≤ a0 ∧ (-3 : Int) = -4 ∧ a0 = a0) ∨ (a1 ≠ 0 ∧ a0 < 8 ∧ (-3 : Int) = a0 ∧ a0 = a0 + 1) := by omega
abbrev rm_X10_mark : Room := { frames := 2, cells := 0, slots := 0, locals := 81 }
set_option maxHeartbeats 4000000 in
set_option maxRecDepth 100000 in
theorem c_X10_mark (l : Launch) (E : XE) (K : Nat → Nat) (F : Nat → Nat → Nat) (G : XG) (a : Nat) (xq : Nat) (xj : Nat) (ha : K a = 12) (m0 : 0 ≤ ((G.1 a 17).toInt) ∧ ((G.1 a 17).toInt) ≤ 8) (hxk : K xq = 8) (hxj : F xq 99 = 4 + xj) (hxs : ((G.1 a 17).toInt) < 8 → G.2.2.1 (F a 7) (((G.1 a 17).toInt)).toNat = some xq) (ron : RO (vw (G.2.1 (F (F a 3) 0))) (aI (G.2.1 (F (F a 3) 1)))) (rox : RO (vw (G.2.1 (F xq 0))) (aI (G.2.1 (F xq 1)))) : Met l yX10_mark (xw yX10_mark cX10_mark 3 (some .int)) rm_X10_mark (va_Pc [.ref a] (XP E K F G)) (XQ E (fun v (u : XG) => ∃ r : Int32, v = .int r ∧ XFr [(a, 17)] [F xq 0, F xq 1] [] G u ∧ ((((G.1 a 18).toInt) = 0 ∧ r.toInt = -3 ∧ ((u.1 a 17).toInt) = ((G.1 a 17).toInt)) ∨ (((G.1 a 18).toInt) ≠ 0 ∧ 8 ≤ ((G.1 a 17).toInt) ∧ r.toInt = -4 ∧ ((u.1 a 17).toInt) = ((G.1 a 17).toInt)) ∨ (((G.1 a 18).toInt) ≠ 0 ∧ ((G.1 a 17).toInt) < 8 ∧ r.toInt = ((G.1 a 17).toInt) ∧ ((u.1 a 17).toInt) = ((G.1 a 17).toInt) + 1)) ∧ (((((G.1 a 18).toInt) = 0 ∨ 8 ≤ ((G.1 a 17).toInt)) ∧ u.2.1 (F xq 0) = (G.2.1 (F xq 0)) ∧ u.2.1 (F xq 1) = (G.2.1 (F xq 1))) ∨ ((((G.1 a 18).toInt) ≠ 0 ∧ ((G.1 a 17).toInt) < 8) ∧ (vw (u.2.1 (F xq 0))) = (vw (G.2.1 (F (F a 3) 0))))) ∧ (RO (vw (u.2.1 (F xq 0))) (aI (u.2.1 (F xq 1))))) (fun u H => TW E K F u H)) 0 0 (xA E) := by
  refine x_enter (by decide) (Nat.le_of_ble_eq_true rfl) ?_
  intro p e s m args below meth c Q S hr hlk hnm hQ hP ls hl
  obtain ⟨hz, hK, hT⟩ := hP
  obtain ⟨hx, hb, -, -, -⟩ := id S
  obtain ⟨H, hT, hS, hgo⟩ : ∃ H : Heap, TW E K F G H ∧ va_S (xA E) s.heap H [] ∧ H = s.heap := ⟨_, hT, va_S.rf, rfl⟩
  rw [← hgo]
  have hl : lv_has ls 3 [(0, .ref a)] := hl
  obtain ⟨hk9999, hj9999⟩ := fkX6_0 hT hxk
  have hj9999a : F (F xq 0) 99 = 4 + xj := by rw [hj9999, hxj]
  obtain ⟨hk9999a, hj9999b⟩ := fkX6_1 hT hxk
  have hj9999c : F (F xq 1) 99 = 4 + xj := by rw [hj9999b, hxj]
  obtain ⟨hk9999b, hj9999d⟩ := fkX10_7 hT ha
  obtain ⟨hk9999c, hj9999e⟩ := fkX10_3 hT ha
  obtain ⟨hk9999d, hj9999f⟩ := fkX6_0 hT hk9999c
  have hj9999g : F (F (F a 3) 0) 99 = 0 := by rw [hj9999f, hj9999e]
  obtain ⟨hk9999e, hj9999h⟩ := fkX6_1 hT hk9999c
  have hj9999i : F (F (F a 3) 1) 99 = 0 := by rw [hj9999h, hj9999e]
  refine lv_aload_n hx hb dX10_mark_0 rfl (lv_at hl 0 rfl) ?_
  refine gX10_18 S hK hT ha kf_X10_123 dX10_mark_1 (v := (G.1 a 18)) rfl (fun hz1 => ?_)
  refine xi_zne (tgt := 10) hx hb (rfl : Int32.toInt (G.1 a 18) = ((G.1 a 18).toInt)) dX10_mark_4 (by decide) (fun c4 => ?_) (fun c4 => ?_)
  · refine lv_aload_n hx hb dX10_mark_10 rfl (lv_at hl 0 rfl) ?_
    refine gX10_17 S hK hT ha kf_X10_233 dX10_mark_11 (v := (G.1 a 17)) rfl (?_)
    refine lv_bipush (v := 8) hx hb dX10_mark_14 (by decide) ?_
    refine xi_clt (tgt := 22) hx hb (rfl : Int32.toInt (G.1 a 17) = ((G.1 a 17).toInt)) ((by decide) : Int32.toInt 8 = (8 : Int)) dX10_mark_16 (by decide) (fun c16 => ?_) (fun c16 => ?_)
    · refine lv_aload_n hx hb dX10_mark_22 rfl (lv_at hl 0 rfl) ?_
      refine gX10_17 S hK hT ha kf_X10_233 dX10_mark_23 (v := (G.1 a 17)) rfl (?_)
      refine lv_istore_n (lv' := [(1, .int (G.1 a 17)), (0, .ref a)]) hx hb dX10_mark_26 rfl hl (by decide) rfl (fun ls hl => ?_)
      refine lv_aload_n hx hb dX10_mark_27 rfl (lv_at hl 1 rfl) ?_
      refine lv_dup hx hb dX10_mark_28 rfl ?_
      refine gX10_17 S hK hT ha kf_X10_233 dX10_mark_29 (v := (G.1 a 17)) rfl (?_)
      refine lv_iconst (v := 1) hx hb dX10_mark_32 (by decide) ?_
      refine xi_iadd hx hb (rfl : Int32.toInt (G.1 a 17) = ((G.1 a 17).toInt)) ((by decide) : Int32.toInt 1 = (1 : Int)) dX10_mark_33 (fun x33 t33 => ?_)
      have e33 : x33.toInt = (((G.1 a 17).toInt) + (1 : Int)) := (z_X10_mark_1 x33.toInt ((G.1 a 17).toInt) m0 t33)
      refine pX10_17 (v := x33) S hK hT hS ha kf_X10_233 dX10_mark_34 (fun H locs hT hS => ?_)
      obtain ⟨G34, hG34⟩ : ∃ GG : XG, GG = dput G a 17 x33 := ⟨_, rfl⟩
      rw [← hG34] at hT
      refine lv_aload_n hx hb dX10_mark_37 rfl (lv_at hl 1 rfl) ?_
      refine lv_iload_n hx hb dX10_mark_38 rfl (lv_at hl 0 rfl) ?_
      refine x_clp (x_runV (b := a) (As := [.int (G.1 a 17)]) (rest := []) S (c_X10_rowsAtMark l E K F G34 H a (G.1 a 17) ha) mv_X10_rowsAtMark km_X10_236 rfl rfl ⟨Nat.le_of_ble_eq_true rfl, Nat.le_of_ble_eq_true rfl⟩ (rc_12 hK hT ha) hK (fun _ => XPh.blind) (fun U hU hW => XPh.at hK hz hS hT hU hW) rfl hl.1 (Nat.le_of_ble_eq_true rfl) dX10_mark_39 ⟨Nat.le_of_ble_eq_true rfl, Nat.le_of_ble_eq_true rfl⟩) hS ?_
      rintro _ _ locs (⟨rfl, hn39⟩ | ⟨q39, rfl, hk39, ht39, hs39⟩) hS
      · refine lv_astore_nN (lv' := [(2, .null), (1, .int (G.1 a 17)), (0, .ref a)]) hx hb dX10_mark_42 rfl hl (by decide) rfl (fun ls hl => ?_)
        refine lv_aload_nN hx hb dX10_mark_43 rfl (lv_at hl 0 rfl) ?_
        refine lv_ifnullN (tgt := 55) hx hb dX10_mark_44 (by decide) ?_
        refine lv_iload_n hx hb dX10_mark_55 rfl (lv_at hl 1 rfl) ?_
        exact x_ri hx hb hr hlk hQ (Nat.le_of_ble_eq_true rfl) (Nat.le_of_ble_eq_true rfl) hS dX10_mark_56 G34 ⟨_, rfl, (by rw [hG34]; exact XFr.dput XFr.rf (List.mem_of_getElem? (i := 0) rfl)), (by rw [(show (G34.1 a 17).toInt = (((G.1 a 17).toInt) + (1 : Int)) from (congrArg Int32.toInt (ld_at hG34)).trans (e33 : Int32.toInt x33 = (((G.1 a 17).toInt) + (1 : Int))))] <;> exact (z_X10_mark_2 ((G.1 a 17).toInt) ((G.1 a 18).toInt) c4 c16)), (v_X10_mark_56_1 (K := K) (F := F) a xq xj G34 G x33 ha hxk hxj hxs e33 hn39 m0 (xzi hz1) c4 c16 (ld_at hG34)), (v_X10_mark_56_2 (K := K) (F := F) a xq xj G34 G x33 ha hxk hxj hxs e33 hn39 m0 (xzi hz1) c4 c16 (ld_at hG34))⟩ hT
      · have ht39 : 0 ≤ ((G.1 a 17).toInt) ∧ ((G.1 a 17).toInt) < (((G.1 a 17).toInt) + (1 : Int)) ∧ ((G.1 a 17).toInt) < 8 := by rw [(show (G34.1 a 17).toInt = (((G.1 a 17).toInt) + (1 : Int)) from (congrArg Int32.toInt (ld_at hG34)).trans (e33 : Int32.toInt x33 = (((G.1 a 17).toInt) + (1 : Int))))] at ht39; exact ht39
        obtain rfl : xq = q39 := (v_X10_mark_42_3 (K := K) (F := F) a xq xj q39 G G34 ha hxk hxj ((hs39).1) hxs hs39 m0 (xzi hz1) c4 c16 ht39 (ld_r hG34))
        refine lv_astore_n (lv' := [(2, .ref xq), (1, .int (G.1 a 17)), (0, .ref a)]) hx hb dX10_mark_42 rfl hl (by decide) rfl (fun ls hl => ?_)
        refine lv_aload_n hx hb dX10_mark_43 rfl (lv_at hl 0 rfl) ?_
        refine lv_ifnull hx hb dX10_mark_44 ?_
        refine lv_aload_n hx hb dX10_mark_47 rfl (lv_at hl 0 rfl) ?_
        refine lv_aload_n hx hb dX10_mark_48 rfl (lv_at hl 2 rfl) ?_
        refine gX10_3 S hK hT ha kf_X10_37 dX10_mark_49 (fun _ _ => ?_)
        refine x_cv0 (x_runV (b := xq) (As := [.ref (F a 3)]) (rest := []) S (c_X6_copy l E K F G34 xq (F a 3) hk39 hk9999c (v_X10_mark_52_4 (F := F) a xq G34 G ron rox (ld_c hG34) (ld_c hG34))) mv_X6_copy km_X10_195 rfl rfl ⟨Nat.le_of_ble_eq_true rfl, Nat.le_of_ble_eq_true rfl⟩ (rc_8 hK hT hk39) hK (fun _ => XP.blind) (fun U hU hW => XP.at hK hz hS hT hU hW) rfl hl.1 (Nat.le_of_ble_eq_true rfl) dX10_mark_52 ⟨Nat.le_of_ble_eq_true rfl, Nat.le_of_ble_eq_true rfl⟩) hS ?_
        rintro G52 H locs ⟨hF52, oq52, oq52a⟩ hT hS
        have oq52 : (vw (G52.2.1 (F xq 0))) = (vw (G.2.1 (F (F a 3) 0))) := by simp only [(show G34.2.1 (F (F a 3) 0) = G.2.1 (F (F a 3) 0) from (ld_c hG34))] at oq52; exact oq52
        refine lv_iload_n hx hb dX10_mark_55 rfl (lv_at hl 1 rfl) ?_
        exact x_ri hx hb hr hlk hQ (Nat.le_of_ble_eq_true rfl) (Nat.le_of_ble_eq_true rfl) hS dX10_mark_56 G52 ⟨_, rfl, (XFr.call (by rw [hG34]; exact XFr.dput XFr.rf (List.mem_of_getElem? (i := 0) rfl)) hF52 xm0 (xm1 0 rfl (xm1 1 rfl xm0)) xm0), (by rw [(show (G52.1 a 17).toInt = (((G.1 a 17).toInt) + (1 : Int)) from (congrArg Int32.toInt ((hF52.1 _ _ xn0).trans (ld_at hG34))).trans (e33 : Int32.toInt x33 = (((G.1 a 17).toInt) + (1 : Int))))] <;> exact (z_X10_mark_2 ((G.1 a 17).toInt) ((G.1 a 18).toInt) c4 c16)), (v_X10_mark_56_5 (K := K) (F := F) a xq xj G34 G x33 G52 ha hxk hxj hxs e33 hs39 oq52 m0 (xzi hz1) c4 c16 ht39 (ld_at hG34)), (v_X10_mark_56_6 (K := K) (F := F) a xq xj G34 G x33 G52 ha hxk hxj hxs e33 hs39 oq52a m0 (xzi hz1) c4 c16 ht39 (ld_at hG34))⟩ hT
    · refine lv_bipush (v := (-4)) hx hb dX10_mark_19 (by decide) ?_
      exact x_ri hx hb hr hlk hQ (Nat.le_of_ble_eq_true rfl) (Nat.le_of_ble_eq_true rfl) hS dX10_mark_21 G ⟨_, rfl, XFr.rf, (by rw [((by decide) : Int32.toInt (-4) = (-4 : Int))] <;> exact (z_X10_mark_4 ((G.1 a 17).toInt) ((G.1 a 18).toInt) c4 c16)), (v_X10_mark_21_7 (K := K) (F := F) a xq xj G ha hxk hxj hxs m0 (xzi hz1) c4 c16), (v_X10_mark_21_8 (F := F) xq G rox)⟩ hT
  · refine lv_bipush (v := (-3)) hx hb dX10_mark_7 (by decide) ?_
    exact x_ri hx hb hr hlk hQ (Nat.le_of_ble_eq_true rfl) (Nat.le_of_ble_eq_true rfl) hS dX10_mark_9 G ⟨_, rfl, XFr.rf, (by rw [((by decide) : Int32.toInt (-3) = (-3 : Int))] <;> exact (z_X10_mark_5 ((G.1 a 17).toInt) ((G.1 a 18).toInt) c4)), (v_X10_mark_9_9 (K := K) (F := F) a xq xj G ha hxk hxj hxs m0 (xzi hz1) c4), (v_X10_mark_9_10 (F := F) xq G rox)⟩ hT

theorem z_X10_later_7 (a0 : Int) (a1 : Int) (h0 : a1 = 1 ∧ 0 ≤ a0 ∧ a0 ≤ 1080) : 0 ≤ a0 ∧ a0 ≤ 1080 := by omega
abbrev rm_X10_later : Room := { frames := 9, cells := 8, slots := 800, locals := 216 }
set_option maxHeartbeats 4000000 in
set_option maxRecDepth 100000 in
theorem c_X10_later (l : Launch) (E : XE) (K : Nat → Nat) (F : Nat → Nat → Nat) (G : XG) (a : Nat) (p0 : Int32) (p1 : Int32) (xq : Nat) (ha : K a = 12) (b1 : p1 = 0 ∨ p1 = 1) (sb : 0 ≤ ((G.1 (F a 2) 2).toInt) ∧ ((G.1 (F a 2) 2).toInt) ≤ 12) (sw : 0 ≤ ((G.1 (F a 8) 6).toInt) ∧ ((G.1 (F a 8) 6).toInt) ≤ 1080) (hxs : 0 ≤ p0.toInt → p0.toInt < 12 → ∀ q : Nat, G.2.2.1 (F (F a 2) 0) (p0.toInt).toNat = some q → q = xq) (ron : RO (vw (G.2.1 (F (F a 3) 0))) (aI (G.2.1 (F (F a 3) 1)))) (rob : RO (vw (G.2.1 (F (F a 4) 0))) (aI (G.2.1 (F (F a 4) 1)))) (bko : BKr K G (G.2.2.1 (F (F a 2) 1))) : Met l yX10_later (xw yX10_later cX10_later 4 (some .int)) rm_X10_later (va_Pc [.ref a, .int p0, .int p1] (XP E K F G)) (XQ E (fun v (u : XG) => ∃ r : Int32, v = .int r ∧ XFr [(F a 14, 1), (F a 14, 2), (F a 14, 3), (xq, 9), (F a 11, 3), (F a 8, 6)] [F a 16, F a 15, F (F a 11) 0, F (F a 11) 1, F (F a 11) 2, F (F a 8) 0, F (F a 8) 1, F (F a 8) 2, F (F a 8) 3, F (F a 8) 4, F (F a 8) 5] [] G u ∧ (0 ≤ ((u.1 (F a 8) 6).toInt) ∧ ((u.1 (F a 8) 6).toInt) ≤ 1080) ∧ ((((p0.toInt < 0 ∨ 12 ≤ p0.toInt) ∨ G.2.2.1 (F (F a 2) 0) (p0.toInt).toNat = none) ∧ r.toInt = -2 ∧ qL u F (F a 8) = qL G F (F a 8)) ∨ (((0 ≤ p0.toInt ∧ p0.toInt < 12) ∧ G.2.2.1 (F (F a 2) 0) (p0.toInt).toNat = some xq) ∧ ((G.1 xq 9).toInt) = p1.toInt ∧ r.toInt = -4 ∧ (((u.1 xq 9).toInt) = ((G.1 xq 9).toInt) ∧ qL u F (F a 8) = qL G F (F a 8))) ∨ (((0 ≤ p0.toInt ∧ p0.toInt < 12) ∧ G.2.2.1 (F (F a 2) 0) (p0.toInt).toNat = some xq) ∧ ((G.1 xq 9).toInt) ≠ p1.toInt ∧ p1.toInt ≠ 0 ∧ ((u.1 xq 9).toInt) = 1 ∧ ((((G.1 a 18).toInt) = 0 ∧ qL u F (F a 8) = qL G F (F a 8) ∧ r.toInt = 0) ∨ (((G.1 a 18).toInt) ≠ 0 ∧ qL u F (F a 8) = (gaL (dput G xq 9 1) (G.2.2.1 (F (F a 2) 1)) (vw (G.2.1 (F (F a 4) 0))) (vw (G.2.1 (F (F a 3) 0))) 1 (((G.1 (F a 2) 2).toInt)).toNat) ∧ r.toInt = cnQ (qL u F (F a 8)) ((G.1 xq 1).toInt)))) ∨ (((0 ≤ p0.toInt ∧ p0.toInt < 12) ∧ G.2.2.1 (F (F a 2) 0) (p0.toInt).toNat = some xq) ∧ ((G.1 xq 9).toInt) ≠ p1.toInt ∧ p1.toInt = 0 ∧ (((∃ x, x ∈ qL G F (F a 8) ∧ x.1 = ((G.1 xq 1).toInt) ∧ x.2.2.2.2.2 ≠ 0) ∧ r.toInt = -5 ∧ (((u.1 xq 9).toInt) = ((G.1 xq 9).toInt) ∧ qL u F (F a 8) = qL G F (F a 8))) ∨ ((∀ x, x ∈ qL G F (F a 8) → x.1 = ((G.1 xq 1).toInt) → x.2.2.2.2.2 = 0) ∧ ((u.1 xq 9).toInt) = 0 ∧ ((((G.1 a 18).toInt) = 0 ∧ qL u F (F a 8) = qL G F (F a 8) ∧ r.toInt = 0) ∨ (((G.1 a 18).toInt) ≠ 0 ∧ qL u F (F a 8) = (gaL (dput G xq 9 0) (G.2.2.1 (F (F a 2) 1)) (vw (G.2.1 (F (F a 4) 0))) (vw (G.2.1 (F (F a 3) 0))) 1 (((G.1 (F a 2) 2).toInt)).toNat) ∧ r.toInt = cnQ (qL G F (F a 8)) ((G.1 xq 1).toInt)))))))) (fun u H => TW E K F u H)) 8 800 (xA E) := by
  refine x_enter (by decide) (Nat.le_of_ble_eq_true rfl) ?_
  intro p e s m args below meth c Q S hr hlk hnm hQ hP ls hl
  obtain ⟨hz, hK, hT⟩ := hP
  obtain ⟨hx, hb, -, -, -⟩ := id S
  obtain ⟨H, hT, hS, hgo⟩ : ∃ H : Heap, TW E K F G H ∧ va_S (xA E) s.heap H [] ∧ H = s.heap := ⟨_, hT, va_S.rf, rfl⟩
  rw [← hgo]
  have hl : lv_has ls 4 [(0, .ref a), (1, .int p0), (2, .int p1)] := hl
  obtain ⟨hk9999, hj9999⟩ := fkX10_14 hT ha
  obtain ⟨hk9999a, hj9999a⟩ := fkX10_11 hT ha
  obtain ⟨hk9999b, hj9999b⟩ := fkX10_8 hT ha
  obtain ⟨hk9999c, hj9999c⟩ := fkX10_16 hT ha
  obtain ⟨hk9999d, hj9999d⟩ := fkX10_15 hT ha
  obtain ⟨hk9999e, hj9999e⟩ := fkX1_0 hT hk9999a
  obtain ⟨hk9999f, hj9999f⟩ := fkX1_1 hT hk9999a
  obtain ⟨hk9999g, hj9999g⟩ := fkX1_2 hT hk9999a
  obtain ⟨hk9999h, hj9999h⟩ := fkX4_0 hT hk9999b
  have hj9999i : F (F (F a 8) 0) 99 = 10 * 0 + 0 := by rw [hj9999h, hj9999b]
  obtain ⟨hk9999i, hj9999j⟩ := fkX4_1 hT hk9999b
  have hj9999k : F (F (F a 8) 1) 99 = 10 * 0 + 1 := by rw [hj9999j, hj9999b]
  obtain ⟨hk9999j, hj9999l⟩ := fkX4_2 hT hk9999b
  have hj9999m : F (F (F a 8) 2) 99 = 10 * 0 + 2 := by rw [hj9999l, hj9999b]
  obtain ⟨hk9999k, hj9999n⟩ := fkX4_3 hT hk9999b
  have hj9999o : F (F (F a 8) 3) 99 = 10 * 0 + 3 := by rw [hj9999n, hj9999b]
  obtain ⟨hk9999l, hj9999p⟩ := fkX4_4 hT hk9999b
  have hj9999q : F (F (F a 8) 4) 99 = 10 * 0 + 4 := by rw [hj9999p, hj9999b]
  obtain ⟨hk9999m, hj9999r⟩ := fkX4_5 hT hk9999b
  have hj9999s : F (F (F a 8) 5) 99 = 10 * 0 + 5 := by rw [hj9999r, hj9999b]
  obtain ⟨hk9999n, hj9999t⟩ := fkX10_2 hT ha
  obtain ⟨hk9999o, hj9999u⟩ := fkX0_0 hT hk9999n
  obtain ⟨hk9999p, hj9999v⟩ := fkX0_1 hT hk9999n
  obtain ⟨hk9999q, hj9999w⟩ := fkX10_4 hT ha
  obtain ⟨hk9999r, hj9999y⟩ := fkX6_0 hT hk9999q
  have hj9999z25 : F (F (F a 4) 0) 99 = 1 := by rw [hj9999y, hj9999w]
  obtain ⟨hk9999s, hj9999z26⟩ := fkX6_1 hT hk9999q
  have hj9999z27 : F (F (F a 4) 1) 99 = 1 := by rw [hj9999z26, hj9999w]
  obtain ⟨hk9999t, hj9999z28⟩ := fkX10_3 hT ha
  obtain ⟨hk9999u, hj9999z29⟩ := fkX6_0 hT hk9999t
  have hj9999z30 : F (F (F a 3) 0) 99 = 0 := by rw [hj9999z29, hj9999z28]
  obtain ⟨hk9999v, hj9999z31⟩ := fkX6_1 hT hk9999t
  have hj9999z32 : F (F (F a 3) 1) 99 = 0 := by rw [hj9999z31, hj9999z28]
  refine lv_aload_n hx hb dX10_later_0 rfl (lv_at hl 0 rfl) ?_
  refine gX10_14 S hK hT ha kf_X10_91 dX10_later_1 (fun _ _ => ?_)
  refine x_cv (x_runV (b := (F a 14)) (As := []) (rest := []) S (c_X9_clear l E K F G (F a 14) hk9999) mv_X9_clear km_X10_113 rfl rfl ⟨Nat.le_of_ble_eq_true rfl, Nat.le_of_ble_eq_true rfl⟩ (rc_11 hK hT hk9999) hK (fun _ => XP.blind) (fun U hU hW => XP.at hK hz hS hT hU hW) rfl hl.1 (Nat.le_of_ble_eq_true rfl) dX10_later_4 ⟨Nat.le_of_ble_eq_true rfl, Nat.le_of_ble_eq_true rfl⟩) hS ?_
  rintro G4 H locs ⟨hF4, t4⟩ hT hS
  have t4 : ((G4.1 (F a 14) 1).toInt) = 0 := t4
  refine lv_aload_n hx hb dX10_later_7 rfl (lv_at hl 0 rfl) ?_
  refine gX10_2 S hK hT ha kf_X10_30 dX10_later_8 (fun _ _ => ?_)
  refine lv_iload_n hx hb dX10_later_11 rfl (lv_at hl 1 rfl) ?_
  refine x_clp (x_runV (b := (F a 2)) (As := [.int p0]) (rest := []) S (c_X0_get l E K F G4 H (F a 2) p0 hk9999n) mv_X0_get km_X10_159 rfl rfl ⟨Nat.le_of_ble_eq_true rfl, Nat.le_of_ble_eq_true rfl⟩ (rc_2 hK hT hk9999n) hK (fun _ => XPh.blind) (fun U hU hW => XPh.at hK hz hS hT hU hW) rfl hl.1 (Nat.le_of_ble_eq_true rfl) dX10_later_12 ⟨Nat.le_of_ble_eq_true rfl, Nat.le_of_ble_eq_true rfl⟩) hS ?_
  rintro _ _ locs (⟨rfl, hn12⟩ | ⟨q12, rfl, hk12, ht12, hs12⟩) hS
  · refine lv_astore_nN (lv' := [(3, .null), (0, .ref a), (1, .int p0), (2, .int p1)]) hx hb dX10_later_15 rfl hl (by decide) rfl (fun ls hl => ?_)
    refine lv_aload_nN hx hb dX10_later_16 rfl (lv_at hl 0 rfl) ?_
    refine lv_ifnonnullN hx hb dX10_later_17 ?_
    refine lv_bipush (v := (-2)) hx hb dX10_later_20 (by decide) ?_
    exact x_ri hx hb hr hlk hQ (Nat.le_of_ble_eq_true rfl) (Nat.le_of_ble_eq_true rfl) hS dX10_later_22 G4 ⟨_, rfl, (XFr.call XFr.rf hF4 (xm1 0 rfl xm0) xm0 xm0), (by rw [(show (G4.1 (F a 8) 6).toInt = ((G.1 (F a 8) 6).toInt) from (congrArg Int32.toInt (hF4.1 _ _ (xnj (by decide) xn0))).trans (rfl : Int32.toInt (G.1 (F a 8) 6) = ((G.1 (F a 8) 6).toInt)))] <;> exact (sw)), (by rw [((by decide) : Int32.toInt (-2) = (-2 : Int))] <;> exact (v_X10_later_22_1 (F := F) a G G4 p0 xq p1 hn12 (hF4.2.1 _ xn0) (hF4.2.1 _ xn0) (hF4.2.1 _ xn0) (hF4.2.1 _ xn0) (hF4.2.1 _ xn0) (hF4.2.1 _ xn0) (hF4.2.2 _ xn0) (hF4.1 _ _ (xnj (by decide) xn0))))⟩ hT
  · have ht12 : 0 ≤ p0.toInt ∧ p0.toInt < 12 := ht12
    obtain rfl : xq = q12 := (v_X10_later_15_2 (K := K) (F := F) a q12 G G4 p0 xq ha hxs hs12 sb sw t4 ht12 (hF4.2.2 _ xn0))
    refine lv_astore_n (lv' := [(3, .ref xq), (0, .ref a), (1, .int p0), (2, .int p1)]) hx hb dX10_later_15 rfl hl (by decide) rfl (fun ls hl => ?_)
    refine lv_aload_n hx hb dX10_later_16 rfl (lv_at hl 0 rfl) ?_
    refine lv_ifnonnull (tgt := 23) hx hb dX10_later_17 (by decide) ?_
    refine lv_aload_n hx hb dX10_later_23 rfl (lv_at hl 0 rfl) ?_
    refine gX7_9 S hK hT hk12 kf_X10_170 dX10_later_24 (v := (G.1 xq 9)) (hF4.1 _ _ (xnj (by decide) xn0)) (fun hz24 => ?_)
    refine lv_iload_n hx hb dX10_later_27 rfl (lv_at hl 3 rfl) ?_
    refine xi_cne (tgt := 34) hx hb (rfl : Int32.toInt (G.1 xq 9) = ((G.1 xq 9).toInt)) (rfl : Int32.toInt p1 = p1.toInt) dX10_later_28 (by decide) (fun c28 => ?_) (fun c28 => ?_)
    · refine lv_iload_n hx hb dX10_later_34 rfl (lv_at hl 3 rfl) ?_
      refine xi_zeq (tgt := 44) hx hb (rfl : Int32.toInt p1 = p1.toInt) dX10_later_35 (by decide) (fun c35 => ?_) (fun c35 => ?_)
      · refine lv_aload_n hx hb dX10_later_44 rfl (lv_at hl 1 rfl) ?_
        refine lv_aload_n hx hb dX10_later_45 rfl (lv_at hl 0 rfl) ?_
        refine x_cl (x_runV (b := a) (As := [.ref xq]) (rest := []) S (c_X10_becomePrompt l E K F G4 a xq ha hk12 (by rw [(show (G4.1 (F a 2) 2).toInt = ((G.1 (F a 2) 2).toInt) from (congrArg Int32.toInt (hF4.1 _ _ (xnj (by decide) xn0))).trans (rfl : Int32.toInt (G.1 (F a 2) 2) = ((G.1 (F a 2) 2).toInt)))] <;> exact (sb)) (by rw [(show (G4.1 (F a 8) 6).toInt = ((G.1 (F a 8) 6).toInt) from (congrArg Int32.toInt (hF4.1 _ _ (xnj (by decide) xn0))).trans (rfl : Int32.toInt (G.1 (F a 8) 6) = ((G.1 (F a 8) 6).toInt)))] <;> exact (sw)) (v_X10_later_46_3 (F := F) a G G4 ron rob (hF4.2.1 _ xn0) (hF4.2.1 _ xn0)) (v_X10_later_46_4 (F := F) a G G4 ron rob (hF4.2.1 _ xn0) (hF4.2.1 _ xn0)) (v_X10_later_46_5 (K := K) (F := F) a xq G G4 p0 p1 ha hk9999 hj9999 hk9999a hj9999a hk9999b hj9999b hk9999c hj9999c hk9999d hj9999d hk9999e hj9999e hk9999f hj9999f hk9999g hj9999g hk9999h hj9999i hk9999i hj9999k hk9999j hj9999m hk9999k hj9999o hk9999l hj9999q hk9999m hj9999s hk9999n hj9999t hk9999o hj9999u hk9999p hj9999v hk9999q hj9999w hk9999r hj9999z25 hk9999s hj9999z27 hk9999t hj9999z28 hk9999u hj9999z30 hk9999v hj9999z32 hk12 hF4 hxs bko hs12 sb sw t4 ht12 (xzi hz24) c28 c35 (hF4.2.2 _ xn0))) mv_X10_becomePrompt km_X10_176 rfl rfl ⟨Nat.le_of_ble_eq_true rfl, Nat.le_of_ble_eq_true rfl⟩ (rc_12 hK hT ha) hK (fun _ => XP.blind) (fun U hU hW => XP.at hK hz hS hT hU hW) rfl hl.1 (Nat.le_of_ble_eq_true rfl) dX10_later_46 ⟨Nat.le_of_ble_eq_true rfl, Nat.le_of_ble_eq_true rfl⟩) hS ?_
        rintro _ G46 H locs ⟨x46, rfl, hF46, t46, oq46⟩ hT hS
        have t46 : 0 ≤ ((G46.1 (F a 8) 6).toInt) ∧ ((G46.1 (F a 8) 6).toInt) ≤ 1080 := t46
        have oq46 : ((∃ x, x ∈ qL G4 F (F a 8) ∧ x.1 = ((G.1 xq 1).toInt) ∧ x.2.2.2.2.2 ≠ 0) ∧ x46.toInt = -5 ∧ ((G46.1 xq 9).toInt) = ((G.1 xq 9).toInt) ∧ qL G46 F (F a 8) = qL G4 F (F a 8)) ∨ ((∀ x, x ∈ qL G4 F (F a 8) → x.1 = ((G.1 xq 1).toInt) → x.2.2.2.2.2 = 0) ∧ ((G46.1 xq 9).toInt) = 0 ∧ ((((G.1 a 18).toInt) = 0 ∧ qL G46 F (F a 8) = qL G4 F (F a 8) ∧ x46.toInt = 0) ∨ (((G.1 a 18).toInt) ≠ 0 ∧ qL G46 F (F a 8) = (gaL (dput G4 xq 9 0) (G4.2.2.1 (F (F a 2) 1)) (vw (G.2.1 (F (F a 4) 0))) (vw (G.2.1 (F (F a 3) 0))) 1 (((G.1 (F a 2) 2).toInt)).toNat) ∧ x46.toInt = cnQ (qL G4 F (F a 8)) ((G.1 xq 1).toInt)))) := by simp only [(show G4.1 xq 1 = G.1 xq 1 from (hF4.1 _ _ (xna (xne_k hk12 hk9999 (by decide)) xn0))), (show G4.1 xq 9 = G.1 xq 9 from (hF4.1 _ _ (xnj (by decide) xn0))), (show G4.1 a 18 = G.1 a 18 from (hF4.1 _ _ (xnj (by decide) xn0))), (show G4.2.1 (F (F a 4) 0) = G.2.1 (F (F a 4) 0) from (hF4.2.1 _ xn0)), (show G4.2.1 (F (F a 3) 0) = G.2.1 (F (F a 3) 0) from (hF4.2.1 _ xn0)), (show G4.1 (F a 2) 2 = G.1 (F a 2) 2 from (hF4.1 _ _ (xnj (by decide) xn0)))] at oq46; exact oq46
        exact x_ri hx hb hr hlk hQ (Nat.le_of_ble_eq_true rfl) (Nat.le_of_ble_eq_true rfl) hS dX10_later_49 G46 ⟨_, rfl, (XFr.call (XFr.call XFr.rf hF4 (xm1 0 rfl xm0) xm0 xm0) hF46 (xm1 0 rfl (xm1 1 rfl (xm1 2 rfl (xm1 3 rfl (xm1 4 rfl (xm1 5 rfl xm0)))))) (xm1 0 rfl (xm1 2 rfl (xm1 3 rfl (xm1 4 rfl (xm1 5 rfl (xm1 6 rfl (xm1 7 rfl (xm1 8 rfl (xm1 9 rfl (xm1 10 rfl xm0)))))))))) xm0), (t46), (v_X10_later_49_6 (K := K) (F := F) a xq G G4 G46 p0 x46 p1 ha hk9999 hj9999 hk9999a hj9999a hk9999b hj9999b hk9999c hj9999c hk9999d hj9999d hk9999e hj9999e hk9999f hj9999f hk9999g hj9999g hk9999h hj9999i hk9999i hj9999k hk9999j hj9999m hk9999k hj9999o hk9999l hj9999q hk9999m hj9999s hk9999n hj9999t hk9999o hj9999u hk9999p hj9999v hk9999q hj9999w hk9999r hj9999z25 hk9999s hj9999z27 hk9999t hj9999z28 hk9999u hj9999z30 hk9999v hj9999z32 hk12 hF4 hxs bko hs12 oq46 sb sw t4 ht12 (xzi hz24) c28 c35 t46 (hF4.2.1 _ xn0) (hF4.2.1 _ xn0) (hF4.2.1 _ xn0) (hF4.2.1 _ xn0) (hF4.2.1 _ xn0) (hF4.2.1 _ xn0) (hF4.2.2 _ xn0) (hF4.2.2 _ xn0) (hF4.1 _ _ (xnj (by decide) xn0)))⟩ hT
      · refine lv_aload_n hx hb dX10_later_38 rfl (lv_at hl 1 rfl) ?_
        refine lv_aload_n hx hb dX10_later_39 rfl (lv_at hl 0 rfl) ?_
        refine x_cl0 (x_runV (b := a) (As := [.ref xq]) (rest := []) S (c_X10_becomeLate l E K F G4 a xq ha hk12 (by rw [(show (G4.1 (F a 2) 2).toInt = ((G.1 (F a 2) 2).toInt) from (congrArg Int32.toInt (hF4.1 _ _ (xnj (by decide) xn0))).trans (rfl : Int32.toInt (G.1 (F a 2) 2) = ((G.1 (F a 2) 2).toInt)))] <;> exact (sb)) (by rw [(show (G4.1 (F a 8) 6).toInt = ((G.1 (F a 8) 6).toInt) from (congrArg Int32.toInt (hF4.1 _ _ (xnj (by decide) xn0))).trans (rfl : Int32.toInt (G.1 (F a 8) 6) = ((G.1 (F a 8) 6).toInt)))] <;> exact (sw)) (v_X10_later_40_7 (F := F) a G G4 ron rob (hF4.2.1 _ xn0) (hF4.2.1 _ xn0)) (v_X10_later_40_8 (F := F) a G G4 ron rob (hF4.2.1 _ xn0) (hF4.2.1 _ xn0)) (v_X10_later_40_9 (K := K) (F := F) a xq G G4 p0 p1 ha hk9999 hj9999 hk9999a hj9999a hk9999b hj9999b hk9999c hj9999c hk9999d hj9999d hk9999e hj9999e hk9999f hj9999f hk9999g hj9999g hk9999h hj9999i hk9999i hj9999k hk9999j hj9999m hk9999k hj9999o hk9999l hj9999q hk9999m hj9999s hk9999n hj9999t hk9999o hj9999u hk9999p hj9999v hk9999q hj9999w hk9999r hj9999z25 hk9999s hj9999z27 hk9999t hj9999z28 hk9999u hj9999z30 hk9999v hj9999z32 hk12 hF4 hxs bko hs12 sb sw t4 ht12 (xzi hz24) c28 c35 (hF4.2.2 _ xn0))) mv_X10_becomeLate km_X10_173 rfl rfl ⟨Nat.le_of_ble_eq_true rfl, Nat.le_of_ble_eq_true rfl⟩ (rc_12 hK hT ha) hK (fun _ => XP.blind) (fun U hU hW => XP.at hK hz hS hT hU hW) rfl hl.1 (Nat.le_of_ble_eq_true rfl) dX10_later_40 ⟨Nat.le_of_ble_eq_true rfl, Nat.le_of_ble_eq_true rfl⟩) hS ?_
        rintro _ G40 H locs ⟨x40, rfl, hF40, t40, oq40⟩ hT hS
        have t40 : ((G40.1 xq 9).toInt) = 1 ∧ 0 ≤ ((G40.1 (F a 8) 6).toInt) ∧ ((G40.1 (F a 8) 6).toInt) ≤ 1080 := t40
        have oq40 : (((G.1 a 18).toInt) = 0 ∧ qL G40 F (F a 8) = qL G4 F (F a 8) ∧ x40.toInt = 0) ∨ (((G.1 a 18).toInt) ≠ 0 ∧ qL G40 F (F a 8) = (gaL (dput G4 xq 9 1) (G4.2.2.1 (F (F a 2) 1)) (vw (G.2.1 (F (F a 4) 0))) (vw (G.2.1 (F (F a 3) 0))) 1 (((G.1 (F a 2) 2).toInt)).toNat) ∧ x40.toInt = cnQ (qL G40 F (F a 8)) ((G.1 xq 1).toInt)) := by simp only [(show G4.1 a 18 = G.1 a 18 from (hF4.1 _ _ (xnj (by decide) xn0))), (show G4.2.1 (F (F a 4) 0) = G.2.1 (F (F a 4) 0) from (hF4.2.1 _ xn0)), (show G4.2.1 (F (F a 3) 0) = G.2.1 (F (F a 3) 0) from (hF4.2.1 _ xn0)), (show G4.1 (F a 2) 2 = G.1 (F a 2) 2 from (hF4.1 _ _ (xnj (by decide) xn0))), (show G4.1 xq 1 = G.1 xq 1 from (hF4.1 _ _ (xna (xne_k hk12 hk9999 (by decide)) xn0)))] at oq40; exact oq40
        exact x_ri hx hb hr hlk hQ (Nat.le_of_ble_eq_true rfl) (Nat.le_of_ble_eq_true rfl) hS dX10_later_43 G40 ⟨_, rfl, (XFr.call (XFr.call XFr.rf hF4 (xm1 0 rfl xm0) xm0 xm0) hF40 (xm1 3 rfl (xm1 4 rfl (xm1 5 rfl xm0))) (xm1 1 rfl (xm1 2 rfl (xm1 3 rfl (xm1 4 rfl (xm1 5 rfl (xm1 6 rfl (xm1 7 rfl (xm1 8 rfl (xm1 9 rfl (xm1 10 rfl xm0)))))))))) xm0), (z_X10_later_7 ((G40.1 (F a 8) 6).toInt) ((G40.1 xq 9).toInt) t40), (v_X10_later_43_10 (K := K) (F := F) a xq G G4 G40 p0 x40 p1 ha hk9999 hj9999 hk9999a hj9999a hk9999b hj9999b hk9999c hj9999c hk9999d hj9999d hk9999e hj9999e hk9999f hj9999f hk9999g hj9999g hk9999h hj9999i hk9999i hj9999k hk9999j hj9999m hk9999k hj9999o hk9999l hj9999q hk9999m hj9999s hk9999n hj9999t hk9999o hj9999u hk9999p hj9999v hk9999q hj9999w hk9999r hj9999z25 hk9999s hj9999z27 hk9999t hj9999z28 hk9999u hj9999z30 hk9999v hj9999z32 hk12 hF4 hxs bko hs12 oq40 sb sw t4 ht12 (xzi hz24) c28 c35 t40 (hF4.2.1 _ xn0) (hF4.2.1 _ xn0) (hF4.2.1 _ xn0) (hF4.2.1 _ xn0) (hF4.2.1 _ xn0) (hF4.2.1 _ xn0) (hF4.2.2 _ xn0) (hF4.2.2 _ xn0) (hF4.1 _ _ (xnj (by decide) xn0)))⟩ hT
    · refine lv_bipush (v := (-4)) hx hb dX10_later_31 (by decide) ?_
      exact x_ri hx hb hr hlk hQ (Nat.le_of_ble_eq_true rfl) (Nat.le_of_ble_eq_true rfl) hS dX10_later_33 G4 ⟨_, rfl, (XFr.call XFr.rf hF4 (xm1 0 rfl xm0) xm0 xm0), (by rw [(show (G4.1 (F a 8) 6).toInt = ((G.1 (F a 8) 6).toInt) from (congrArg Int32.toInt (hF4.1 _ _ (xnj (by decide) xn0))).trans (rfl : Int32.toInt (G.1 (F a 8) 6) = ((G.1 (F a 8) 6).toInt)))] <;> exact (sw)), (by rw [((by decide) : Int32.toInt (-4) = (-4 : Int))] <;> exact (v_X10_later_33_11 (K := K) (F := F) a xq G G4 p0 p1 ha hxs hs12 sb sw t4 ht12 (xzi hz24) c28 (hF4.2.1 _ xn0) (hF4.2.1 _ xn0) (hF4.2.1 _ xn0) (hF4.2.1 _ xn0) (hF4.2.1 _ xn0) (hF4.2.1 _ xn0) (hF4.2.2 _ xn0) (hF4.1 _ _ (xnj (by decide) xn0)) (hF4.1 _ _ (xnj (by decide) xn0))))⟩ hT

