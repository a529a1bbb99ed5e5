theorem z_X11_moves_1 (a0 : Int) (h0 : 0 ≤ a0 ∧ a0 ≤ 12) : ¬ (2147483648 - a0 < ((0 : Nat) : Int)) := by omega
theorem z_X11_moves_2 (a0 : Int) (a1 : Int) (h0 : 0 ≤ a0 ∧ a0 ≤ 12) (h1 : a1 = (a0 + 1) ∨ (a0 + 1) < -2147483648 ∨ 2147483648 ≤ (a0 + 1)) : a1 = (a0 + 1) := by omega
theorem z_X11_moves_3 (a0 : Int) (h0 : 0 ≤ a0 ∧ a0 ≤ 12) (h1 : ¬ ((12 : Int) ≤ a0)) : 0 ≤ (a0 + 1) ∧ (a0 + 1) ≤ 12 := by omega
theorem z_X11_moves_4 (a0 : Int) (h0 : 0 ≤ a0 ∧ a0 ≤ 12) : (0 : Int) ≤ (a0 + 1) := by omega
theorem z_X11_moves_5 (a0 : Int) (a1 : Nat) (h0 : 2147483648 - a0 < ((a1 + 1 : Nat) : Int)) : 2147483648 - (a0 + 1) < ((a1 : Nat) : Int) := by omega
theorem z_X11_moves_6 (a0 : Int) (h0 : 0 ≤ a0 ∧ a0 ≤ 12) (h1 : ¬ ((12 : Int) ≤ a0)) : 0 ≤ a0 ∧ a0 ≤ 11 := by omega
theorem z_X11_moves_9 (a0 : Int) (h0 : -2147483648 ≤ a0 ∧ a0 < 2147483648) : ¬ (2147483648 - a0 < ((0 : Nat) : Int)) := by omega
theorem z_X11_moves_11 (a0 : Int) (a1 : Int) (a2 : Int) (a3 : Int) (a4 : Int) (h0 : 0 ≤ a0 ∧ a0 ≤ 12) (h1 : ¬ ((12 : Int) ≤ a0)) (h2 : ((a2 = 2 ∨ a2 = 4 ∨ a2 = 5) ∧ a3 = 0 ∧ a4 = 29) ∨ (¬ (a2 = 2 ∨ a2 = 4 ∨ a2 = 5) ∧ a3 = -99 ∧ a4 = 99)) (h3 : a3 ≤ a1 ∧ a1 ≤ a4 + 1) (h4 : ¬ (a4 < a1)) : 0 ≤ a0 ∧ a0 ≤ 11 ∧ -99 ≤ a1 ∧ a1 ≤ 99 := by omega
theorem z_X11_moves_12 (a0 : Int) (a1 : Int) (a2 : Int) (a3 : Int) (a4 : Int) (h0 : 0 ≤ a0 ∧ a0 ≤ 12) (h1 : ¬ ((12 : Int) ≤ a0)) (h2 : ((a2 = 2 ∨ a2 = 4 ∨ a2 = 5) ∧ a3 = 0 ∧ a4 = 29) ∨ (¬ (a2 = 2 ∨ a2 = 4 ∨ a2 = 5) ∧ a3 = -99 ∧ a4 = 99)) (h3 : a3 ≤ a1 ∧ a1 ≤ a4 + 1) (h4 : ¬ (a4 < a1)) : 0 ≤ 199 * a0 + a1 + 99 ∧ 199 * a0 + a1 + 99 < ((2388 : Nat) : Int) := by omega
theorem z_X11_moves_16 (a0 : Int) (h0 : 0 ≤ a0 ∧ a0 ≤ 3) : 0 ≤ a0 ∧ a0 < ((6 : Nat) : Int) := by omega
theorem z_X11_moves_18 (a0 : Int) (h0 : 1 ≤ a0 ∧ a0 ≤ 2) : 0 ≤ a0 ∧ a0 < ((6 : Nat) : Int) := by omega
theorem z_X11_moves_19 (a0 : Int) (h0 : 1 ≤ a0 ∧ a0 ≤ 2) : 0 ≤ a0 := by omega
theorem z_X11_moves_20 (a0 : Int) (h0 : 0 ≤ a0 ∧ a0 ≤ 3) : 0 ≤ a0 := by omega
theorem z_X11_moves_22 (a0 : Int) (a1 : Int) (a2 : Int) (a3 : Int) (a4 : Int) (h0 : ((a2 = 2 ∨ a2 = 4 ∨ a2 = 5) ∧ a3 = 0 ∧ a4 = 29) ∨ (¬ (a2 = 2 ∨ a2 = 4 ∨ a2 = 5) ∧ a3 = -99 ∧ a4 = 99)) (h1 : ¬ (a4 < a0)) (h2 : a1 = (a0 + 1) ∨ (a0 + 1) < -2147483648 ∨ 2147483648 ≤ (a0 + 1)) (h3 : -2147483648 ≤ a0 ∧ a0 < 2147483648) : a1 = (a0 + 1) := by omega
theorem z_X11_moves_23 (a0 : Int) (a1 : Int) (a2 : Int) (h0 : a1 ≤ a0 ∧ a0 ≤ a2 + 1) (h1 : ¬ (a2 < a0)) : a1 ≤ (a0 + 1) ∧ (a0 + 1) ≤ a2 + 1 := by omega
theorem z_X11_moves_25 (a0 : Int) (a1 : Int) (a2 : Int) (h0 : ((a0 = 2 ∨ a0 = 4 ∨ a0 = 5) ∧ a1 = 0 ∧ a2 = 29) ∨ (¬ (a0 = 2 ∨ a0 = 4 ∨ a0 = 5) ∧ a1 = -99 ∧ a2 = 99)) : a1 ≤ a1 ∧ a1 ≤ a2 + 1 := by omega
theorem z_X11_moves_26 (a0 : Int) (a1 : Int) (a2 : Int) (h0 : ((a0 = 2 ∨ a0 = 4 ∨ a0 = 5) ∧ a1 = 0 ∧ a2 = 29) ∨ (¬ (a0 = 2 ∨ a0 = 4 ∨ a0 = 5) ∧ a1 = -99 ∧ a2 = 99)) : 2147483648 - a1 < ((4294967297 : Nat) : Int) := by omega
abbrev rm_X11_moves : Room := { frames := 2, cells := 0, slots := 0, locals := 46 }
set_option maxHeartbeats 4000000 in
set_option maxRecDepth 100000 in
theorem c_X11_moves (l : Launch) (E : XE) (K : Nat → Nat) (F : Nat → Nat → Nat) (G : XG) (a : Nat) (p0 : Nat) (p1 : Nat) (p2 : Int32) (ha : K a = 13) (hp0 : K p0 = 38) (hp1 : K p1 = 38) (e0 : 1 ≤ p2.toInt ∧ p2.toInt ≤ 2) (hR : RV (G.2.1 (F a 10))) : Met l yX11_moves (xw yX11_moves cX11_moves 9 none) rm_X11_moves (va_Pc [.ref a, .ref p0, .ref p1, .int p2] (XP E K F G)) (XQv E (fun (u : XG) => XFr [] [F a 8] [] G u) (fun u H => TW E K F u H)) 0 0 (xA E) := by
  refine x_enter (by decide) (Nat.le_of_ble_eq_true rfl) ?_
  intro p e s m args below meth c Q S hr hlk hnm hQ hP ls hl
  obtain ⟨hz, hK, hT⟩ := hP
  obtain ⟨hx, hb, -, -, -⟩ := id S
  obtain ⟨H, hT, hS, hgo⟩ : ∃ H : Heap, TW E K F G H ∧ va_S (xA E) s.heap H [] ∧ H = s.heap := ⟨_, hT, va_S.rf, rfl⟩
  rw [← hgo]
  have hl : lv_has ls 9 [(0, .ref a), (1, .ref p0), (2, .ref p1), (3, .int p2)] := hl
  obtain ⟨hk9999, hj9999⟩ := fkX11_8 hT ha
  obtain ⟨hk9999a, hj9999a⟩ := fkX11_10 hT ha
  refine lv_iconst (v := 0) hx hb dX11_moves_0 (by decide) ?_
  refine lv_istore (lv' := [(4, .int 0), (0, .ref a), (1, .ref p0), (2, .ref p1), (3, .int p2)]) hx hb dX11_moves_1 hl (by decide) rfl (fun ls hl => ?_)
  have L3 : ∀ (N3 : Nat) (l4_3 : Int32) (G_3 : XG) (H : Heap) (locs : List Loc) (ls : Array Slot), XFr [] [F a 8] [] G G_3 → 0 ≤ l4_3.toInt ∧ l4_3.toInt ≤ 12 → (0 : Int) ≤ l4_3.toInt → 2147483648 - l4_3.toInt < ((N3 : Nat) : Int) → TW E K F G_3 H → va_S (xA E) s.heap H locs → lv_has ls 9 [(0, .ref a), (1, .ref p0), (2, .ref p1), (3, .int p2), (4, .int l4_3)] → W p l e rm_X11_moves s m args below meth c H locs 0 0 Q (F0 m 3 ls []) := by
    intro N3
    induction N3 with
    | zero =>
      intro l4_3 G_3 H locs ls hF_3 I3_0 I3_1 hm3
      exact absurd hm3 (z_X11_moves_1 l4_3.toInt I3_0)
    | succ N3 ih3 =>
      intro l4_3 G_3 H locs ls hF_3 I3_0 I3_1 hm3 hT hS hl
      refine lv_iload hx hb dX11_moves_3 (lv_at hl 4 rfl) ?_
      refine lv_bipush (v := 12) hx hb dX11_moves_5 (by decide) ?_
      refine xi_cge (tgt := 170) hx hb (rfl : Int32.toInt l4_3 = l4_3.toInt) ((by decide) : Int32.toInt 12 = (12 : Int)) dX11_moves_7 (by decide) (fun c7 => ?_) (fun c7 => ?_)
      · exact x_rv hx hb hr hlk hQ (Nat.le_of_ble_eq_true rfl) (Nat.le_of_ble_eq_true rfl) hS dX11_moves_170 G_3 (XFr.call XFr.rf hF_3 xm0 (xm1 0 rfl xm0) xm0) hT
      · refine lv_aload_n hx hb dX11_moves_10 rfl (lv_at hl 0 rfl) ?_
        refine lv_iload hx hb dX11_moves_11 (lv_at hl 4 rfl) ?_
        refine x_clp (x_runV (b := a) (As := [.int l4_3]) (rest := []) S (c_X11_isRule l E K F G_3 H a l4_3 ha) mv_X11_isRule km_X11_162 rfl rfl ⟨Nat.le_of_ble_eq_true rfl, Nat.le_of_ble_eq_true rfl⟩ (rc_13 hK hT ha) hK (fun _ => XPh.blind) (fun U hU hW => XPh.at hK hz hS hT hU hW) rfl hl.1 (Nat.le_of_ble_eq_true rfl) dX11_moves_13 ⟨Nat.le_of_ble_eq_true rfl, Nat.le_of_ble_eq_true rfl⟩) hS ?_
        rintro _ _ locs ⟨x13, rfl, b13, t13⟩ hS
        have t13 : (x13.toInt = 1 ∧ 0 ≤ l4_3.toInt ∧ l4_3.toInt ≤ 11 ∧ (aI (G.2.1 (F a 10)) (10 * l4_3.toInt + 0)) ≠ -1) ∨ (x13.toInt = 0 ∧ (¬ (0 ≤ l4_3.toInt ∧ l4_3.toInt ≤ 11) ∨ (aI (G.2.1 (F a 10)) (10 * l4_3.toInt + 0)) = -1)) := by rw [(show G_3.2.1 (F a 10) = G.2.1 (F a 10) from (hF_3.2.1 _ (xn1 (xne_k hk9999a hk9999 (by decide)) xn0)))] at t13; exact t13
        have J164 : ∀ (G_164 : XG) (H : Heap) (locs : List Loc) (ls : Array Slot), XFr [] [F a 8] [] G_3 G_164 → TW E K F G_164 H → va_S (xA E) s.heap H locs → lv_has ls 9 [(0, .ref a), (1, .ref p0), (2, .ref p1), (3, .int p2), (4, .int l4_3)] → W p l e rm_X11_moves s m args below meth c H locs 0 0 Q (F0 m 164 ls []) := by
          intro G_164 H locs ls hF_164 hT hS hl
          refine xi_iinc (n := 1) (lv' := fun z9 => [(4, .int z9), (0, .ref a), (1, .ref p0), (2, .ref p1), (3, .int p2)]) (k := 4) hx hb (rfl : Int32.toInt l4_3 = l4_3.toInt) (by decide) dX11_moves_164 hl rfl (by decide) (fun _ => rfl) (fun x164 ls t164 hl => ?_)
          have e164 : x164.toInt = (l4_3.toInt + 1) := (z_X11_moves_2 l4_3.toInt x164.toInt I3_0 t164)
          have hl : lv_has ls 9 [(4, .int x164), (0, .ref a), (1, .ref p0), (2, .ref p1), (3, .int p2)] := hl
          refine lv_goto (tgt := 3) hx hb dX11_moves_167 (by decide) ?_
          exact ih3 x164 G_164 _ _ _ (XFr.call (XFr.call XFr.rf hF_3 xm0 (xm1 0 rfl xm0) xm0) hF_164 xm0 (xm1 0 rfl xm0) xm0) (by rw [(e164 : Int32.toInt x164 = (l4_3.toInt + 1))] <;> exact (z_X11_moves_3 l4_3.toInt I3_0 c7)) (by rw [(e164 : Int32.toInt x164 = (l4_3.toInt + 1))] <;> exact (z_X11_moves_4 l4_3.toInt I3_0)) (by rw [(e164 : Int32.toInt x164 = (l4_3.toInt + 1))] <;> exact (z_X11_moves_5 l4_3.toInt N3 hm3)) hT hS (lv_sub hl [1, 2, 3, 4, 0] rfl)
        refine xi_zeq (tgt := 164) hx hb (rfl : Int32.toInt x13 = x13.toInt) dX11_moves_16 (by decide) (fun c16 => ?_) (fun c16 => ?_)
        · exact J164 G_3 _ _ _ XFr.rf hT hS (lv_sub hl [0, 1, 2, 3, 4] rfl)
        · refine lv_aload_n hx hb dX11_moves_19 rfl (lv_at hl 0 rfl) ?_
          refine lv_iload hx hb dX11_moves_20 (lv_at hl 4 rfl) ?_
          refine lv_bipush (v := 6) hx hb dX11_moves_22 (by decide) ?_
          refine x_clp (x_runV (b := a) (As := [.int l4_3, .int 6]) (rest := []) S (c_X11_of l E K F G_3 H a l4_3 6 ha (z_X11_moves_6 l4_3.toInt I3_0 c7) (by decide)) mv_X11_of km_X11_165 rfl rfl ⟨Nat.le_of_ble_eq_true rfl, Nat.le_of_ble_eq_true rfl⟩ (rc_13 hK hT ha) hK (fun _ => XPh.blind) (fun U hU hW => XPh.at hK hz hS hT hU hW) rfl hl.1 (Nat.le_of_ble_eq_true rfl) dX11_moves_24 ⟨Nat.le_of_ble_eq_true rfl, Nat.le_of_ble_eq_true rfl⟩) hS ?_
          rintro _ _ locs ⟨x24, rfl, t24⟩ hS
          have t24 : x24.toInt = (aI (G.2.1 (F a 10)) (10 * l4_3.toInt + 6)) := by rw [(show G_3.2.1 (F a 10) = G.2.1 (F a 10) from (hF_3.2.1 _ (xn1 (xne_k hk9999a hk9999 (by decide)) xn0)))] at t24; exact t24
          refine lv_iconst (v := 1) hx hb dX11_moves_27 (by decide) ?_
          refine xi_cne (tgt := 164) hx hb (t24 : Int32.toInt x24 = (aI (G.2.1 (F a 10)) (10 * l4_3.toInt + 6))) ((by decide) : Int32.toInt 1 = (1 : Int)) dX11_moves_28 (by decide) (fun c28 => ?_) (fun c28 => ?_)
          · exact J164 G_3 _ _ _ XFr.rf hT hS (lv_sub hl [0, 1, 2, 3, 4] rfl)
          · have z31 : (-1 ≤ (aI (G.2.1 (F a 10)) (10 * l4_3.toInt + 0)) ∧ (aI (G.2.1 (F a 10)) (10 * l4_3.toInt + 0)) ≤ 5) ∧ (0 ≤ (aI (G.2.1 (F a 10)) (10 * l4_3.toInt + 1)) ∧ (aI (G.2.1 (F a 10)) (10 * l4_3.toInt + 1)) ≤ 2) ∧ (0 ≤ (aI (G.2.1 (F a 10)) (10 * l4_3.toInt + 2)) ∧ (aI (G.2.1 (F a 10)) (10 * l4_3.toInt + 2)) ≤ 2) ∧ (-1 ≤ (aI (G.2.1 (F a 10)) (10 * l4_3.toInt + 3)) ∧ (aI (G.2.1 (F a 10)) (10 * l4_3.toInt + 3)) ≤ 2) ∧ ((aI (G.2.1 (F a 10)) (10 * l4_3.toInt + 0)) = 1 ∨ (aI (G.2.1 (F a 10)) (10 * l4_3.toInt + 0)) = 3 ∨ (aI (G.2.1 (F a 10)) (10 * l4_3.toInt + 0)) = 4 → 0 ≤ (aI (G.2.1 (F a 10)) (10 * l4_3.toInt + 3))) := RV.row hR (z_X11_moves_6 l4_3.toInt I3_0 c7)
            have z31a : (((aI (G.2.1 (F a 10)) (10 * l4_3.toInt + 0)) = 2 ∨ (aI (G.2.1 (F a 10)) (10 * l4_3.toInt + 0)) = 4 ∨ (aI (G.2.1 (F a 10)) (10 * l4_3.toInt + 0)) = 5) ∧ (sF (aI (G.2.1 (F a 10)) (10 * l4_3.toInt + 0))) = 0 ∧ (sL (aI (G.2.1 (F a 10)) (10 * l4_3.toInt + 0))) = 29) ∨ (¬ ((aI (G.2.1 (F a 10)) (10 * l4_3.toInt + 0)) = 2 ∨ (aI (G.2.1 (F a 10)) (10 * l4_3.toInt + 0)) = 4 ∨ (aI (G.2.1 (F a 10)) (10 * l4_3.toInt + 0)) = 5) ∧ (sF (aI (G.2.1 (F a 10)) (10 * l4_3.toInt + 0))) = -99 ∧ (sL (aI (G.2.1 (F a 10)) (10 * l4_3.toInt + 0))) = 99) := sFL _
            refine lv_aload_n hx hb dX11_moves_31 rfl (lv_at hl 0 rfl) ?_
            refine lv_iload hx hb dX11_moves_32 (lv_at hl 4 rfl) ?_
            refine x_clp (x_runV (b := a) (As := [.int l4_3]) (rest := []) S (c_X11_firstSubject l E K F G_3 H a l4_3 ha (z_X11_moves_6 l4_3.toInt I3_0 c7)) mv_X11_firstSubject km_X11_179 rfl rfl ⟨Nat.le_of_ble_eq_true rfl, Nat.le_of_ble_eq_true rfl⟩ (rc_13 hK hT ha) hK (fun _ => XPh.blind) (fun U hU hW => XPh.at hK hz hS hT hU hW) rfl hl.1 (Nat.le_of_ble_eq_true rfl) dX11_moves_34 ⟨Nat.le_of_ble_eq_true rfl, Nat.le_of_ble_eq_true rfl⟩) hS ?_
            rintro _ _ locs ⟨x34, rfl, t34⟩ hS
            have t34 : x34.toInt = (sF (aI (G.2.1 (F a 10)) (10 * l4_3.toInt + 0))) := by rw [(show G_3.2.1 (F a 10) = G.2.1 (F a 10) from (hF_3.2.1 _ (xn1 (xne_k hk9999a hk9999 (by decide)) xn0)))] at t34; exact t34
            refine lv_istore (lv' := [(5, .int x34), (0, .ref a), (1, .ref p0), (2, .ref p1), (3, .int p2), (4, .int l4_3)]) hx hb dX11_moves_37 hl (by decide) rfl (fun ls hl => ?_)
            have L39 : ∀ (N39 : Nat) (l5_39 : Int32) (G_39 : XG) (H : Heap) (locs : List Loc) (ls : Array Slot), XFr [] [F a 8] [] G_3 G_39 → (sF (aI (G.2.1 (F a 10)) (10 * l4_3.toInt + 0))) ≤ l5_39.toInt ∧ l5_39.toInt ≤ (sL (aI (G.2.1 (F a 10)) (10 * l4_3.toInt + 0))) + 1 → 2147483648 - l5_39.toInt < ((N39 : Nat) : Int) → TW E K F G_39 H → va_S (xA E) s.heap H locs → lv_has ls 9 [(0, .ref a), (1, .ref p0), (2, .ref p1), (3, .int p2), (4, .int l4_3), (5, .int l5_39)] → W p l e rm_X11_moves s m args below meth c H locs 0 0 Q (F0 m 39 ls []) := by
              intro N39
              induction N39 with
              | zero =>
                intro l5_39 G_39 H locs ls hF_39 I39_0 hm39
                exact absurd hm39 (z_X11_moves_9 l5_39.toInt (xr l5_39))
              | succ N39 ih39 =>
                intro l5_39 G_39 H locs ls hF_39 I39_0 hm39 hT hS hl
                refine lv_iload hx hb dX11_moves_39 (lv_at hl 5 rfl) ?_
                refine lv_aload_n hx hb dX11_moves_41 rfl (lv_at hl 0 rfl) ?_
                refine lv_iload hx hb dX11_moves_42 (lv_at hl 4 rfl) ?_
                refine x_clp (x_runV (b := a) (As := [.int l4_3]) (rest := [.int l5_39]) S (c_X11_lastSubject l E K F G_39 H a l4_3 ha (z_X11_moves_6 l4_3.toInt I3_0 c7)) mv_X11_lastSubject km_X11_183 rfl rfl ⟨Nat.le_of_ble_eq_true rfl, Nat.le_of_ble_eq_true rfl⟩ (rc_13 hK hT ha) hK (fun _ => XPh.blind) (fun U hU hW => XPh.at hK hz hS hT hU hW) rfl hl.1 (Nat.le_of_ble_eq_true rfl) dX11_moves_44 ⟨Nat.le_of_ble_eq_true rfl, Nat.le_of_ble_eq_true rfl⟩) hS ?_
                rintro _ _ locs ⟨x44, rfl, t44⟩ hS
                have t44 : x44.toInt = (sL (aI (G.2.1 (F a 10)) (10 * l4_3.toInt + 0))) := by rw [(show G_39.2.1 (F a 10) = G.2.1 (F a 10) from ((hF_39.2.1 _ (xn1 (xne_k hk9999a hk9999 (by decide)) xn0)).trans (hF_3.2.1 _ (xn1 (xne_k hk9999a hk9999 (by decide)) xn0))))] at t44; exact t44
                refine xi_cgt (tgt := 164) hx hb (rfl : Int32.toInt l5_39 = l5_39.toInt) (t44 : Int32.toInt x44 = (sL (aI (G.2.1 (F a 10)) (10 * l4_3.toInt + 0)))) dX11_moves_47 (by decide) (fun c47 => ?_) (fun c47 => ?_)
                · exact J164 G_39 _ _ _ (XFr.call XFr.rf hF_39 xm0 (xm1 0 rfl xm0) xm0) hT hS (lv_sub hl [0, 1, 2, 3, 4] rfl)
                · refine lv_iload hx hb dX11_moves_50 (lv_at hl 4 rfl) ?_
                  refine lv_iload hx hb dX11_moves_52 (lv_at hl 5 rfl) ?_
                  refine x_clp (x_runS (As := [.int l4_3, .int l5_39]) (rest := []) S (c_X11_placeOf l E K F G_39 H l4_3 l5_39 (z_X11_moves_11 l4_3.toInt l5_39.toInt (aI (G.2.1 (F a 10)) (10 * l4_3.toInt + 0)) (sF (aI (G.2.1 (F a 10)) (10 * l4_3.toInt + 0))) (sL (aI (G.2.1 (F a 10)) (10 * l4_3.toInt + 0))) I3_0 c7 z31a I39_0 c47)) ms_X11_placeOf km_X11_186 rfl rfl ⟨Nat.le_of_ble_eq_true rfl, Nat.le_of_ble_eq_true rfl⟩ hK (fun _ => XPh.blind) (fun U hU hW => XPh.at hK hz hS hT hU hW) rfl hl.1 (Nat.le_of_ble_eq_true rfl) dX11_moves_54 ⟨Nat.le_of_ble_eq_true rfl, Nat.le_of_ble_eq_true rfl⟩) hS ?_
                  rintro _ _ locs ⟨x54, rfl, t54⟩ hS
                  have t54 : x54.toInt = 199 * l4_3.toInt + l5_39.toInt + 99 := t54
                  refine lv_istore (lv' := [(6, .int x54), (0, .ref a), (1, .ref p0), (2, .ref p1), (3, .int p2), (4, .int l4_3), (5, .int l5_39)]) hx hb dX11_moves_57 hl (by decide) rfl (fun ls hl => ?_)
                  refine lv_aload_n hx hb dX11_moves_59 rfl (lv_at hl 2 rfl) ?_
                  refine lv_iload hx hb dX11_moves_60 (lv_at hl 0 rfl) ?_
                  refine al_0 S hK hT hp0 ar_38 (by decide) (by rw [(t54 : Int32.toInt x54 = 199 * l4_3.toInt + l5_39.toInt + 99)]; exact (z_X11_moves_12 l4_3.toInt l5_39.toInt (aI (G.2.1 (F a 10)) (10 * l4_3.toInt + 0)) (sF (aI (G.2.1 (F a 10)) (10 * l4_3.toInt + 0))) (sL (aI (G.2.1 (F a 10)) (10 * l4_3.toInt + 0))) I3_0 c7 z31a I39_0 c47)) dX11_moves_62 (fun x62 hv62 o62 => ?_)
                  have hv62 : x62.toInt = (aI (G.2.1 p0) (199 * l4_3.toInt + l5_39.toInt + 99)) := hv62.trans (by rw [(t54 : Int32.toInt x54 = 199 * l4_3.toInt + l5_39.toInt + 99), (((hF_39.2.1 _ (xn1 (xne_k hp0 hk9999 (by decide)) xn0)).trans (hF_3.2.1 _ (xn1 (xne_k hp0 hk9999 (by decide)) xn0))) : G_39.2.1 p0 = G.2.1 p0)])
                  refine lv_aload_n hx hb dX11_moves_63 rfl (lv_at hl 1 rfl) ?_
                  obtain ⟨hk64, hj64⟩ := fkX11_13 hT ha
                  refine gX11_13 S hK hT ha kf_X11_42 dX11_moves_64 (fun _ _ => ?_)
                  refine lv_iload hx hb dX11_moves_67 (lv_at hl 0 rfl) ?_
                  refine al_0 S hK hT hk64 ar_38 (by decide) (by rw [(t54 : Int32.toInt x54 = 199 * l4_3.toInt + l5_39.toInt + 99)]; exact (z_X11_moves_12 l4_3.toInt l5_39.toInt (aI (G.2.1 (F a 10)) (10 * l4_3.toInt + 0)) (sF (aI (G.2.1 (F a 10)) (10 * l4_3.toInt + 0))) (sL (aI (G.2.1 (F a 10)) (10 * l4_3.toInt + 0))) I3_0 c7 z31a I39_0 c47)) dX11_moves_69 (fun x69 hv69 o69 => ?_)
                  have hv69 : x69.toInt = (aI (G.2.1 (F a 13)) (199 * l4_3.toInt + l5_39.toInt + 99)) := hv69.trans (by rw [(t54 : Int32.toInt x54 = 199 * l4_3.toInt + l5_39.toInt + 99), (((hF_39.2.1 _ (xn1 (xne_k hk64 hk9999 (by decide)) xn0)).trans (hF_3.2.1 _ (xn1 (xne_k hk64 hk9999 (by decide)) xn0))) : G_39.2.1 (F a 13) = G.2.1 (F a 13))])
                  have J78 : ∀ (k_78 : Int32) (H : Heap) (locs : List Loc) (ls : Array Slot), TW E K F G_39 H → va_S (xA E) s.heap H locs → lv_has ls 9 [(0, .ref a), (1, .ref p0), (2, .ref p1), (3, .int p2), (4, .int l4_3), (5, .int l5_39), (6, .int x54)] → W p l e rm_X11_moves s m args below meth c H locs 0 0 Q (F0 m 78 ls [.int k_78]) := by
                    intro k_78 H locs ls hT hS hl
                    refine lv_istore (lv' := [(7, .int k_78), (0, .ref a), (1, .ref p0), (2, .ref p1), (3, .int p2), (4, .int l4_3), (5, .int l5_39), (6, .int x54)]) hx hb dX11_moves_78 hl (by decide) rfl (fun ls hl => ?_)
                    refine lv_aload_n hx hb dX11_moves_80 rfl (lv_at hl 3 rfl) ?_
                    refine lv_iload hx hb dX11_moves_81 (lv_at hl 7 rfl) ?_
                    refine al_0 S hK hT hp1 ar_38 (by decide) (by rw [(t54 : Int32.toInt x54 = 199 * l4_3.toInt + l5_39.toInt + 99)]; exact (z_X11_moves_12 l4_3.toInt l5_39.toInt (aI (G.2.1 (F a 10)) (10 * l4_3.toInt + 0)) (sF (aI (G.2.1 (F a 10)) (10 * l4_3.toInt + 0))) (sL (aI (G.2.1 (F a 10)) (10 * l4_3.toInt + 0))) I3_0 c7 z31a I39_0 c47)) dX11_moves_83 (fun x83 hv83 o83 => ?_)
                    have hv83 : x83.toInt = (aI (G.2.1 p1) (199 * l4_3.toInt + l5_39.toInt + 99)) := hv83.trans (by rw [(t54 : Int32.toInt x54 = 199 * l4_3.toInt + l5_39.toInt + 99), (((hF_39.2.1 _ (xn1 (xne_k hp1 hk9999 (by decide)) xn0)).trans (hF_3.2.1 _ (xn1 (xne_k hp1 hk9999 (by decide)) xn0))) : G_39.2.1 p1 = G.2.1 p1)])
                    refine lv_aload_n hx hb dX11_moves_84 rfl (lv_at hl 1 rfl) ?_
                    refine gX11_13 S hK hT ha kf_X11_42 dX11_moves_85 (fun _ _ => ?_)
                    refine lv_iload hx hb dX11_moves_88 (lv_at hl 7 rfl) ?_
                    refine al_0 S hK hT hk64 ar_38 (by decide) (by rw [(t54 : Int32.toInt x54 = 199 * l4_3.toInt + l5_39.toInt + 99)]; exact (z_X11_moves_12 l4_3.toInt l5_39.toInt (aI (G.2.1 (F a 10)) (10 * l4_3.toInt + 0)) (sF (aI (G.2.1 (F a 10)) (10 * l4_3.toInt + 0))) (sL (aI (G.2.1 (F a 10)) (10 * l4_3.toInt + 0))) I3_0 c7 z31a I39_0 c47)) dX11_moves_90 (fun x90 hv90 o90 => ?_)
                    have hv90 : x90.toInt = (aI (G.2.1 (F a 13)) (199 * l4_3.toInt + l5_39.toInt + 99)) := hv90.trans (by rw [(t54 : Int32.toInt x54 = 199 * l4_3.toInt + l5_39.toInt + 99), (((hF_39.2.1 _ (xn1 (xne_k hk64 hk9999 (by decide)) xn0)).trans (hF_3.2.1 _ (xn1 (xne_k hk64 hk9999 (by decide)) xn0))) : G_39.2.1 (F a 13) = G.2.1 (F a 13))])
                    have J99 : ∀ (k_99 : Int32) (H : Heap) (locs : List Loc) (ls : Array Slot), TW E K F G_39 H → va_S (xA E) s.heap H locs → lv_has ls 9 [(0, .ref a), (1, .ref p0), (2, .ref p1), (3, .int p2), (4, .int l4_3), (5, .int l5_39), (7, .int k_78)] → W p l e rm_X11_moves s m args below meth c H locs 0 0 Q (F0 m 99 ls [.int k_99]) := by
                      intro k_99 H locs ls hT hS hl
                      refine lv_istore (lv' := [(8, .int k_99), (0, .ref a), (1, .ref p0), (2, .ref p1), (3, .int p2), (4, .int l4_3), (5, .int l5_39), (7, .int k_78)]) hx hb dX11_moves_99 hl (by decide) rfl (fun ls hl => ?_)
                      refine lv_aload_n hx hb dX11_moves_101 rfl (lv_at hl 1 rfl) ?_
                      refine gX11_8 S hK hT ha kf_X11_27 dX11_moves_102 (fun _ _ => ?_)
                      refine lv_iload_n hx hb dX11_moves_105 rfl (lv_at hl 4 rfl) ?_
                      refine lv_iconst (v := 1) hx hb dX11_moves_106 (by decide) ?_
                      have J115 : ∀ (k_115 : Int32) (H : Heap) (locs : List Loc) (ls : Array Slot), 0 ≤ k_115.toInt ∧ k_115.toInt ≤ 3 → TW E K F G_39 H → va_S (xA E) s.heap H locs → lv_has ls 9 [(0, .ref a), (1, .ref p0), (2, .ref p1), (3, .int p2), (4, .int l4_3), (5, .int l5_39), (7, .int k_78), (8, .int k_99)] → W p l e rm_X11_moves s m args below meth c H locs 0 0 Q (F0 m 115 ls [.int k_115, .ref (F a 8)]) := by
                        intro k_115 H locs ls I115_0 hT hS hl
                        refine lv_dup2_11 hx hb dX11_moves_115 rfl rfl ?_
                        refine al_0 S hK hT hk9999 ar_35 (by decide) (z_X11_moves_16 k_115.toInt I115_0) dX11_moves_116 (fun x116 hv116 o116 => ?_)
                        have hv116 : x116.toInt = (aI (G_39.2.1 (F a 8)) (k_115.toInt)) := hv116.trans (by rw [(rfl : Int32.toInt k_115 = k_115.toInt)])
                        refine lv_iload hx hb dX11_moves_117 (lv_at hl 7 rfl) ?_
                        have J132 : ∀ (k_132 : Int32) (H : Heap) (locs : List Loc) (ls : Array Slot), TW E K F G_39 H → va_S (xA E) s.heap H locs → lv_has ls 9 [(0, .ref a), (1, .ref p0), (2, .ref p1), (3, .int p2), (4, .int l4_3), (5, .int l5_39), (7, .int k_78), (8, .int k_99)] → W p l e rm_X11_moves s m args below meth c H locs 0 0 Q (F0 m 132 ls [.int k_132, .int x116, .int k_115, .ref (F a 8)]) := by
                          intro k_132 H locs ls hT hS hl
                          refine xi_iadd hx hb (hv116 : Int32.toInt x116 = (aI (G_39.2.1 (F a 8)) (k_115.toInt))) (rfl : Int32.toInt k_132 = k_132.toInt) dX11_moves_132 (fun x132 t132 => ?_)
                          refine as_0 (x := x132) S hK hT hS hk9999 ar_35 aw_35 (by decide) (z_X11_moves_16 k_115.toInt I115_0) dX11_moves_133 (fun H locs hT hS => ?_)
                          obtain ⟨G133, hG133⟩ : ∃ GG : XG, GG = cput G_39 (F a 8) k_115.toNatClampNeg x132 := ⟨_, rfl⟩
                          rw [← hG133] at hT
                          refine lv_aload_n hx hb dX11_moves_134 rfl (lv_at hl 0 rfl) ?_
                          refine gX11_8 S hK hT ha kf_X11_27 dX11_moves_135 (fun _ _ => ?_)
                          refine lv_iload_n hx hb dX11_moves_138 rfl (lv_at hl 3 rfl) ?_
                          refine lv_dup2_11 hx hb dX11_moves_139 rfl rfl ?_
                          refine al_0 S hK hT hk9999 ar_35 (by decide) (z_X11_moves_18 p2.toInt e0) dX11_moves_140 (fun x140 hv140 o140 => ?_)
                          have hv140 : x140.toInt = (aI (G133.2.1 (F a 8)) (p2.toInt)) := hv140.trans (by rw [(rfl : Int32.toInt p2 = p2.toInt)])
                          have hc140 : (p2.toInt = k_115.toInt → (aI (G133.2.1 (F a 8)) (p2.toInt)) = x132.toInt) ∧ (p2.toInt ≠ k_115.toInt → (aI (G133.2.1 (F a 8)) (p2.toInt)) = (aI (G_39.2.1 (F a 8)) (p2.toInt))) := xlk hG133 rfl (rfl : Int32.toInt k_115 = k_115.toInt) (rfl : Int32.toInt x132 = x132.toInt) (z_X11_moves_20 k_115.toInt I115_0) (z_X11_moves_19 p2.toInt e0)
                          refine lv_iload hx hb dX11_moves_141 (lv_at hl 6 rfl) ?_
                          have J156 : ∀ (k_156 : Int32) (H : Heap) (locs : List Loc) (ls : Array Slot), TW E K F G133 H → va_S (xA E) s.heap H locs → lv_has ls 9 [(0, .ref a), (1, .ref p0), (2, .ref p1), (3, .int p2), (4, .int l4_3), (5, .int l5_39)] → W p l e rm_X11_moves s m args below meth c H locs 0 0 Q (F0 m 156 ls [.int k_156, .int x140, .int p2, .ref (F a 8)]) := by
                            intro k_156 H locs ls hT hS hl
                            refine xi_iadd hx hb (hv140 : Int32.toInt x140 = (aI (G133.2.1 (F a 8)) (p2.toInt))) (rfl : Int32.toInt k_156 = k_156.toInt) dX11_moves_156 (fun x156 t156 => ?_)
                            refine as_0 (x := x156) S hK hT hS hk9999 ar_35 aw_35 (by decide) (z_X11_moves_18 p2.toInt e0) dX11_moves_157 (fun H locs hT hS => ?_)
                            obtain ⟨G157, hG157⟩ : ∃ GG : XG, GG = cput G133 (F a 8) p2.toNatClampNeg x156 := ⟨_, rfl⟩
                            rw [← hG157] at hT
                            refine xi_iinc (n := 1) (lv' := fun z9 => [(5, .int z9), (0, .ref a), (1, .ref p0), (2, .ref p1), (3, .int p2), (4, .int l4_3)]) (k := 5) hx hb (rfl : Int32.toInt l5_39 = l5_39.toInt) (by decide) dX11_moves_158 hl rfl (by decide) (fun _ => rfl) (fun x158 ls t158 hl => ?_)
                            have e158 : x158.toInt = (l5_39.toInt + 1) := (z_X11_moves_22 l5_39.toInt x158.toInt (aI (G.2.1 (F a 10)) (10 * l4_3.toInt + 0)) (sF (aI (G.2.1 (F a 10)) (10 * l4_3.toInt + 0))) (sL (aI (G.2.1 (F a 10)) (10 * l4_3.toInt + 0))) z31a c47 t158 (xr l5_39))
                            have hl : lv_has ls 9 [(5, .int x158), (0, .ref a), (1, .ref p0), (2, .ref p1), (3, .int p2), (4, .int l4_3)] := hl
                            refine lv_goto (tgt := 39) hx hb dX11_moves_161 (by decide) ?_
                            exact ih39 x158 G157 _ _ _ (by rw [hG157]; exact XFr.cput (by rw [hG133]; exact XFr.cput (XFr.call XFr.rf hF_39 xm0 (xm1 0 rfl xm0) xm0) (List.mem_of_getElem? (i := 0) rfl)) (List.mem_of_getElem? (i := 0) rfl)) (by rw [(e158 : Int32.toInt x158 = (l5_39.toInt + 1))] <;> exact (z_X11_moves_23 l5_39.toInt (sF (aI (G.2.1 (F a 10)) (10 * l4_3.toInt + 0))) (sL (aI (G.2.1 (F a 10)) (10 * l4_3.toInt + 0))) I39_0 c47)) (by rw [(e158 : Int32.toInt x158 = (l5_39.toInt + 1))] <;> exact (z_X11_moves_5 l5_39.toInt N39 hm39)) hT hS (lv_sub hl [1, 2, 3, 4, 5, 0] rfl)
                          have J155 : ∀ (H : Heap) (locs : List Loc) (ls : Array Slot), TW E K F G133 H → va_S (xA E) s.heap H locs → lv_has ls 9 [(0, .ref a), (1, .ref p0), (2, .ref p1), (3, .int p2), (4, .int l4_3), (5, .int l5_39)] → W p l e rm_X11_moves s m args below meth c H locs 0 0 Q (F0 m 155 ls [.int x140, .int p2, .ref (F a 8)]) := by
                            intro H locs ls hT hS hl
                            refine lv_iconst (v := 0) hx hb dX11_moves_155 (by decide) ?_
                            exact J156 0 _ _ _ hT hS (lv_sub hl [0, 1, 2, 3, 4, 5] rfl)
                          refine xi_zeq (tgt := 155) hx hb (rfl : Int32.toInt k_78 = k_78.toInt) dX11_moves_143 (by decide) (fun c143 => ?_) (fun c143 => ?_)
                          · exact J155 _ _ _ hT hS (lv_sub hl [0, 1, 2, 3, 4, 5] rfl)
                          · refine lv_iload hx hb dX11_moves_146 (lv_at hl 7 rfl) ?_
                            refine xi_zne (tgt := 155) hx hb (rfl : Int32.toInt k_99 = k_99.toInt) dX11_moves_148 (by decide) (fun c148 => ?_) (fun c148 => ?_)
                            · exact J155 _ _ _ hT hS (lv_sub hl [0, 1, 2, 3, 4, 5] rfl)
                            · refine lv_iconst (v := 1) hx hb dX11_moves_151 (by decide) ?_
                              refine lv_goto (tgt := 156) hx hb dX11_moves_152 (by decide) ?_
                              exact J156 1 _ _ _ hT hS (lv_sub hl [0, 1, 2, 3, 4, 5] rfl)
                        have J131 : ∀ (H : Heap) (locs : List Loc) (ls : Array Slot), TW E K F G_39 H → va_S (xA E) s.heap H locs → lv_has ls 9 [(0, .ref a), (1, .ref p0), (2, .ref p1), (3, .int p2), (4, .int l4_3), (5, .int l5_39), (7, .int k_78), (8, .int k_99)] → W p l e rm_X11_moves s m args below meth c H locs 0 0 Q (F0 m 131 ls [.int x116, .int k_115, .ref (F a 8)]) := by
                          intro H locs ls hT hS hl
                          refine lv_iconst (v := 0) hx hb dX11_moves_131 (by decide) ?_
                          exact J132 0 _ _ _ hT hS (lv_sub hl [0, 1, 2, 3, 4, 5, 6, 7] rfl)
                        refine xi_zeq (tgt := 131) hx hb (rfl : Int32.toInt k_99 = k_99.toInt) dX11_moves_119 (by decide) (fun c119 => ?_) (fun c119 => ?_)
                        · exact J131 _ _ _ hT hS (lv_sub hl [0, 1, 2, 3, 4, 5, 6, 7] rfl)
                        · refine lv_iload hx hb dX11_moves_122 (lv_at hl 6 rfl) ?_
                          refine xi_zne (tgt := 131) hx hb (rfl : Int32.toInt k_78 = k_78.toInt) dX11_moves_124 (by decide) (fun c124 => ?_) (fun c124 => ?_)
                          · exact J131 _ _ _ hT hS (lv_sub hl [0, 1, 2, 3, 4, 5, 6, 7] rfl)
                          · refine lv_iconst (v := 1) hx hb dX11_moves_127 (by decide) ?_
                            refine lv_goto (tgt := 132) hx hb dX11_moves_128 (by decide) ?_
                            exact J132 1 _ _ _ hT hS (lv_sub hl [0, 1, 2, 3, 4, 5, 6, 7] rfl)
                      refine xi_cne (tgt := 114) hx hb (rfl : Int32.toInt p2 = p2.toInt) ((by decide) : Int32.toInt 1 = (1 : Int)) dX11_moves_107 (by decide) (fun c107 => ?_) (fun c107 => ?_)
                      · refine lv_iconst (v := 3) hx hb dX11_moves_114 (by decide) ?_
                        exact J115 3 _ _ _ (by decide) hT hS (lv_sub hl [1, 2, 3, 4, 5, 6, 7, 0] rfl)
                      · refine lv_iconst (v := 0) hx hb dX11_moves_110 (by decide) ?_
                        refine lv_goto (tgt := 115) hx hb dX11_moves_111 (by decide) ?_
                        exact J115 0 _ _ _ (by decide) hT hS (lv_sub hl [1, 2, 3, 4, 5, 6, 7, 0] rfl)
                    refine xi_ceq (tgt := 98) hx hb (hv83 : Int32.toInt x83 = (aI (G.2.1 p1) (199 * l4_3.toInt + l5_39.toInt + 99))) (hv90 : Int32.toInt x90 = (aI (G.2.1 (F a 13)) (199 * l4_3.toInt + l5_39.toInt + 99))) dX11_moves_91 (by decide) (fun c91 => ?_) (fun c91 => ?_)
                    · refine lv_iconst (v := 0) hx hb dX11_moves_98 (by decide) ?_
                      exact J99 0 _ _ _ hT hS (lv_sub hl [1, 2, 3, 4, 5, 6, 0] rfl)
                    · refine lv_iconst (v := 1) hx hb dX11_moves_94 (by decide) ?_
                      refine lv_goto (tgt := 99) hx hb dX11_moves_95 (by decide) ?_
                      exact J99 1 _ _ _ hT hS (lv_sub hl [1, 2, 3, 4, 5, 6, 0] rfl)
                  refine xi_ceq (tgt := 77) hx hb (hv62 : Int32.toInt x62 = (aI (G.2.1 p0) (199 * l4_3.toInt + l5_39.toInt + 99))) (hv69 : Int32.toInt x69 = (aI (G.2.1 (F a 13)) (199 * l4_3.toInt + l5_39.toInt + 99))) dX11_moves_70 (by decide) (fun c70 => ?_) (fun c70 => ?_)
                  · refine lv_iconst (v := 0) hx hb dX11_moves_77 (by decide) ?_
                    exact J78 0 _ _ _ hT hS (lv_sub hl [1, 2, 3, 4, 5, 6, 0] rfl)
                  · refine lv_iconst (v := 1) hx hb dX11_moves_73 (by decide) ?_
                    refine lv_goto (tgt := 78) hx hb dX11_moves_74 (by decide) ?_
                    exact J78 1 _ _ _ hT hS (lv_sub hl [1, 2, 3, 4, 5, 6, 0] rfl)
            exact L39 4294967297 x34 G_3 _ _ _ XFr.rf (by rw [(t34 : Int32.toInt x34 = (sF (aI (G.2.1 (F a 10)) (10 * l4_3.toInt + 0))))] <;> exact (z_X11_moves_25 (aI (G.2.1 (F a 10)) (10 * l4_3.toInt + 0)) (sF (aI (G.2.1 (F a 10)) (10 * l4_3.toInt + 0))) (sL (aI (G.2.1 (F a 10)) (10 * l4_3.toInt + 0))) z31a)) (by rw [(t34 : Int32.toInt x34 = (sF (aI (G.2.1 (F a 10)) (10 * l4_3.toInt + 0))))] <;> exact (z_X11_moves_26 (aI (G.2.1 (F a 10)) (10 * l4_3.toInt + 0)) (sF (aI (G.2.1 (F a 10)) (10 * l4_3.toInt + 0))) (sL (aI (G.2.1 (F a 10)) (10 * l4_3.toInt + 0))) z31a)) hT hS (lv_sub hl [1, 2, 3, 4, 5, 0] rfl)
  exact L3 4294967297 0 G _ _ _ XFr.rf (by decide) (by decide) (by decide) hT hS (lv_sub hl [1, 2, 3, 4, 0] rfl)

theorem z_X11_takeAsked_2 (a0 : Int) (a1 : Int) (a2 : Int) (h0 : 0 ≤ a0 ∧ a0 ≤ 2388) (h1 : ((a2 = -1 ∧ a0 = a1) ∨ (a2 ≠ -1 ∧ a0 = a2 + 1))) : 0 ≤ a0 ∧ a0 ≤ 2388 ∧ a2 = a2 ∧ ((a2 = -1 ∧ a0 = a1) ∨ (a2 ≠ -1 ∧ a0 = a2 + 1)) := by omega
theorem z_X11_takeAsked_3 (a0 : Int) (a1 : Int) (h0 : 0 ≤ a0 ∧ a0 ≤ 2388) (h1 : 0 ≤ a1) (h2 : ¬ (a0 ≤ a1)) : 0 ≤ a1 ∧ a1 < ((2400 : Nat) : Int) := by omega
theorem z_X11_takeAsked_7 (a0 : Int) (a1 : Int) (a2 : Int) (h0 : 0 ≤ a0 ∧ a0 ≤ 2388) (h1 : 0 ≤ a1) (h2 : ¬ (a0 ≤ a1)) (h3 : a2 = (a1 + 1) ∨ (a1 + 1) < -2147483648 ∨ 2147483648 ≤ (a1 + 1)) : a2 = (a1 + 1) := by omega
theorem z_X11_takeAsked_8 (a0 : Int) (h0 : 0 ≤ a0) : 0 ≤ (a0 + 1) := by omega
theorem z_X11_takeAsked_9 (a0 : Int) (a1 : Int) (h0 : ¬ (a0 ≤ a1)) : (a1 + 1) ≤ a0 := by omega
theorem z_X11_takeAsked_10 (a0 : Int) (h0 : 0 ≤ a0) : (0 : Int) ≤ (a0 + 1) := by omega
theorem z_X11_takeAsked_12 (a0 : Int) (h0 : 0 ≤ a0 ∧ a0 ≤ 2388) : (0 : Int) ≤ a0 := by omega
theorem z_X11_takeAsked_13 (a0 : Int) (a1 : Int) (a2 : Int) (h0 : 0 ≤ a1 ∧ a1 ≤ 2388 ∧ -1 ≤ a2 ∧ a2 < 2388) (h1 : a0 = (a2 + (1 : Int)) ∨ (a2 + (1 : Int)) < -2147483648 ∨ 2147483648 ≤ (a2 + (1 : Int))) : a0 = (a2 + (1 : Int)) := by omega
theorem z_X11_takeAsked_14 (a0 : Int) (a1 : Int) (h0 : 0 ≤ a0 ∧ a0 ≤ 2388 ∧ -1 ≤ a1 ∧ a1 < 2388) : 0 ≤ (a1 + (1 : Int)) ∧ (a1 + (1 : Int)) ≤ 2388 := by omega
theorem z_X11_takeAsked_15 (a0 : Int) (a1 : Int) (h0 : a1 ≠ (-1 : Int)) : ((a1 = -1 ∧ (a1 + (1 : Int)) = a0) ∨ (a1 ≠ -1 ∧ (a1 + (1 : Int)) = a1 + 1)) := by omega
theorem z_X11_takeAsked_16 (a0 : Int) (a1 : Int) (h0 : 0 ≤ a0 ∧ a0 ≤ 2388 ∧ -1 ≤ a1 ∧ a1 < 2388) : 0 ≤ a0 ∧ a0 ≤ 2388 := by omega
theorem z_X11_takeAsked_17 (a0 : Int) (a1 : Int) (h0 : ¬ (a1 ≠ (-1 : Int))) : ((a1 = -1 ∧ a0 = a0) ∨ (a1 ≠ -1 ∧ a0 = a1 + 1)) := by omega
abbrev rm_X11_takeAsked : Room := { frames := 0, cells := 0, slots := 0, locals := 0 }
set_option maxHeartbeats 4000000 in
set_option maxRecDepth 100000 in
theorem c_X11_takeAsked (l : Launch) (E : XE) (K : Nat → Nat) (F : Nat → Nat → Nat) (G : XG) (a : Nat) (ha : K a = 13) (s0 : 0 ≤ ((G.1 a 19).toInt) ∧ ((G.1 a 19).toInt) ≤ 2388 ∧ -1 ≤ ((G.1 a 46).toInt) ∧ ((G.1 a 46).toInt) < 2388) : Met l yX11_takeAsked (xw yX11_takeAsked cX11_takeAsked 2 none) rm_X11_takeAsked (va_Pc [.ref a] (XP E K F G)) (XQv E (fun (u : XG) => XFr [(a, 43), (a, 44)] [F a 41, F a 42, F a 9] [] G u ∧ (0 ≤ ((u.1 a 43).toInt) ∧ ((u.1 a 43).toInt) ≤ 2388 ∧ ((u.1 a 44).toInt) = ((G.1 a 46).toInt) ∧ ((((G.1 a 46).toInt) = -1 ∧ ((u.1 a 43).toInt) = ((G.1 a 19).toInt)) ∨ (((G.1 a 46).toInt) ≠ -1 ∧ ((u.1 a 43).toInt) = ((G.1 a 46).toInt) + 1))) ∧ (((G.1 a 46).toInt) < ((G.1 a 19).toInt) → aL u F a = (pL G F a).take ((u.1 a 43).toInt).toNat)) (fun u H => TW E K F u H)) 0 0 (xA E) := by
  refine x_enter (by decide) (Nat.le_of_ble_eq_true rfl) ?_
  intro p e s m args below meth c Q S hr hlk hnm hQ hP ls hl
  obtain ⟨hz, hK, hT⟩ := hP
  obtain ⟨hx, hb, -, -, -⟩ := id S
  obtain ⟨H, hT, hS, hgo⟩ : ∃ H : Heap, TW E K F G H ∧ va_S (xA E) s.heap H [] ∧ H = s.heap := ⟨_, hT, va_S.rf, rfl⟩
  rw [← hgo]
  have hl : lv_has ls 2 [(0, .ref a)] := hl
  obtain ⟨hk9999, hj9999⟩ := fkX11_41 hT ha
  obtain ⟨hk9999a, hj9999a⟩ := fkX11_42 hT ha
  obtain ⟨hk9999b, hj9999b⟩ := fkX11_9 hT ha
  refine lv_aload_n hx hb dX11_takeAsked_0 rfl (lv_at hl 0 rfl) ?_
  refine lv_aload_n hx hb dX11_takeAsked_1 rfl (lv_at hl 0 rfl) ?_
  refine gX11_46 S hK hT ha kf_X11_322 dX11_takeAsked_2 (v := (G.1 a 46)) rfl (?_)
  refine lv_iconst (v := (-1)) hx hb dX11_takeAsked_5 (by decide) ?_
  have J22 : ∀ (k_22 : Int32) (H : Heap) (locs : List Loc) (ls : Array Slot), 0 ≤ k_22.toInt ∧ k_22.toInt ≤ 2388 → ((((G.1 a 46).toInt) = -1 ∧ k_22.toInt = ((G.1 a 19).toInt)) ∨ (((G.1 a 46).toInt) ≠ -1 ∧ k_22.toInt = ((G.1 a 46).toInt) + 1)) → TW E K F G H → va_S (xA E) s.heap H locs → lv_has ls 2 [(0, .ref a)] → W p l e rm_X11_takeAsked s m args below meth c H locs 0 0 Q (F0 m 22 ls [.int k_22, .ref a]) := by
    intro k_22 H locs ls I22_0 I22_1 hT hS hl
    refine pX11_43 (v := k_22) S hK hT hS ha kf_X11_340 dX11_takeAsked_22 (fun H locs hT hS => ?_)
    obtain ⟨G22, hG22⟩ : ∃ GG : XG, GG = dput G a 43 k_22 := ⟨_, rfl⟩
    rw [← hG22] at hT
    refine lv_aload_n hx hb dX11_takeAsked_25 rfl (lv_at hl 0 rfl) ?_
    refine lv_aload_n hx hb dX11_takeAsked_26 rfl (lv_at hl 0 rfl) ?_
    refine gX11_46 S hK hT ha kf_X11_322 dX11_takeAsked_27 (v := (G.1 a 46)) (ld_j hG22 (by decide)) (?_)
    refine pX11_44 (v := (G.1 a 46)) S hK hT hS ha kf_X11_115 dX11_takeAsked_30 (fun H locs hT hS => ?_)
    obtain ⟨G30, hG30⟩ : ∃ GG : XG, GG = dput G22 a 44 (G.1 a 46) := ⟨_, rfl⟩
    rw [← hG30] at hT
    refine lv_iconst (v := 0) hx hb dX11_takeAsked_33 (by decide) ?_
    refine lv_istore_n (lv' := [(1, .int 0), (0, .ref a)]) hx hb dX11_takeAsked_34 rfl hl (by decide) rfl (fun ls hl => ?_)
    have L35 : ∀ (N35 : Nat) (l1_35 : Int32) (G_35 : XG) (H : Heap) (locs : List Loc) (ls : Array Slot), XFr [] [F a 41, F a 42] [] G30 G_35 → (∀ j : Int, 0 ≤ j → j < l1_35.toInt → aI (G_35.2.1 (F a 41)) j = aI (G.2.1 (F a 17)) j ∧ aI (G_35.2.1 (F a 42)) j = aI (G.2.1 (F a 18)) j) → 0 ≤ l1_35.toInt → l1_35.toInt ≤ k_22.toInt → (0 : Int) ≤ l1_35.toInt → 2147483648 - l1_35.toInt < ((N35 : Nat) : Int) → TW E K F G_35 H → va_S (xA E) s.heap H locs → lv_has ls 2 [(0, .ref a), (1, .int l1_35)] → W p l e rm_X11_takeAsked s m args below meth c H locs 0 0 Q (F0 m 35 ls []) := by
      intro N35
      induction N35 with
      | zero =>
        intro l1_35 G_35 H locs ls hF_35 pt I35_0 I35_1 I35_2 hm35
        exact absurd hm35 (z_X11_moves_9 l1_35.toInt (xr l1_35))
      | succ N35 ih35 =>
        intro l1_35 G_35 H locs ls hF_35 pt I35_0 I35_1 I35_2 hm35 hT hS hl
        refine lv_iload_n hx hb dX11_takeAsked_35 rfl (lv_at hl 1 rfl) ?_
        refine lv_aload_n hx hb dX11_takeAsked_36 rfl (lv_at hl 0 rfl) ?_
        refine gX11_43 S hK hT ha kf_X11_340 dX11_takeAsked_37 (v := k_22) ((hF_35.1 _ _ xn0).trans ((ld_j hG30 (by decide)).trans (ld_at hG22))) (?_)
        refine xi_cge (tgt := 73) hx hb (rfl : Int32.toInt l1_35 = l1_35.toInt) (rfl : Int32.toInt k_22 = k_22.toInt) dX11_takeAsked_40 (by decide) (fun c40 => ?_) (fun c40 => ?_)
        · refine lv_aload_n hx hb dX11_takeAsked_73 rfl (lv_at hl 0 rfl) ?_
          refine gX11_9 S hK hT ha kf_X11_30 dX11_takeAsked_74 (fun _ _ => ?_)
          refine lv_iconst (v := 0) hx hb dX11_takeAsked_77 (by decide) ?_
          refine lv_dup2_11 hx hb dX11_takeAsked_78 rfl rfl ?_
          refine al_0 S hK hT hk9999b ar_36 (by decide) (by decide) dX11_takeAsked_79 (fun x79 hv79 o79 => ?_)
          have hv79 : x79.toInt = (aI (G.2.1 (F a 9)) 0) := hv79.trans (by rw [((by decide) : Int32.toInt 0 = (0 : Int)), (((hF_35.2.1 _ (xn1 (xne_k hk9999b hk9999 (by decide)) (xn1 (xne_k hk9999b hk9999a (by decide)) xn0))).trans ((ld_c hG30).trans (ld_c hG22))) : G_35.2.1 (F a 9) = G.2.1 (F a 9))])
          refine lv_aload_n hx hb dX11_takeAsked_80 rfl (lv_at hl 0 rfl) ?_
          refine gX11_43 S hK hT ha kf_X11_340 dX11_takeAsked_81 (v := k_22) ((hF_35.1 _ _ xn0).trans ((ld_j hG30 (by decide)).trans (ld_at hG22))) (?_)
          refine xi_iadd hx hb (hv79 : Int32.toInt x79 = (aI (G.2.1 (F a 9)) 0)) (rfl : Int32.toInt k_22 = k_22.toInt) dX11_takeAsked_84 (fun x84 t84 => ?_)
          refine as_0 (x := x84) S hK hT hS hk9999b ar_36 aw_36 (by decide) (by decide) dX11_takeAsked_85 (fun H locs hT hS => ?_)
          obtain ⟨G85, hG85⟩ : ∃ GG : XG, GG = cput G_35 (F a 9) (0 : Int32).toNatClampNeg x84 := ⟨_, rfl⟩
          rw [← hG85] at hT
          exact x_rv hx hb hr hlk hQ (Nat.le_of_ble_eq_true rfl) (Nat.le_of_ble_eq_true rfl) hS dX11_takeAsked_86 G85 ⟨(by rw [hG85]; exact XFr.cput (XFr.call (by rw [hG30]; exact XFr.dput (by rw [hG22]; exact XFr.dput XFr.rf (List.mem_of_getElem? (i := 0) rfl)) (List.mem_of_getElem? (i := 1) rfl)) hF_35 xm0 (xm1 0 rfl (xm1 1 rfl xm0)) xm0) (List.mem_of_getElem? (i := 2) rfl)), (by rw [(show (G85.1 a 43).toInt = k_22.toInt from (congrArg Int32.toInt ((lc_d hG85).trans ((hF_35.1 _ _ xn0).trans ((ld_j hG30 (by decide)).trans (ld_at hG22))))).trans (rfl : Int32.toInt k_22 = k_22.toInt)), (show (G85.1 a 44).toInt = ((G.1 a 46).toInt) from (congrArg Int32.toInt ((lc_d hG85).trans ((hF_35.1 _ _ xn0).trans (ld_at hG30)))).trans (rfl : Int32.toInt (G.1 a 46) = ((G.1 a 46).toInt)))] <;> exact (z_X11_takeAsked_2 k_22.toInt ((G.1 a 19).toInt) ((G.1 a 46).toInt) I22_0 I22_1)), (v_X11_takeAsked_86_1 (K := K) (F := F) a G k_22 G_35 G85 l1_35 N35 ha pt s0 I22_0 I22_1 I35_0 I35_1 I35_2 hm35 c40 (lc_c hG85 (xne_k hk9999 hk9999b (by decide))) (lc_c hG85 (xne_k hk9999a hk9999b (by decide))) ((lc_d hG85).trans ((hF_35.1 _ _ xn0).trans ((ld_j hG30 (by decide)).trans (ld_at hG22)))))⟩ hT
        · refine lv_aload_n hx hb dX11_takeAsked_43 rfl (lv_at hl 0 rfl) ?_
          refine gX11_41 S hK hT ha kf_X11_109 dX11_takeAsked_44 (fun _ _ => ?_)
          refine lv_iload_n hx hb dX11_takeAsked_47 rfl (lv_at hl 1 rfl) ?_
          refine lv_aload_n hx hb dX11_takeAsked_48 rfl (lv_at hl 0 rfl) ?_
          obtain ⟨hk49, hj49⟩ := fkX11_17 hT ha
          refine gX11_17 S hK hT ha kf_X11_51 dX11_takeAsked_49 (fun _ _ => ?_)
          refine lv_iload_n hx hb dX11_takeAsked_52 rfl (lv_at hl 1 rfl) ?_
          refine al_0 S hK hT hk49 ar_43 (by decide) (z_X11_takeAsked_3 k_22.toInt l1_35.toInt I22_0 I35_0 c40) dX11_takeAsked_53 (fun x53 hv53 o53 => ?_)
          have hv53 : x53.toInt = (aI (G.2.1 (F a 17)) (l1_35.toInt)) := hv53.trans (by rw [(rfl : Int32.toInt l1_35 = l1_35.toInt), (((hF_35.2.1 _ (xn1 (xne_k hk49 hk9999 (by decide)) (xn1 (xne_k hk49 hk9999a (by decide)) xn0))).trans ((ld_c hG30).trans (ld_c hG22))) : G_35.2.1 (F a 17) = G.2.1 (F a 17))])
          refine as_0 (x := x53) S hK hT hS hk9999 ar_53 aw_53 (by decide) (z_X11_takeAsked_3 k_22.toInt l1_35.toInt I22_0 I35_0 c40) dX11_takeAsked_54 (fun H locs hT hS => ?_)
          obtain ⟨G54, hG54⟩ : ∃ GG : XG, GG = cput G_35 (F a 41) l1_35.toNatClampNeg x53 := ⟨_, rfl⟩
          rw [← hG54] at hT
          refine lv_aload_n hx hb dX11_takeAsked_55 rfl (lv_at hl 0 rfl) ?_
          refine gX11_42 S hK hT ha kf_X11_112 dX11_takeAsked_56 (fun _ _ => ?_)
          refine lv_iload_n hx hb dX11_takeAsked_59 rfl (lv_at hl 1 rfl) ?_
          refine lv_aload_n hx hb dX11_takeAsked_60 rfl (lv_at hl 0 rfl) ?_
          obtain ⟨hk61, hj61⟩ := fkX11_18 hT ha
          refine gX11_18 S hK hT ha kf_X11_54 dX11_takeAsked_61 (fun _ _ => ?_)
          refine lv_iload_n hx hb dX11_takeAsked_64 rfl (lv_at hl 1 rfl) ?_
          refine al_0 S hK hT hk61 ar_44 (by decide) (z_X11_takeAsked_3 k_22.toInt l1_35.toInt I22_0 I35_0 c40) dX11_takeAsked_65 (fun x65 hv65 o65 => ?_)
          have hv65 : x65.toInt = (aI (G.2.1 (F a 18)) (l1_35.toInt)) := hv65.trans (by rw [(rfl : Int32.toInt l1_35 = l1_35.toInt), (((lc_c hG54 (xne_k hk61 hk9999 (by decide))).trans ((hF_35.2.1 _ (xn1 (xne_k hk61 hk9999 (by decide)) (xn1 (xne_k hk61 hk9999a (by decide)) xn0))).trans ((ld_c hG30).trans (ld_c hG22)))) : G54.2.1 (F a 18) = G.2.1 (F a 18))])
          refine as_0 (x := x65) S hK hT hS hk9999a ar_54 aw_54 (by decide) (z_X11_takeAsked_3 k_22.toInt l1_35.toInt I22_0 I35_0 c40) dX11_takeAsked_66 (fun H locs hT hS => ?_)
          obtain ⟨G66, hG66⟩ : ∃ GG : XG, GG = cput G54 (F a 42) l1_35.toNatClampNeg x65 := ⟨_, rfl⟩
          rw [← hG66] at hT
          refine xi_iinc (n := 1) (lv' := fun z9 => [(1, .int z9), (0, .ref a)]) (k := 1) hx hb (rfl : Int32.toInt l1_35 = l1_35.toInt) (by decide) dX11_takeAsked_67 hl rfl (by decide) (fun _ => rfl) (fun x67 ls t67 hl => ?_)
          have e67 : x67.toInt = (l1_35.toInt + 1) := (z_X11_takeAsked_7 k_22.toInt l1_35.toInt x67.toInt I22_0 I35_0 c40 t67)
          have hl : lv_has ls 2 [(1, .int x67), (0, .ref a)] := hl
          refine lv_goto (tgt := 35) hx hb dX11_takeAsked_70 (by decide) ?_
          exact ih35 x67 G66 _ _ _ (by rw [hG66]; exact XFr.cput (by rw [hG54]; exact XFr.cput (XFr.call XFr.rf hF_35 xm0 (xm1 0 rfl (xm1 1 rfl xm0)) xm0) (List.mem_of_getElem? (i := 0) rfl)) (List.mem_of_getElem? (i := 1) rfl)) (by rw [(e67 : Int32.toInt x67 = (l1_35.toInt + 1))] <;> exact (v_X11_takeAsked_70_2 (K := K) (F := F) a G k_22 G_35 G54 l1_35 x53 G66 x65 N35 ha hG54 hG66 pt hv53 hv65 s0 I22_0 I22_1 I35_0 I35_1 I35_2 hm35 c40 (lc_c hG54 (xne_k hk9999a hk9999 (by decide))) (lc_c hG66 (xne_k hk9999 hk9999a (by decide))))) (by rw [(e67 : Int32.toInt x67 = (l1_35.toInt + 1))] <;> exact (z_X11_takeAsked_8 l1_35.toInt I35_0)) (by rw [(e67 : Int32.toInt x67 = (l1_35.toInt + 1))] <;> exact (z_X11_takeAsked_9 k_22.toInt l1_35.toInt c40)) (by rw [(e67 : Int32.toInt x67 = (l1_35.toInt + 1))] <;> exact (z_X11_takeAsked_10 l1_35.toInt I35_0)) (by rw [(e67 : Int32.toInt x67 = (l1_35.toInt + 1))] <;> exact (z_X11_moves_5 l1_35.toInt N35 hm35)) hT hS (lv_sub hl [1, 0] rfl)
    exact L35 4294967297 0 G30 _ _ _ XFr.rf (v_X11_takeAsked_34_3 (K := K) (F := F) a G k_22 G30 ha s0 I22_0 I22_1) (by decide) (z_X11_takeAsked_12 k_22.toInt I22_0) (by decide) (by decide) hT hS (lv_sub hl [1, 0] rfl)
  refine xi_cne (tgt := 16) hx hb (rfl : Int32.toInt (G.1 a 46) = ((G.1 a 46).toInt)) ((by decide) : Int32.toInt (-1) = (-1 : Int)) dX11_takeAsked_6 (by decide) (fun c6 => ?_) (fun c6 => ?_)
  · refine lv_aload_n hx hb dX11_takeAsked_16 rfl (lv_at hl 0 rfl) ?_
    refine gX11_46 S hK hT ha kf_X11_322 dX11_takeAsked_17 (v := (G.1 a 46)) rfl (?_)
    refine lv_iconst (v := 1) hx hb dX11_takeAsked_20 (by decide) ?_
    refine xi_iadd hx hb (rfl : Int32.toInt (G.1 a 46) = ((G.1 a 46).toInt)) ((by decide) : Int32.toInt 1 = (1 : Int)) dX11_takeAsked_21 (fun x21 t21 => ?_)
    have e21 : x21.toInt = (((G.1 a 46).toInt) + (1 : Int)) := (z_X11_takeAsked_13 x21.toInt ((G.1 a 19).toInt) ((G.1 a 46).toInt) s0 t21)
    exact J22 x21 _ _ _ (by rw [(e21 : Int32.toInt x21 = (((G.1 a 46).toInt) + (1 : Int)))] <;> exact (z_X11_takeAsked_14 ((G.1 a 19).toInt) ((G.1 a 46).toInt) s0)) (by rw [(e21 : Int32.toInt x21 = (((G.1 a 46).toInt) + (1 : Int)))] <;> exact (z_X11_takeAsked_15 ((G.1 a 19).toInt) ((G.1 a 46).toInt) c6)) hT hS (lv_sub hl [0] rfl)
  · refine lv_aload_n hx hb dX11_takeAsked_9 rfl (lv_at hl 0 rfl) ?_
    refine gX11_19 S hK hT ha kf_X11_203 dX11_takeAsked_10 (v := (G.1 a 19)) rfl (?_)
    refine lv_goto (tgt := 22) hx hb dX11_takeAsked_13 (by decide) ?_
    exact J22 (G.1 a 19) _ _ _ (z_X11_takeAsked_16 ((G.1 a 19).toInt) ((G.1 a 46).toInt) s0) (z_X11_takeAsked_17 ((G.1 a 19).toInt) ((G.1 a 46).toInt) c6) hT hS (lv_sub hl [0] rfl)

