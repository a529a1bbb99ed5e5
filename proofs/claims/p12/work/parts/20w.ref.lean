theorem z_X11_copy_1 (a0 : Int) (h0 : 0 ≤ a0 ∧ a0 ≤ 360) : ¬ (2147483648 - a0 < ((0 : Nat) : Int)) := by omega
theorem z_X11_copy_2 (a0 : Int) (a1 : Int) (a2 : Int) (h0 : 0 ≤ a1 ∧ a1 ≤ 2520) (h1 : 0 ≤ a0 ∧ a0 ≤ 360) (h2 : a2 = (a1 + a0) ∨ (a1 + a0) < -2147483648 ∨ 2147483648 ≤ (a1 + a0)) : a2 = (a1 + a0) := by omega
theorem z_X11_copy_4 (a0 : Int) (a1 : Int) (h0 : 0 ≤ a1 ∧ a1 ≤ 2520) (h1 : 0 ≤ a0 ∧ a0 ≤ 360) (h2 : ¬ ((360 : Int) ≤ a0)) : 0 ≤ (a1 + a0) ∧ (a1 + a0) < a1 + 360 := by omega
theorem z_X11_copy_6 (a0 : Int) (a1 : Int) (h0 : 0 ≤ a0 ∧ a0 ≤ 360) (h1 : a1 = (a0 + 1) ∨ (a0 + 1) < -2147483648 ∨ 2147483648 ≤ (a0 + 1)) : a1 = (a0 + 1) := by omega
theorem z_X11_copy_7 (a0 : Int) (h0 : 0 ≤ a0 ∧ a0 ≤ 360) (h1 : ¬ ((360 : Int) ≤ a0)) : 0 ≤ (a0 + 1) ∧ (a0 + 1) ≤ 360 := by omega
theorem z_X11_copy_8 (a0 : Int) (h0 : 0 ≤ a0 ∧ a0 ≤ 360) : (0 : Int) ≤ (a0 + 1) := by omega
theorem z_X11_copy_9 (a0 : Int) (a1 : Nat) (h0 : 2147483648 - a0 < ((a1 + 1 : Nat) : Int)) : 2147483648 - (a0 + 1) < ((a1 : Nat) : Int) := by omega
abbrev rm_X11_copy : Room := { frames := 0, cells := 0, slots := 0, locals := 0 }
set_option maxHeartbeats 4000000 in
set_option maxRecDepth 100000 in
theorem c_X11_copy (l : Launch) (E : XE) (K : Nat → Nat) (F : Nat → Nat → Nat) (G : XG) (p0 : Nat) (p1 : Int32) (p2 : Nat) (p3 : Int32) (hp0 : XO K p0 p1.toInt) (hp2 : XO K p2 p3.toInt) (hne : p0 ≠ p2) : Met l yX11_copy (xw yX11_copy cX11_copy 5 none) rm_X11_copy (va_Pc [.ref p0, .int p1, .ref p2, .int p3] (XP E K F G)) (XQv E (fun (u : XG) => XFr [] [p2] [] G u ∧ (CPd (G.2.1 p0) (G.2.1 p2) (u.2.1 p2) (p1.toInt) (p3.toInt) 360)) (fun u H => TW E K F u H)) 0 0 (xA E) := by
  refine x_enter (by decide) (Nat.le_of_ble_eq_true rfl) ?_
  intro p e s m args below meth c Q S hr hlk hnm hQ hP ls hl
  obtain ⟨hz, hK, hT⟩ := hP
  obtain ⟨hx, hb, -, -, -⟩ := id S
  obtain ⟨H, hT, hS, hgo⟩ : ∃ H : Heap, TW E K F G H ∧ va_S (xA E) s.heap H [] ∧ H = s.heap := ⟨_, hT, va_S.rf, rfl⟩
  rw [← hgo]
  have hl : lv_has ls 5 [(0, .ref p0), (1, .int p1), (2, .ref p2), (3, .int p3)] := hl
  refine lv_iconst (v := 0) hx hb dX11_copy_0 (by decide) ?_
  refine lv_istore (lv' := [(4, .int 0), (0, .ref p0), (1, .int p1), (2, .ref p2), (3, .int p3)]) hx hb dX11_copy_1 hl (by decide) rfl (fun ls hl => ?_)
  have L3 : ∀ (N3 : Nat) (l4_3 : Int32) (G_3 : XG) (H : Heap) (locs : List Loc) (ls : Array Slot), XFr [] [p2] [] G G_3 → CPd (G.2.1 p0) (G.2.1 p2) (G_3.2.1 p2) (p1.toInt) (p3.toInt) l4_3.toInt → 0 ≤ l4_3.toInt ∧ l4_3.toInt ≤ 360 → (0 : Int) ≤ l4_3.toInt → 2147483648 - l4_3.toInt < ((N3 : Nat) : Int) → TW E K F G_3 H → va_S (xA E) s.heap H locs → lv_has ls 5 [(0, .ref p0), (1, .int p1), (2, .ref p2), (3, .int p3), (4, .int l4_3)] → W p l e rm_X11_copy s m args below meth c H locs 0 0 Q (F0 m 3 ls []) := by
    intro N3
    induction N3 with
    | zero =>
      intro l4_3 G_3 H locs ls hF_3 pc I3_0 I3_1 hm3
      exact absurd hm3 (z_X11_copy_1 l4_3.toInt I3_0)
    | succ N3 ih3 =>
      intro l4_3 G_3 H locs ls hF_3 pc I3_0 I3_1 hm3 hT hS hl
      refine lv_iload hx hb dX11_copy_3 (lv_at hl 4 rfl) ?_
      refine lv_sipush (v := 360) hx hb dX11_copy_5 (by decide) ?_
      refine xi_cge (tgt := 29) hx hb (rfl : Int32.toInt l4_3 = l4_3.toInt) ((by decide) : Int32.toInt 360 = (360 : Int)) dX11_copy_8 (by decide) (fun c8 => ?_) (fun c8 => ?_)
      · exact x_rv hx hb hr hlk hQ (Nat.le_of_ble_eq_true rfl) (Nat.le_of_ble_eq_true rfl) hS dX11_copy_29 G_3 ⟨(XFr.call XFr.rf hF_3 xm0 (xm1 0 rfl xm0) xm0), (v_X11_copy_29_1 p2 G G_3 p0 p1 p3 l4_3 N3 hne pc (XO.lim hp0) (XO.lim hp2) I3_0 I3_1 hm3 c8)⟩ hT
      · refine lv_aload_n hx hb dX11_copy_11 rfl (lv_at hl 2 rfl) ?_
        refine lv_iload_n hx hb dX11_copy_12 rfl (lv_at hl 3 rfl) ?_
        refine lv_iload hx hb dX11_copy_13 (lv_at hl 4 rfl) ?_
        refine xi_iadd hx hb (rfl : Int32.toInt p3 = p3.toInt) (rfl : Int32.toInt l4_3 = l4_3.toInt) dX11_copy_15 (fun x15 t15 => ?_)
        have e15 : x15.toInt = (p3.toInt + l4_3.toInt) := (z_X11_copy_2 l4_3.toInt p3.toInt x15.toInt (XO.lim hp2) I3_0 t15)
        refine lv_aload_n hx hb dX11_copy_16 rfl (lv_at hl 0 rfl) ?_
        refine lv_iload_n hx hb dX11_copy_17 rfl (lv_at hl 1 rfl) ?_
        refine lv_iload hx hb dX11_copy_18 (lv_at hl 4 rfl) ?_
        refine xi_iadd hx hb (rfl : Int32.toInt p1 = p1.toInt) (rfl : Int32.toInt l4_3 = l4_3.toInt) dX11_copy_20 (fun x20 t20 => ?_)
        have e20 : x20.toInt = (p1.toInt + l4_3.toInt) := (z_X11_copy_2 l4_3.toInt p1.toInt x20.toInt (XO.lim hp0) I3_0 t20)
        refine ald_of S hK hT hp0 (by rw [(e20 : Int32.toInt x20 = (p1.toInt + l4_3.toInt))]; exact (z_X11_copy_4 l4_3.toInt p1.toInt (XO.lim hp0) I3_0 c8)) dX11_copy_21 (fun x21 hv21 => ?_)
        have hv21 : x21.toInt = (aI (G.2.1 p0) (p1.toInt + l4_3.toInt)) := hv21.trans (by rw [(e20 : Int32.toInt x20 = (p1.toInt + l4_3.toInt)), ((hF_3.2.1 _ (xn1 hne xn0)) : G_3.2.1 p0 = G.2.1 p0)])
        refine ast_o (x := x21) S hK hT hS hp2 (by rw [(e15 : Int32.toInt x15 = (p3.toInt + l4_3.toInt))]; exact (z_X11_copy_4 l4_3.toInt p3.toInt (XO.lim hp2) I3_0 c8)) dX11_copy_22 (fun H locs hT hS => ?_)
        obtain ⟨G22, hG22⟩ : ∃ GG : XG, GG = cput G_3 p2 x15.toNatClampNeg x21 := ⟨_, rfl⟩
        rw [← hG22] at hT
        refine xi_iinc (n := 1) (lv' := fun z9 => [(4, .int z9), (0, .ref p0), (1, .int p1), (2, .ref p2), (3, .int p3)]) (k := 4) hx hb (rfl : Int32.toInt l4_3 = l4_3.toInt) (by decide) dX11_copy_23 hl rfl (by decide) (fun _ => rfl) (fun x23 ls t23 hl => ?_)
        have e23 : x23.toInt = (l4_3.toInt + 1) := (z_X11_copy_6 l4_3.toInt x23.toInt I3_0 t23)
        have hl : lv_has ls 5 [(4, .int x23), (0, .ref p0), (1, .int p1), (2, .ref p2), (3, .int p3)] := hl
        refine lv_goto (tgt := 3) hx hb dX11_copy_26 (by decide) ?_
        exact ih3 x23 G22 _ _ _ (by rw [hG22]; exact XFr.cput (XFr.call XFr.rf hF_3 xm0 (xm1 0 rfl xm0) xm0) (List.mem_of_getElem? (i := 0) rfl)) (by rw [(e23 : Int32.toInt x23 = (l4_3.toInt + 1))] <;> exact (v_X11_copy_26_2 p2 G G_3 G22 x15 x21 p0 p1 p3 l4_3 N3 hG22 hne pc e15 hv21 (XO.lim hp0) (XO.lim hp2) I3_0 I3_1 hm3 c8)) (by rw [(e23 : Int32.toInt x23 = (l4_3.toInt + 1))] <;> exact (z_X11_copy_7 l4_3.toInt I3_0 c8)) (by rw [(e23 : Int32.toInt x23 = (l4_3.toInt + 1))] <;> exact (z_X11_copy_8 l4_3.toInt I3_0)) (by rw [(e23 : Int32.toInt x23 = (l4_3.toInt + 1))] <;> exact (z_X11_copy_9 l4_3.toInt N3 hm3)) hT hS (lv_sub hl [1, 2, 3, 4, 0] rfl)
  exact L3 4294967297 0 G _ _ _ XFr.rf (v_X11_copy_1_3 p0 p2 p1 p3 G hne (XO.lim hp0) (XO.lim hp2)) (by decide) (by decide) (by decide) hT hS (lv_sub hl [1, 2, 3, 4, 0] rfl)

theorem z_X11_layStates_1 (a0 : Int) (h0 : 0 ≤ a0 ∧ a0 ≤ 12) : ¬ (2147483648 - a0 < ((0 : Nat) : Int)) := by omega
theorem z_X11_layStates_2 (a0 : Int) (a1 : Int) (h0 : 0 ≤ a0 ∧ a0 ≤ 12) (h1 : a1 = (a0 + 1) ∨ (a0 + 1) < -2147483648 ∨ 2147483648 ≤ (a0 + 1)) : a1 = (a0 + 1) := by omega
theorem z_X11_layStates_3 (a0 : Int) (h0 : 0 ≤ a0 ∧ a0 ≤ 12) (h1 : ¬ ((12 : Int) ≤ a0)) : 0 ≤ (a0 + 1) ∧ (a0 + 1) ≤ 12 := by omega
theorem z_X11_layStates_4 (a0 : Int) (h0 : 0 ≤ a0 ∧ a0 ≤ 12) : (0 : Int) ≤ (a0 + 1) := by omega
theorem z_X11_layStates_6 (a0 : Int) (h0 : 0 ≤ a0 ∧ a0 ≤ 12) (h1 : ¬ ((12 : Int) ≤ a0)) : 0 ≤ a0 ∧ a0 ≤ 11 := by omega
theorem z_X11_layStates_8 (a0 : Int) (h0 : -2147483648 ≤ a0 ∧ a0 < 2147483648) : ¬ (2147483648 - a0 < ((0 : Nat) : Int)) := by omega
theorem z_X11_layStates_14 (a0 : Int) (a1 : Int) (a2 : Int) (a3 : Int) (a4 : Int) (h0 : 0 ≤ a0 ∧ a0 ≤ 12) (h1 : ¬ ((12 : Int) ≤ a0)) (h2 : ((a2 = 2 ∨ a2 = 4 ∨ a2 = 5) ∧ a3 = 0 ∧ a4 = 29) ∨ (¬ (a2 = 2 ∨ a2 = 4 ∨ a2 = 5) ∧ a3 = -99 ∧ a4 = 99)) (h3 : a3 ≤ a1 ∧ a1 ≤ a4 + 1) (h4 : ¬ (a4 < a1)) : 0 ≤ a0 ∧ a0 ≤ 11 ∧ -99 ≤ a1 ∧ a1 ≤ 99 := by omega
theorem z_X11_layStates_16 (a0 : Int) (a1 : Int) (a2 : Int) (h0 : (a1 = 1 ∧ 0 ≤ a0 ∧ a0 ≤ 11 ∧ a2 ≠ -1) ∨ (a1 = 0 ∧ (¬ (0 ≤ a0 ∧ a0 ≤ 11) ∨ a2 = -1))) (h1 : ¬ (a1 = 0)) : a2 ≠ -1 := by omega
theorem z_X11_layStates_17 (a0 : Int) (a1 : Int) (a2 : Int) (h0 : a1 ≤ a0 ∧ a0 ≤ a2 + 1) (h1 : ¬ (a2 < a0)) : a1 ≤ a0 ∧ a0 ≤ a2 := by omega
theorem z_X11_layStates_18 (a0 : Int) (a1 : Int) (a2 : Int) (a3 : Int) (a4 : Int) (h0 : 0 ≤ a0 ∧ a0 ≤ 12) (h1 : ¬ ((12 : Int) ≤ a0)) (h2 : ((a2 = 2 ∨ a2 = 4 ∨ a2 = 5) ∧ a3 = 0 ∧ a4 = 29) ∨ (¬ (a2 = 2 ∨ a2 = 4 ∨ a2 = 5) ∧ a3 = -99 ∧ a4 = 99)) (h3 : a3 ≤ a1 ∧ a1 ≤ a4 + 1) (h4 : ¬ (a4 < a1)) : 0 ≤ 199 * a0 + a1 + 99 ∧ 199 * a0 + a1 + 99 < ((2388 : Nat) : Int) := by omega
theorem z_X11_layStates_19 (a0 : Int) (a1 : Int) (a2 : Int) (a3 : Int) (a4 : Int) (h0 : ((a2 = 2 ∨ a2 = 4 ∨ a2 = 5) ∧ a3 = 0 ∧ a4 = 29) ∨ (¬ (a2 = 2 ∨ a2 = 4 ∨ a2 = 5) ∧ a3 = -99 ∧ a4 = 99)) (h1 : ¬ (a4 < a0)) (h2 : a1 = (a0 + 1) ∨ (a0 + 1) < -2147483648 ∨ 2147483648 ≤ (a0 + 1)) (h3 : -2147483648 ≤ a0 ∧ a0 < 2147483648) : a1 = (a0 + 1) := by omega
theorem z_X11_layStates_20 (a0 : Int) (a1 : Int) (a2 : Int) (h0 : a1 ≤ a0 ∧ a0 ≤ a2 + 1) (h1 : ¬ (a2 < a0)) : a1 ≤ (a0 + 1) ∧ (a0 + 1) ≤ a2 + 1 := by omega
theorem z_X11_layStates_22 (a0 : Int) (a1 : Int) (a2 : Int) (h0 : ((a0 = 2 ∨ a0 = 4 ∨ a0 = 5) ∧ a1 = 0 ∧ a2 = 29) ∨ (¬ (a0 = 2 ∨ a0 = 4 ∨ a0 = 5) ∧ a1 = -99 ∧ a2 = 99)) : a1 ≤ a1 ∧ a1 ≤ a2 + 1 := by omega
theorem z_X11_layStates_23 (a0 : Int) (a1 : Int) (a2 : Int) (h0 : ((a0 = 2 ∨ a0 = 4 ∨ a0 = 5) ∧ a1 = 0 ∧ a2 = 29) ∨ (¬ (a0 = 2 ∨ a0 = 4 ∨ a0 = 5) ∧ a1 = -99 ∧ a2 = 99)) : 2147483648 - a1 < ((4294967297 : Nat) : Int) := by omega
abbrev rm_X11_layStates : Room := { frames := 3, cells := 0, slots := 0, locals := 77 }
set_option maxHeartbeats 4000000 in
set_option maxRecDepth 100000 in
theorem c_X11_layStates (l : Launch) (E : XE) (K : Nat → Nat) (F : Nat → Nat → Nat) (G : XG) (a : Nat) (p0 : Nat) (p1 : Nat) (p2 : Int32) (ha : K a = 13) (hp0 : K p0 = 38) (hp1 : XO K p1 p2.toInt) (hR : RV (G.2.1 (F a 10))) (hM : RM (G.2.1 p1) (p2.toInt)) : Met l yX11_layStates (xw yX11_layStates cX11_layStates 6 none) rm_X11_layStates (va_Pc [.ref a, .ref p0, .ref p1, .int p2] (XP E K F G)) (XQv E (fun (u : XG) => XFr [] [p0] [] G u ∧ (LSt (G.2.1 (F a 10)) (u.2.1 p0) (mw (G.2.1 p1) (p2.toInt)) 12) ∧ (u.2.2.2 = G.2.2.2)) (fun u H => TW E K F u H)) 0 0 (xA E) := by
  refine x_enter (by decide) (Nat.le_of_ble_eq_true rfl) ?_
  intro p e s m args below meth c Q S hr hlk hnm hQ hP ls hl
  obtain ⟨hz, hK, hT⟩ := hP
  obtain ⟨hx, hb, -, -, -⟩ := id S
  obtain ⟨H, hT, hS, hgo⟩ : ∃ H : Heap, TW E K F G H ∧ va_S (xA E) s.heap H [] ∧ H = s.heap := ⟨_, hT, va_S.rf, rfl⟩
  rw [← hgo]
  have hl : lv_has ls 6 [(0, .ref a), (1, .ref p0), (2, .ref p1), (3, .int p2)] := hl
  obtain ⟨hk9999, hj9999⟩ := fkX11_10 hT ha
  refine lv_iconst (v := 0) hx hb dX11_layStates_0 (by decide) ?_
  refine lv_istore (lv' := [(4, .int 0), (0, .ref a), (1, .ref p0), (2, .ref p1), (3, .int p2)]) hx hb dX11_layStates_1 hl (by decide) rfl (fun ls hl => ?_)
  have L3 : ∀ (N3 : Nat) (l4_3 : Int32) (G_3 : XG) (H : Heap) (locs : List Loc) (ls : Array Slot), XFr [] [p0] [] G G_3 → LSt (G.2.1 (F a 10)) (G_3.2.1 p0) (mw (G.2.1 p1) (p2.toInt)) l4_3.toInt → G_3.2.2.2 = G.2.2.2 → 0 ≤ l4_3.toInt ∧ l4_3.toInt ≤ 12 → (0 : Int) ≤ l4_3.toInt → 2147483648 - l4_3.toInt < ((N3 : Nat) : Int) → TW E K F G_3 H → va_S (xA E) s.heap H locs → lv_has ls 6 [(0, .ref a), (1, .ref p0), (2, .ref p1), (3, .int p2), (4, .int l4_3)] → W p l e rm_X11_layStates s m args below meth c H locs 0 0 Q (F0 m 3 ls []) := by
    intro N3
    induction N3 with
    | zero =>
      intro l4_3 G_3 H locs ls hF_3 pl lo I3_0 I3_1 hm3
      exact absurd hm3 (z_X11_layStates_1 l4_3.toInt I3_0)
    | succ N3 ih3 =>
      intro l4_3 G_3 H locs ls hF_3 pl lo I3_0 I3_1 hm3 hT hS hl
      refine lv_iload hx hb dX11_layStates_3 (lv_at hl 4 rfl) ?_
      refine lv_bipush (v := 12) hx hb dX11_layStates_5 (by decide) ?_
      refine xi_cge (tgt := 69) hx hb (rfl : Int32.toInt l4_3 = l4_3.toInt) ((by decide) : Int32.toInt 12 = (12 : Int)) dX11_layStates_7 (by decide) (fun c7 => ?_) (fun c7 => ?_)
      · exact x_rv hx hb hr hlk hQ (Nat.le_of_ble_eq_true rfl) (Nat.le_of_ble_eq_true rfl) hS dX11_layStates_69 G_3 ⟨(XFr.call XFr.rf hF_3 xm0 (xm1 0 rfl xm0) xm0), (v_X11_layStates_69_1 (K := K) (F := F) a p0 G G_3 p1 p2 l4_3 N3 ha hp0 pl lo (XO.lim hp1) I3_0 I3_1 hm3 c7), (v_X11_layStates_69_2 G G_3 lo)⟩ hT
      · refine lv_aload_n hx hb dX11_layStates_10 rfl (lv_at hl 0 rfl) ?_
        refine lv_iload hx hb dX11_layStates_11 (lv_at hl 4 rfl) ?_
        refine x_clp (x_runV (b := a) (As := [.int l4_3]) (rest := []) S (c_X11_isRule l E K F G_3 H a l4_3 ha) mv_X11_isRule km_X11_162 rfl rfl ⟨Nat.le_of_ble_eq_true rfl, Nat.le_of_ble_eq_true rfl⟩ (rc_13 hK hT ha) hK (fun _ => XPh.blind) (fun U hU hW => XPh.at hK hz hS hT hU hW) rfl hl.1 (Nat.le_of_ble_eq_true rfl) dX11_layStates_13 ⟨Nat.le_of_ble_eq_true rfl, Nat.le_of_ble_eq_true rfl⟩) hS ?_
        rintro _ _ locs ⟨x13, rfl, b13, t13⟩ hS
        have t13 : (x13.toInt = 1 ∧ 0 ≤ l4_3.toInt ∧ l4_3.toInt ≤ 11 ∧ (aI (G.2.1 (F a 10)) (10 * l4_3.toInt + 0)) ≠ -1) ∨ (x13.toInt = 0 ∧ (¬ (0 ≤ l4_3.toInt ∧ l4_3.toInt ≤ 11) ∨ (aI (G.2.1 (F a 10)) (10 * l4_3.toInt + 0)) = -1)) := by rw [(show G_3.2.1 (F a 10) = G.2.1 (F a 10) from (hF_3.2.1 _ (xn1 (xne_k hk9999 hp0 (by decide)) xn0)))] at t13; exact t13
        refine xi_zeq (tgt := 63) hx hb (rfl : Int32.toInt x13 = x13.toInt) dX11_layStates_16 (by decide) (fun c16 => ?_) (fun c16 => ?_)
        · refine xi_iinc (n := 1) (lv' := fun z9 => [(4, .int z9), (0, .ref a), (1, .ref p0), (2, .ref p1), (3, .int p2)]) (k := 4) hx hb (rfl : Int32.toInt l4_3 = l4_3.toInt) (by decide) dX11_layStates_63 hl rfl (by decide) (fun _ => rfl) (fun x63 ls t63 hl => ?_)
          have e63 : x63.toInt = (l4_3.toInt + 1) := (z_X11_layStates_2 l4_3.toInt x63.toInt I3_0 t63)
          have hl : lv_has ls 6 [(4, .int x63), (0, .ref a), (1, .ref p0), (2, .ref p1), (3, .int p2)] := hl
          refine lv_goto (tgt := 3) hx hb dX11_layStates_66 (by decide) ?_
          exact ih3 x63 G_3 _ _ _ (XFr.call XFr.rf hF_3 xm0 (xm1 0 rfl xm0) xm0) (by rw [(e63 : Int32.toInt x63 = (l4_3.toInt + 1))] <;> exact (v_X11_layStates_66_3 (K := K) (F := F) a p0 G G_3 p1 p2 l4_3 N3 x13 ha hp0 pl lo (XO.lim hp1) I3_0 I3_1 hm3 c7 t13 c16)) (v_X11_layStates_66_4 G G_3 lo) (by rw [(e63 : Int32.toInt x63 = (l4_3.toInt + 1))] <;> exact (z_X11_layStates_3 l4_3.toInt I3_0 c7)) (by rw [(e63 : Int32.toInt x63 = (l4_3.toInt + 1))] <;> exact (z_X11_layStates_4 l4_3.toInt I3_0)) (by rw [(e63 : Int32.toInt x63 = (l4_3.toInt + 1))] <;> exact (z_X11_copy_9 l4_3.toInt N3 hm3)) hT hS (lv_sub hl [1, 2, 3, 4, 0] rfl)
        · have z19 : (-1 ≤ (aI (G.2.1 (F a 10)) (10 * l4_3.toInt + 0)) ∧ (aI (G.2.1 (F a 10)) (10 * l4_3.toInt + 0)) ≤ 5) ∧ (0 ≤ (aI (G.2.1 (F a 10)) (10 * l4_3.toInt + 1)) ∧ (aI (G.2.1 (F a 10)) (10 * l4_3.toInt + 1)) ≤ 2) ∧ (0 ≤ (aI (G.2.1 (F a 10)) (10 * l4_3.toInt + 2)) ∧ (aI (G.2.1 (F a 10)) (10 * l4_3.toInt + 2)) ≤ 2) ∧ (-1 ≤ (aI (G.2.1 (F a 10)) (10 * l4_3.toInt + 3)) ∧ (aI (G.2.1 (F a 10)) (10 * l4_3.toInt + 3)) ≤ 2) ∧ ((aI (G.2.1 (F a 10)) (10 * l4_3.toInt + 0)) = 1 ∨ (aI (G.2.1 (F a 10)) (10 * l4_3.toInt + 0)) = 3 ∨ (aI (G.2.1 (F a 10)) (10 * l4_3.toInt + 0)) = 4 → 0 ≤ (aI (G.2.1 (F a 10)) (10 * l4_3.toInt + 3))) := RV.row hR (z_X11_layStates_6 l4_3.toInt I3_0 c7)
          have z19a : (((aI (G.2.1 (F a 10)) (10 * l4_3.toInt + 0)) = 2 ∨ (aI (G.2.1 (F a 10)) (10 * l4_3.toInt + 0)) = 4 ∨ (aI (G.2.1 (F a 10)) (10 * l4_3.toInt + 0)) = 5) ∧ (sF (aI (G.2.1 (F a 10)) (10 * l4_3.toInt + 0))) = 0 ∧ (sL (aI (G.2.1 (F a 10)) (10 * l4_3.toInt + 0))) = 29) ∨ (¬ ((aI (G.2.1 (F a 10)) (10 * l4_3.toInt + 0)) = 2 ∨ (aI (G.2.1 (F a 10)) (10 * l4_3.toInt + 0)) = 4 ∨ (aI (G.2.1 (F a 10)) (10 * l4_3.toInt + 0)) = 5) ∧ (sF (aI (G.2.1 (F a 10)) (10 * l4_3.toInt + 0))) = -99 ∧ (sL (aI (G.2.1 (F a 10)) (10 * l4_3.toInt + 0))) = 99) := sFL _
          refine lv_aload_n hx hb dX11_layStates_19 rfl (lv_at hl 0 rfl) ?_
          refine lv_iload hx hb dX11_layStates_20 (lv_at hl 4 rfl) ?_
          refine x_clp (x_runV (b := a) (As := [.int l4_3]) (rest := []) S (c_X11_firstSubject l E K F G_3 H a l4_3 ha (z_X11_layStates_6 l4_3.toInt I3_0 c7)) mv_X11_firstSubject km_X11_179 rfl rfl ⟨Nat.le_of_ble_eq_true rfl, Nat.le_of_ble_eq_true rfl⟩ (rc_13 hK hT ha) hK (fun _ => XPh.blind) (fun U hU hW => XPh.at hK hz hS hT hU hW) rfl hl.1 (Nat.le_of_ble_eq_true rfl) dX11_layStates_22 ⟨Nat.le_of_ble_eq_true rfl, Nat.le_of_ble_eq_true rfl⟩) hS ?_
          rintro _ _ locs ⟨x22, rfl, t22⟩ hS
          have t22 : x22.toInt = (sF (aI (G.2.1 (F a 10)) (10 * l4_3.toInt + 0))) := by rw [(show G_3.2.1 (F a 10) = G.2.1 (F a 10) from (hF_3.2.1 _ (xn1 (xne_k hk9999 hp0 (by decide)) xn0)))] at t22; exact t22
          refine lv_istore (lv' := [(5, .int x22), (0, .ref a), (1, .ref p0), (2, .ref p1), (3, .int p2), (4, .int l4_3)]) hx hb dX11_layStates_25 hl (by decide) rfl (fun ls hl => ?_)
          have L27 : ∀ (N27 : Nat) (l5_27 : Int32) (G_27 : XG) (H : Heap) (locs : List Loc) (ls : Array Slot), XFr [] [p0] [] G_3 G_27 → G_27.2.2.2 = G.2.2.2 → LSt (G.2.1 (F a 10)) (G_27.2.1 p0) (mw (G.2.1 p1) (p2.toInt)) l4_3.toInt → (∀ s : Int, sF (aI (G.2.1 (F a 10)) (10 * l4_3.toInt + 0)) ≤ s → s < l5_27.toInt → aI (G_27.2.1 p0) (199 * l4_3.toInt + s + 99) = stt (mw (G.2.1 p1) (p2.toInt)) (aI (G.2.1 (F a 10)) (10 * l4_3.toInt + 0)) (aI (G.2.1 (F a 10)) (10 * l4_3.toInt + 1)) (aI (G.2.1 (F a 10)) (10 * l4_3.toInt + 2)) (aI (G.2.1 (F a 10)) (10 * l4_3.toInt + 3)) (s)) → (sF (aI (G.2.1 (F a 10)) (10 * l4_3.toInt + 0))) ≤ l5_27.toInt ∧ l5_27.toInt ≤ (sL (aI (G.2.1 (F a 10)) (10 * l4_3.toInt + 0))) + 1 → 2147483648 - l5_27.toInt < ((N27 : Nat) : Int) → TW E K F G_27 H → va_S (xA E) s.heap H locs → lv_has ls 6 [(0, .ref a), (1, .ref p0), (2, .ref p1), (3, .int p2), (4, .int l4_3), (5, .int l5_27)] → W p l e rm_X11_layStates s m args below meth c H locs 0 0 Q (F0 m 27 ls []) := by
            intro N27
            induction N27 with
            | zero =>
              intro l5_27 G_27 H locs ls hF_27 lo pl pi I27_0 hm27
              exact absurd hm27 (z_X11_layStates_8 l5_27.toInt (xr l5_27))
            | succ N27 ih27 =>
              intro l5_27 G_27 H locs ls hF_27 lo pl pi I27_0 hm27 hT hS hl
              refine lv_iload hx hb dX11_layStates_27 (lv_at hl 5 rfl) ?_
              refine lv_aload_n hx hb dX11_layStates_29 rfl (lv_at hl 0 rfl) ?_
              refine lv_iload hx hb dX11_layStates_30 (lv_at hl 4 rfl) ?_
              refine x_clp (x_runV (b := a) (As := [.int l4_3]) (rest := [.int l5_27]) S (c_X11_lastSubject l E K F G_27 H a l4_3 ha (z_X11_layStates_6 l4_3.toInt I3_0 c7)) mv_X11_lastSubject km_X11_183 rfl rfl ⟨Nat.le_of_ble_eq_true rfl, Nat.le_of_ble_eq_true rfl⟩ (rc_13 hK hT ha) hK (fun _ => XPh.blind) (fun U hU hW => XPh.at hK hz hS hT hU hW) rfl hl.1 (Nat.le_of_ble_eq_true rfl) dX11_layStates_32 ⟨Nat.le_of_ble_eq_true rfl, Nat.le_of_ble_eq_true rfl⟩) hS ?_
              rintro _ _ locs ⟨x32, rfl, t32⟩ hS
              have t32 : x32.toInt = (sL (aI (G.2.1 (F a 10)) (10 * l4_3.toInt + 0))) := by rw [(show G_27.2.1 (F a 10) = G.2.1 (F a 10) from ((hF_27.2.1 _ (xn1 (xne_k hk9999 hp0 (by decide)) xn0)).trans (hF_3.2.1 _ (xn1 (xne_k hk9999 hp0 (by decide)) xn0))))] at t32; exact t32
              refine xi_cgt (tgt := 63) hx hb (rfl : Int32.toInt l5_27 = l5_27.toInt) (t32 : Int32.toInt x32 = (sL (aI (G.2.1 (F a 10)) (10 * l4_3.toInt + 0)))) dX11_layStates_35 (by decide) (fun c35 => ?_) (fun c35 => ?_)
              · refine xi_iinc (n := 1) (lv' := fun z9 => [(4, .int z9), (0, .ref a), (1, .ref p0), (2, .ref p1), (3, .int p2), (5, .int l5_27)]) (k := 4) hx hb (rfl : Int32.toInt l4_3 = l4_3.toInt) (by decide) dX11_layStates_63 hl rfl (by decide) (fun _ => rfl) (fun x63 ls t63 hl => ?_)
                have e63 : x63.toInt = (l4_3.toInt + 1) := (z_X11_layStates_2 l4_3.toInt x63.toInt I3_0 t63)
                have hl : lv_has ls 6 [(4, .int x63), (0, .ref a), (1, .ref p0), (2, .ref p1), (3, .int p2), (5, .int l5_27)] := hl
                refine lv_goto (tgt := 3) hx hb dX11_layStates_66 (by decide) ?_
                exact ih3 x63 G_27 _ _ _ (XFr.call (XFr.call XFr.rf hF_3 xm0 (xm1 0 rfl xm0) xm0) hF_27 xm0 (xm1 0 rfl xm0) xm0) (by rw [(e63 : Int32.toInt x63 = (l4_3.toInt + 1))] <;> exact (v_X11_layStates_66_5 (K := K) (F := F) a p0 G G_27 p1 p2 l4_3 l5_27 N3 x13 N27 ha hp0 lo pl pi (XO.lim hp1) I3_0 I3_1 hm3 c7 t13 c16 z19 z19a I27_0 hm27 c35)) (v_X11_layStates_66_6 G G_27 lo) (by rw [(e63 : Int32.toInt x63 = (l4_3.toInt + 1))] <;> exact (z_X11_layStates_3 l4_3.toInt I3_0 c7)) (by rw [(e63 : Int32.toInt x63 = (l4_3.toInt + 1))] <;> exact (z_X11_layStates_4 l4_3.toInt I3_0)) (by rw [(e63 : Int32.toInt x63 = (l4_3.toInt + 1))] <;> exact (z_X11_copy_9 l4_3.toInt N3 hm3)) hT hS (lv_sub hl [1, 2, 3, 4, 0] rfl)
              · refine lv_aload_n hx hb dX11_layStates_38 rfl (lv_at hl 1 rfl) ?_
                refine lv_iload hx hb dX11_layStates_39 (lv_at hl 4 rfl) ?_
                refine lv_iload hx hb dX11_layStates_41 (lv_at hl 5 rfl) ?_
                refine x_clp (x_runS (As := [.int l4_3, .int l5_27]) (rest := [.ref p0]) S (c_X11_placeOf l E K F G_27 H l4_3 l5_27 (z_X11_layStates_14 l4_3.toInt l5_27.toInt (aI (G.2.1 (F a 10)) (10 * l4_3.toInt + 0)) (sF (aI (G.2.1 (F a 10)) (10 * l4_3.toInt + 0))) (sL (aI (G.2.1 (F a 10)) (10 * l4_3.toInt + 0))) I3_0 c7 z19a I27_0 c35)) ms_X11_placeOf km_X11_186 rfl rfl ⟨Nat.le_of_ble_eq_true rfl, Nat.le_of_ble_eq_true rfl⟩ hK (fun _ => XPh.blind) (fun U hU hW => XPh.at hK hz hS hT hU hW) rfl hl.1 (Nat.le_of_ble_eq_true rfl) dX11_layStates_43 ⟨Nat.le_of_ble_eq_true rfl, Nat.le_of_ble_eq_true rfl⟩) hS ?_
                rintro _ _ locs ⟨x43, rfl, t43⟩ hS
                have t43 : x43.toInt = 199 * l4_3.toInt + l5_27.toInt + 99 := t43
                refine lv_aload_n hx hb dX11_layStates_46 rfl (lv_at hl 0 rfl) ?_
                refine lv_iload hx hb dX11_layStates_47 (lv_at hl 4 rfl) ?_
                refine lv_iload hx hb dX11_layStates_49 (lv_at hl 5 rfl) ?_
                refine lv_aload_n hx hb dX11_layStates_51 rfl (lv_at hl 2 rfl) ?_
                refine lv_iload_n hx hb dX11_layStates_52 rfl (lv_at hl 3 rfl) ?_
                refine x_clp (x_runV (b := a) (As := [.int l4_3, .int l5_27, .ref p1, .int p2]) (rest := [.int x43, .ref p0]) S (c_X11_stateOf l E K F G_27 H a l4_3 l5_27 p1 p2 ha hp1 (z_X11_layStates_6 l4_3.toInt I3_0 c7) (by rw [(show G_27.2.1 (F a 10) = G.2.1 (F a 10) from ((hF_27.2.1 _ (xn1 (xne_k hk9999 hp0 (by decide)) xn0)).trans (hF_3.2.1 _ (xn1 (xne_k hk9999 hp0 (by decide)) xn0))))] <;> exact (z_X11_layStates_16 l4_3.toInt x13.toInt (aI (G.2.1 (F a 10)) (10 * l4_3.toInt + 0)) t13 c16)) (by rw [(show G_27.2.1 (F a 10) = G.2.1 (F a 10) from ((hF_27.2.1 _ (xn1 (xne_k hk9999 hp0 (by decide)) xn0)).trans (hF_3.2.1 _ (xn1 (xne_k hk9999 hp0 (by decide)) xn0))))] <;> exact (z_X11_layStates_17 l5_27.toInt (sF (aI (G.2.1 (F a 10)) (10 * l4_3.toInt + 0))) (sL (aI (G.2.1 (F a 10)) (10 * l4_3.toInt + 0))) I27_0 c35)) (v_X11_layStates_53_7 (F := F) a G G_27 hR ((hF_27.2.1 _ (xn1 (xne_k hk9999 hp0 (by decide)) xn0)).trans (hF_3.2.1 _ (xn1 (xne_k hk9999 hp0 (by decide)) xn0)))) (v_X11_layStates_53_8 G G_27 p1 p2 hM ((hF_27.2.1 _ (xn1 (XO.ne hp1 hp0 (by decide)) xn0)).trans (hF_3.2.1 _ (xn1 (XO.ne hp1 hp0 (by decide)) xn0))))) mv_X11_stateOf km_X11_189 rfl rfl ⟨Nat.le_of_ble_eq_true rfl, Nat.le_of_ble_eq_true rfl⟩ (rc_13 hK hT ha) hK (fun _ => XPh.blind) (fun U hU hW => XPh.at hK hz hS hT hU hW) rfl hl.1 (Nat.le_of_ble_eq_true rfl) dX11_layStates_53 ⟨Nat.le_of_ble_eq_true rfl, Nat.le_of_ble_eq_true rfl⟩) hS ?_
                rintro _ _ locs ⟨x53, rfl, t53⟩ hS
                have t53 : x53.toInt = (stt (mw (G.2.1 p1) (p2.toInt)) (aI (G.2.1 (F a 10)) (10 * l4_3.toInt + 0)) (aI (G.2.1 (F a 10)) (10 * l4_3.toInt + 1)) (aI (G.2.1 (F a 10)) (10 * l4_3.toInt + 2)) (aI (G.2.1 (F a 10)) (10 * l4_3.toInt + 3)) (l5_27.toInt)) := by rw [(show G_27.2.1 p1 = G.2.1 p1 from ((hF_27.2.1 _ (xn1 (XO.ne hp1 hp0 (by decide)) xn0)).trans (hF_3.2.1 _ (xn1 (XO.ne hp1 hp0 (by decide)) xn0))))] at t53; rw [(show G_27.2.1 (F a 10) = G.2.1 (F a 10) from ((hF_27.2.1 _ (xn1 (xne_k hk9999 hp0 (by decide)) xn0)).trans (hF_3.2.1 _ (xn1 (xne_k hk9999 hp0 (by decide)) xn0))))] at t53; exact t53
                refine as_0 (x := x53) S hK hT hS hp0 ar_38 aw_38 (by decide) (by rw [(t43 : Int32.toInt x43 = 199 * l4_3.toInt + l5_27.toInt + 99)]; exact (z_X11_layStates_18 l4_3.toInt l5_27.toInt (aI (G.2.1 (F a 10)) (10 * l4_3.toInt + 0)) (sF (aI (G.2.1 (F a 10)) (10 * l4_3.toInt + 0))) (sL (aI (G.2.1 (F a 10)) (10 * l4_3.toInt + 0))) I3_0 c7 z19a I27_0 c35)) dX11_layStates_56 (fun H locs hT hS => ?_)
                obtain ⟨G56, hG56⟩ : ∃ GG : XG, GG = cput G_27 p0 x43.toNatClampNeg x53 := ⟨_, rfl⟩
                rw [← hG56] at hT
                refine xi_iinc (n := 1) (lv' := fun z9 => [(5, .int z9), (0, .ref a), (1, .ref p0), (2, .ref p1), (3, .int p2), (4, .int l4_3)]) (k := 5) hx hb (rfl : Int32.toInt l5_27 = l5_27.toInt) (by decide) dX11_layStates_57 hl rfl (by decide) (fun _ => rfl) (fun x57 ls t57 hl => ?_)
                have e57 : x57.toInt = (l5_27.toInt + 1) := (z_X11_layStates_19 l5_27.toInt x57.toInt (aI (G.2.1 (F a 10)) (10 * l4_3.toInt + 0)) (sF (aI (G.2.1 (F a 10)) (10 * l4_3.toInt + 0))) (sL (aI (G.2.1 (F a 10)) (10 * l4_3.toInt + 0))) z19a c35 t57 (xr l5_27))
                have hl : lv_has ls 6 [(5, .int x57), (0, .ref a), (1, .ref p0), (2, .ref p1), (3, .int p2), (4, .int l4_3)] := hl
                refine lv_goto (tgt := 27) hx hb dX11_layStates_60 (by decide) ?_
                exact ih27 x57 G56 _ _ _ (by rw [hG56]; exact XFr.cput (XFr.call XFr.rf hF_27 xm0 (xm1 0 rfl xm0) xm0) (List.mem_of_getElem? (i := 0) rfl)) (v_X11_layStates_60_9 p0 G G_27 G56 x43 x53 hG56 lo) (v_X11_layStates_60_10 (K := K) (F := F) a p0 G G_27 G56 x43 x53 p1 p2 l4_3 l5_27 N3 x13 N27 ha hp0 hG56 lo pl t43 t53 (XO.lim hp1) I3_0 I3_1 hm3 c7 t13 c16 z19 z19a I27_0 hm27 c35) (by rw [(e57 : Int32.toInt x57 = (l5_27.toInt + 1))] <;> exact (v_X11_layStates_60_11 (K := K) (F := F) a p0 G G_27 G56 x43 x53 p1 p2 l4_3 l5_27 N3 x13 N27 ha hp0 hk9999 hj9999 hG56 lo pi t43 t53 (XO.lim hp1) I3_0 I3_1 hm3 c7 t13 c16 z19 z19a I27_0 hm27 c35)) (by rw [(e57 : Int32.toInt x57 = (l5_27.toInt + 1))] <;> exact (z_X11_layStates_20 l5_27.toInt (sF (aI (G.2.1 (F a 10)) (10 * l4_3.toInt + 0))) (sL (aI (G.2.1 (F a 10)) (10 * l4_3.toInt + 0))) I27_0 c35)) (by rw [(e57 : Int32.toInt x57 = (l5_27.toInt + 1))] <;> exact (z_X11_copy_9 l5_27.toInt N27 hm27)) hT hS (lv_sub hl [1, 2, 3, 4, 5, 0] rfl)
          exact L27 4294967297 x22 G_3 _ _ _ XFr.rf (v_X11_layStates_25_12 G G_3 lo) (v_X11_layStates_25_13 (F := F) a p0 G G_3 p1 p2 l4_3 pl) (by rw [(t22 : Int32.toInt x22 = (sF (aI (G.2.1 (F a 10)) (10 * l4_3.toInt + 0))))] <;> exact (v_X11_layStates_25_14 (K := K) (F := F) a p0 G G_3 p1 p2 l4_3 N3 x13 ha hp0 hk9999 hj9999 lo (XO.lim hp1) I3_0 I3_1 hm3 c7 t13 c16 z19 z19a)) (by rw [(t22 : Int32.toInt x22 = (sF (aI (G.2.1 (F a 10)) (10 * l4_3.toInt + 0))))] <;> exact (z_X11_layStates_22 (aI (G.2.1 (F a 10)) (10 * l4_3.toInt + 0)) (sF (aI (G.2.1 (F a 10)) (10 * l4_3.toInt + 0))) (sL (aI (G.2.1 (F a 10)) (10 * l4_3.toInt + 0))) z19a)) (by rw [(t22 : Int32.toInt x22 = (sF (aI (G.2.1 (F a 10)) (10 * l4_3.toInt + 0))))] <;> exact (z_X11_layStates_23 (aI (G.2.1 (F a 10)) (10 * l4_3.toInt + 0)) (sF (aI (G.2.1 (F a 10)) (10 * l4_3.toInt + 0))) (sL (aI (G.2.1 (F a 10)) (10 * l4_3.toInt + 0))) z19a)) hT hS (lv_sub hl [1, 2, 3, 4, 5, 0] rfl)
  exact L3 4294967297 0 G _ _ _ XFr.rf (v_X11_layStates_1_15 (K := K) (F := F) a p0 G p1 p2 ha hp0 (XO.lim hp1)) (v_X11_layStates_1_16 G) (by decide) (by decide) (by decide) hT hS (lv_sub hl [1, 2, 3, 4, 0] rfl)

theorem z_X11_layOrder_4 (a0 : Int) (a1 : Int) (h0 : 0 ≤ a1 ∧ a1 ≤ a0) : 0 ≤ a1 ∧ a1 ≤ (a0 + 1) := by omega
theorem z_X11_layOrder_7 (a0 : Int) (a1 : Int) (h0 : 0 ≤ a0 ∧ a0 ≤ a1) : ¬ (a0 + 1 < ((0 : Nat) : Int)) := by omega
theorem z_X11_layOrder_8 (a0 : Int) (a1 : Int) (h0 : 0 ≤ a0 ∧ a0 ≤ a1) (h1 : a0 ≤ 0) : 0 ≤ a0 ∧ a0 < ((12 : Nat) : Int) := by omega
theorem z_X11_layOrder_9 (a0 : Int) (a1 : Int) (a2 : Int) (h0 : 0 ≤ a2 ∧ a2 ≤ a0) (h1 : ¬ ((12 : Int) ≤ a0)) (h2 : a1 = (a2 + (1 : Int)) ∨ (a2 + (1 : Int)) < -2147483648 ∨ 2147483648 ≤ (a2 + (1 : Int))) : a1 = (a2 + (1 : Int)) := by omega
theorem z_X11_layOrder_12 (a0 : Int) (a1 : Int) (h0 : 0 ≤ a1 ∧ a1 ≤ a0) : 0 ≤ (a1 + (1 : Int)) ∧ (a1 + (1 : Int)) ≤ (a0 + 1) := by omega
theorem z_X11_layOrder_15 (a0 : Int) (a1 : Int) (h0 : ¬ (a0 ≤ 0)) (h1 : a1 = (a0 - (1 : Int)) ∨ (a0 - (1 : Int)) < -2147483648 ∨ 2147483648 ≤ (a0 - (1 : Int))) (h2 : -2147483648 ≤ a0 ∧ a0 < 2147483648) : a1 = (a0 - (1 : Int)) := by omega
theorem z_X11_layOrder_16 (a0 : Int) (a1 : Int) (a2 : Int) (h0 : 0 ≤ a2 ∧ a2 ≤ a0) (h1 : ¬ ((12 : Int) ≤ a0)) (h2 : 0 ≤ a1 ∧ a1 ≤ a2) (h3 : ¬ (a1 ≤ 0)) : 0 ≤ (a1 - (1 : Int)) ∧ (a1 - (1 : Int)) < ((12 : Nat) : Int) := by omega
theorem z_X11_layOrder_17 (a0 : Int) (a1 : Int) (a2 : Int) (h0 : 0 ≤ a0 ∧ a0 ≤ 12) (h1 : 0 ≤ a1 ∧ a1 ≤ a2) (h2 : ¬ (a1 ≤ 0)) : 0 ≤ a0 ∧ a0 ≤ 12 ∧ 1 ≤ a1 ∧ a1 ≤ a2 := by omega
theorem z_X11_layOrder_18 (a0 : Int) (a1 : Int) (h0 : (0 ≤ a0 ∧ a0 ≤ 11) ∧ a0 = a1) : 0 ≤ a0 ∧ a0 ≤ 11 := by omega
theorem z_X11_layOrder_20 (a0 : Int) (a1 : Int) (a2 : Int) (h0 : 0 ≤ a2 ∧ a2 ≤ a0) (h1 : ¬ ((12 : Int) ≤ a0)) (h2 : 0 ≤ a1 ∧ a1 ≤ a2) : 0 ≤ a1 ∧ a1 < ((12 : Nat) : Int) := by omega
theorem z_X11_layOrder_30 (a0 : Int) (a1 : Int) (h0 : ¬ (a0 ≤ 0)) (h1 : a1 = (a0 + (-1)) ∨ (a0 + (-1)) < -2147483648 ∨ 2147483648 ≤ (a0 + (-1))) (h2 : -2147483648 ≤ a0 ∧ a0 < 2147483648) : a1 = (a0 + (-1)) := by omega
theorem z_X11_layOrder_31 (a0 : Int) (a1 : Int) (h0 : 0 ≤ a0 ∧ a0 ≤ a1) (h1 : ¬ (a0 ≤ 0)) : 0 ≤ (a0 + (-1)) ∧ (a0 + (-1)) ≤ a1 := by omega
theorem z_X11_layOrder_32 (a0 : Int) (a1 : Nat) (h0 : a0 + 1 < ((a1 + 1 : Nat) : Int)) : (a0 + (-1)) + 1 < ((a1 : Nat) : Int) := by omega
theorem z_X11_layOrder_33 (a0 : Int) (a1 : Int) (h0 : 0 ≤ a1 ∧ a1 ≤ a0) : 0 ≤ a1 ∧ a1 ≤ a1 := by omega
theorem z_X11_layOrder_34 (a0 : Int) (h0 : -2147483648 ≤ a0 ∧ a0 < 2147483648) : a0 + 1 < ((4294967297 : Nat) : Int) := by omega
abbrev rm_X11_layOrder : Room := { frames := 2, cells := 0, slots := 0, locals := 46 }
set_option maxHeartbeats 4000000 in
set_option maxRecDepth 100000 in
theorem c_X11_layOrder (l : Launch) (E : XE) (K : Nat → Nat) (F : Nat → Nat → Nat) (G : XG) (a : Nat) (ha : K a = 13) (hR : RV (G.2.1 (F a 10))) : Met l yX11_layOrder (xw yX11_layOrder cX11_layOrder 3 none) rm_X11_layOrder (va_Pc [.ref a] (XP E K F G)) (XQv E (fun (u : XG) => XFr [(a, 16)] [F a 15] [] G u ∧ (ORm (G.2.1 (F a 10)) (u.2.1 (F a 15)) ((u.1 a 16).toInt) 12) ∧ (u.2.2.2 = G.2.2.2)) (fun u H => TW E K F u H)) 0 0 (xA E) := by
  refine x_enter (by decide) (Nat.le_of_ble_eq_true rfl) ?_
  intro p e s m args below meth c Q S hr hlk hnm hQ hP ls hl
  obtain ⟨hz, hK, hT⟩ := hP
  obtain ⟨hx, hb, -, -, -⟩ := id S
  obtain ⟨H, hT, hS, hgo⟩ : ∃ H : Heap, TW E K F G H ∧ va_S (xA E) s.heap H [] ∧ H = s.heap := ⟨_, hT, va_S.rf, rfl⟩
  rw [← hgo]
  have hl : lv_has ls 3 [(0, .ref a)] := hl
  obtain ⟨hk9999, hj9999⟩ := fkX11_15 hT ha
  obtain ⟨hk9999a, hj9999a⟩ := fkX11_10 hT ha
  refine lv_aload_n hx hb dX11_layOrder_0 rfl (lv_at hl 0 rfl) ?_
  refine lv_iconst (v := 0) hx hb dX11_layOrder_1 (by decide) ?_
  refine pX11_16 (v := 0) S hK hT hS ha kf_X11_197 dX11_layOrder_2 (fun H locs hT hS => ?_)
  obtain ⟨G2, hG2⟩ : ∃ GG : XG, GG = dput G a 16 0 := ⟨_, rfl⟩
  rw [← hG2] at hT
  refine lv_iconst (v := 0) hx hb dX11_layOrder_5 (by decide) ?_
  refine lv_istore_n (lv' := [(1, .int 0), (0, .ref a)]) hx hb dX11_layOrder_6 rfl hl (by decide) rfl (fun ls hl => ?_)
  have L7 : ∀ (N7 : Nat) (l1_7 : Int32) (G_7 : XG) (H : Heap) (locs : List Loc) (ls : Array Slot), XFr [(a, 16)] [F a 15] [] G2 G_7 → ORm (G.2.1 (F a 10)) (G_7.2.1 (F a 15)) ((G_7.1 a 16).toInt) (l1_7.toInt).toNat → G_7.2.2.2 = G.2.2.2 → 0 ≤ l1_7.toInt ∧ l1_7.toInt ≤ 12 → 0 ≤ ((G_7.1 a 16).toInt) ∧ ((G_7.1 a 16).toInt) ≤ l1_7.toInt → (0 : Int) ≤ l1_7.toInt → 2147483648 - l1_7.toInt < ((N7 : Nat) : Int) → TW E K F G_7 H → va_S (xA E) s.heap H locs → lv_has ls 3 [(0, .ref a), (1, .int l1_7)] → W p l e rm_X11_layOrder s m args below meth c H locs 0 0 Q (F0 m 7 ls []) := by
    intro N7
    induction N7 with
    | zero =>
      intro l1_7 G_7 H locs ls hF_7 po lo I7_0 I7_1 I7_2 hm7
      exact absurd hm7 (z_X11_layStates_1 l1_7.toInt I7_0)
    | succ N7 ih7 =>
      intro l1_7 G_7 H locs ls hF_7 po lo I7_0 I7_1 I7_2 hm7 hT hS hl
      refine lv_iload_n hx hb dX11_layOrder_7 rfl (lv_at hl 1 rfl) ?_
      refine lv_bipush (v := 12) hx hb dX11_layOrder_8 (by decide) ?_
      refine xi_cge (tgt := 97) hx hb (rfl : Int32.toInt l1_7 = l1_7.toInt) ((by decide) : Int32.toInt 12 = (12 : Int)) dX11_layOrder_10 (by decide) (fun c10 => ?_) (fun c10 => ?_)
      · exact x_rv hx hb hr hlk hQ (Nat.le_of_ble_eq_true rfl) (Nat.le_of_ble_eq_true rfl) hS dX11_layOrder_97 G_7 ⟨(XFr.call (by rw [hG2]; exact XFr.dput XFr.rf (List.mem_of_getElem? (i := 0) rfl)) hF_7 (xm1 0 rfl xm0) (xm1 0 rfl xm0) xm0), (v_X11_layOrder_97_1 (K := K) (F := F) a G G_7 l1_7 N7 ha po lo I7_0 I7_1 I7_2 hm7 c10), (v_X11_layOrder_97_2 G G_7 lo)⟩ hT
      · refine lv_aload_n hx hb dX11_layOrder_13 rfl (lv_at hl 0 rfl) ?_
        refine lv_iload_n hx hb dX11_layOrder_14 rfl (lv_at hl 1 rfl) ?_
        refine x_clp (x_runV (b := a) (As := [.int l1_7]) (rest := []) S (c_X11_isRule l E K F G_7 H a l1_7 ha) mv_X11_isRule km_X11_162 rfl rfl ⟨Nat.le_of_ble_eq_true rfl, Nat.le_of_ble_eq_true rfl⟩ (rc_13 hK hT ha) hK (fun _ => XPh.blind) (fun U hU hW => XPh.at hK hz hS hT hU hW) rfl hl.1 (Nat.le_of_ble_eq_true rfl) dX11_layOrder_15 ⟨Nat.le_of_ble_eq_true rfl, Nat.le_of_ble_eq_true rfl⟩) hS ?_
        rintro _ _ locs ⟨x15, rfl, b15, t15⟩ hS
        have t15 : (x15.toInt = 1 ∧ 0 ≤ l1_7.toInt ∧ l1_7.toInt ≤ 11 ∧ (aI (G.2.1 (F a 10)) (10 * l1_7.toInt + 0)) ≠ -1) ∨ (x15.toInt = 0 ∧ (¬ (0 ≤ l1_7.toInt ∧ l1_7.toInt ≤ 11) ∨ (aI (G.2.1 (F a 10)) (10 * l1_7.toInt + 0)) = -1)) := by rw [(show G_7.2.1 (F a 10) = G.2.1 (F a 10) from ((hF_7.2.1 _ (xn1 (xne_k hk9999a hk9999 (by decide)) xn0)).trans (ld_c hG2)))] at t15; exact t15
        refine xi_zeq (tgt := 91) hx hb (rfl : Int32.toInt x15 = x15.toInt) dX11_layOrder_18 (by decide) (fun c18 => ?_) (fun c18 => ?_)
        · refine xi_iinc (n := 1) (lv' := fun z9 => [(1, .int z9), (0, .ref a)]) (k := 1) hx hb (rfl : Int32.toInt l1_7 = l1_7.toInt) (by decide) dX11_layOrder_91 hl rfl (by decide) (fun _ => rfl) (fun x91 ls t91 hl => ?_)
          have e91 : x91.toInt = (l1_7.toInt + 1) := (z_X11_layStates_2 l1_7.toInt x91.toInt I7_0 t91)
          have hl : lv_has ls 3 [(1, .int x91), (0, .ref a)] := hl
          refine lv_goto (tgt := 7) hx hb dX11_layOrder_94 (by decide) ?_
          exact ih7 x91 G_7 _ _ _ (XFr.call XFr.rf hF_7 (xm1 0 rfl xm0) (xm1 0 rfl xm0) xm0) (by rw [(e91 : Int32.toInt x91 = (l1_7.toInt + 1))] <;> exact (v_X11_layOrder_94_3 (K := K) (F := F) a G G_7 l1_7 N7 x15 ha po lo I7_0 I7_1 I7_2 hm7 c10 t15 c18)) (v_X11_layOrder_94_4 G G_7 lo) (by rw [(e91 : Int32.toInt x91 = (l1_7.toInt + 1))] <;> exact (z_X11_layStates_3 l1_7.toInt I7_0 c10)) (by rw [(e91 : Int32.toInt x91 = (l1_7.toInt + 1))] <;> exact (z_X11_layOrder_4 l1_7.toInt ((G_7.1 a 16).toInt) I7_1)) (by rw [(e91 : Int32.toInt x91 = (l1_7.toInt + 1))] <;> exact (z_X11_layStates_4 l1_7.toInt I7_0)) (by rw [(e91 : Int32.toInt x91 = (l1_7.toInt + 1))] <;> exact (z_X11_copy_9 l1_7.toInt N7 hm7)) hT hS (lv_sub hl [1, 0] rfl)
        · refine lv_aload_n hx hb dX11_layOrder_21 rfl (lv_at hl 0 rfl) ?_
          refine gX11_16 S hK hT ha kf_X11_197 dX11_layOrder_22 (v := (G_7.1 a 16)) rfl (?_)
          refine lv_istore_n (lv' := [(2, .int (G_7.1 a 16)), (0, .ref a), (1, .int l1_7)]) hx hb dX11_layOrder_25 rfl hl (by decide) rfl (fun ls hl => ?_)
          have L26 : ∀ (N26 : Nat) (l2_26 : Int32) (G_26 : XG) (H : Heap) (locs : List Loc) (ls : Array Slot), XFr [] [F a 15] [] G_7 G_26 → G_26.2.2.2 = G.2.2.2 → shf (G_7.2.1 (F a 15)) (G_26.2.1 (F a 15)) (l2_26.toInt).toNat ((G_7.1 a 16).toInt).toNat → posR (fun j => aI (G.2.1 (F a 10)) (10 * (G_7.2.1 (F a 15) j).toInt + 7)) (aI (G.2.1 (F a 10)) (10 * l1_7.toInt + 7)) (l2_26.toInt).toNat = posR (fun j => aI (G.2.1 (F a 10)) (10 * (G_7.2.1 (F a 15) j).toInt + 7)) (aI (G.2.1 (F a 10)) (10 * l1_7.toInt + 7)) ((G_7.1 a 16).toInt).toNat → 0 ≤ l2_26.toInt ∧ l2_26.toInt ≤ ((G_7.1 a 16).toInt) → l2_26.toInt + 1 < ((N26 : Nat) : Int) → TW E K F G_26 H → va_S (xA E) s.heap H locs → lv_has ls 3 [(0, .ref a), (1, .int l1_7), (2, .int l2_26)] → W p l e rm_X11_layOrder s m args below meth c H locs 0 0 Q (F0 m 26 ls []) := by
            intro N26
            induction N26 with
            | zero =>
              intro l2_26 G_26 H locs ls hF_26 lo ps pp I26_0 hm26
              exact absurd hm26 (z_X11_layOrder_7 l2_26.toInt ((G_7.1 a 16).toInt) I26_0)
            | succ N26 ih26 =>
              intro l2_26 G_26 H locs ls hF_26 lo ps pp I26_0 hm26 hT hS hl
              refine lv_iload_n hx hb dX11_layOrder_26 rfl (lv_at hl 2 rfl) ?_
              refine xi_zle (tgt := 74) hx hb (rfl : Int32.toInt l2_26 = l2_26.toInt) dX11_layOrder_27 (by decide) (fun c27 => ?_) (fun c27 => ?_)
              · refine lv_aload_n hx hb dX11_layOrder_74 rfl (lv_at hl 0 rfl) ?_
                refine gX11_15 S hK hT ha kf_X11_48 dX11_layOrder_75 (fun _ _ => ?_)
                refine lv_iload_n hx hb dX11_layOrder_78 rfl (lv_at hl 2 rfl) ?_
                refine lv_iload_n hx hb dX11_layOrder_79 rfl (lv_at hl 1 rfl) ?_
                refine as_0 (x := l1_7) S hK hT hS hk9999 ar_42 aw_42 (by decide) (z_X11_layOrder_8 l2_26.toInt ((G_7.1 a 16).toInt) I26_0 c27) dX11_layOrder_80 (fun H locs hT hS => ?_)
                obtain ⟨G80, hG80⟩ : ∃ GG : XG, GG = cput G_26 (F a 15) l2_26.toNatClampNeg l1_7 := ⟨_, rfl⟩
                rw [← hG80] at hT
                refine lv_aload_n hx hb dX11_layOrder_81 rfl (lv_at hl 0 rfl) ?_
                refine lv_dup hx hb dX11_layOrder_82 rfl ?_
                refine gX11_16 S hK hT ha kf_X11_197 dX11_layOrder_83 (v := (G_7.1 a 16)) ((lc_d hG80).trans (hF_26.1 _ _ xn0)) (?_)
                refine lv_iconst (v := 1) hx hb dX11_layOrder_86 (by decide) ?_
                refine xi_iadd hx hb (rfl : Int32.toInt (G_7.1 a 16) = ((G_7.1 a 16).toInt)) ((by decide) : Int32.toInt 1 = (1 : Int)) dX11_layOrder_87 (fun x87 t87 => ?_)
                have e87 : x87.toInt = (((G_7.1 a 16).toInt) + (1 : Int)) := (z_X11_layOrder_9 l1_7.toInt x87.toInt ((G_7.1 a 16).toInt) I7_1 c10 t87)
                refine pX11_16 (v := x87) S hK hT hS ha kf_X11_197 dX11_layOrder_88 (fun H locs hT hS => ?_)
                obtain ⟨G88, hG88⟩ : ∃ GG : XG, GG = dput G80 a 16 x87 := ⟨_, rfl⟩
                rw [← hG88] at hT
                refine xi_iinc (n := 1) (lv' := fun z9 => [(1, .int z9), (0, .ref a), (2, .int l2_26)]) (k := 1) hx hb (rfl : Int32.toInt l1_7 = l1_7.toInt) (by decide) dX11_layOrder_91 hl rfl (by decide) (fun _ => rfl) (fun x91 ls t91 hl => ?_)
                have e91 : x91.toInt = (l1_7.toInt + 1) := (z_X11_layStates_2 l1_7.toInt x91.toInt I7_0 t91)
                have hl : lv_has ls 3 [(1, .int x91), (0, .ref a), (2, .int l2_26)] := hl
                refine lv_goto (tgt := 7) hx hb dX11_layOrder_94 (by decide) ?_
                exact ih7 x91 G88 _ _ _ (by rw [hG88]; exact XFr.dput (by rw [hG80]; exact XFr.cput (XFr.call (XFr.call XFr.rf hF_7 (xm1 0 rfl xm0) (xm1 0 rfl xm0) xm0) hF_26 xm0 (xm1 0 rfl xm0) xm0) (List.mem_of_getElem? (i := 0) rfl)) (List.mem_of_getElem? (i := 0) rfl)) (by rw [(e91 : Int32.toInt x91 = (l1_7.toInt + 1)), (show (G88.1 a 16).toInt = (((G_7.1 a 16).toInt) + (1 : Int)) from (congrArg Int32.toInt (ld_at hG88)).trans (e87 : Int32.toInt x87 = (((G_7.1 a 16).toInt) + (1 : Int))))] <;> exact (v_X11_layOrder_94_5 (K := K) (F := F) a G G_7 G_26 G80 l2_26 l1_7 G88 N7 x15 N26 ha hG80 po lo ps pp I7_0 I7_1 I7_2 hm7 c10 t15 c18 I26_0 hm26 c27 (ld_c hG88))) (v_X11_layOrder_94_6 (F := F) a G G_26 G80 l2_26 l1_7 G88 x87 hG80 hG88 lo) (by rw [(e91 : Int32.toInt x91 = (l1_7.toInt + 1))] <;> exact (z_X11_layStates_3 l1_7.toInt I7_0 c10)) (by rw [(e91 : Int32.toInt x91 = (l1_7.toInt + 1)), (show (G88.1 a 16).toInt = (((G_7.1 a 16).toInt) + (1 : Int)) from (congrArg Int32.toInt (ld_at hG88)).trans (e87 : Int32.toInt x87 = (((G_7.1 a 16).toInt) + (1 : Int))))] <;> exact (z_X11_layOrder_12 l1_7.toInt ((G_7.1 a 16).toInt) I7_1)) (by rw [(e91 : Int32.toInt x91 = (l1_7.toInt + 1))] <;> exact (z_X11_layStates_4 l1_7.toInt I7_0)) (by rw [(e91 : Int32.toInt x91 = (l1_7.toInt + 1))] <;> exact (z_X11_copy_9 l1_7.toInt N7 hm7)) hT hS (lv_sub hl [1, 0] rfl)
              · refine lv_aload_n hx hb dX11_layOrder_30 rfl (lv_at hl 0 rfl) ?_
                refine lv_aload_n hx hb dX11_layOrder_31 rfl (lv_at hl 0 rfl) ?_
                refine gX11_15 S hK hT ha kf_X11_48 dX11_layOrder_32 (fun _ _ => ?_)
                refine lv_iload_n hx hb dX11_layOrder_35 rfl (lv_at hl 2 rfl) ?_
                refine lv_iconst (v := 1) hx hb dX11_layOrder_36 (by decide) ?_
                refine xi_isub hx hb (rfl : Int32.toInt l2_26 = l2_26.toInt) ((by decide) : Int32.toInt 1 = (1 : Int)) dX11_layOrder_37 (fun x37 t37 => ?_)
                have e37 : x37.toInt = (l2_26.toInt - (1 : Int)) := (z_X11_layOrder_15 l2_26.toInt x37.toInt c27 t37 (xr l2_26))
                refine al_0 S hK hT hk9999 ar_42 (by decide) (by rw [(e37 : Int32.toInt x37 = (l2_26.toInt - (1 : Int)))]; exact (z_X11_layOrder_16 l1_7.toInt l2_26.toInt ((G_7.1 a 16).toInt) I7_1 c10 I26_0 c27)) dX11_layOrder_38 (fun x38 hv38 o38 => ?_)
                have hv38 : x38.toInt = (aI (G_26.2.1 (F a 15)) (l2_26.toInt - 1)) := hv38.trans (by rw [(e37 : Int32.toInt x37 = (l2_26.toInt - (1 : Int)))])
                have z39 : (0 ≤ (aI (G_26.2.1 (F a 15)) (l2_26.toInt - 1)) ∧ (aI (G_26.2.1 (F a 15)) (l2_26.toInt - 1)) ≤ 11) ∧ (aI (G_26.2.1 (F a 15)) (l2_26.toInt - 1)) = (aI (G_7.2.1 (F a 15)) (l2_26.toInt - 1)) := lo_ent po ps (z_X11_layOrder_17 l1_7.toInt l2_26.toInt ((G_7.1 a 16).toInt) I7_0 I26_0 c27)
                refine lv_bipush (v := 7) hx hb dX11_layOrder_39 (by decide) ?_
                refine x_clp (x_runV (b := a) (As := [.int x38, .int 7]) (rest := []) S (c_X11_of l E K F G_26 H a x38 7 ha (by rw [(hv38 : Int32.toInt x38 = (aI (G_26.2.1 (F a 15)) (l2_26.toInt - 1)))] <;> exact (z_X11_layOrder_18 (aI (G_26.2.1 (F a 15)) (l2_26.toInt - 1)) (aI (G_7.2.1 (F a 15)) (l2_26.toInt - 1)) z39)) (by decide)) mv_X11_of km_X11_165 rfl rfl ⟨Nat.le_of_ble_eq_true rfl, Nat.le_of_ble_eq_true rfl⟩ (rc_13 hK hT ha) hK (fun _ => XPh.blind) (fun U hU hW => XPh.at hK hz hS hT hU hW) rfl hl.1 (Nat.le_of_ble_eq_true rfl) dX11_layOrder_41 ⟨Nat.le_of_ble_eq_true rfl, Nat.le_of_ble_eq_true rfl⟩) hS ?_
                rintro _ _ locs ⟨x41, rfl, t41⟩ hS
                have t41 : x41.toInt = (aI (G.2.1 (F a 10)) (10 * (aI (G_26.2.1 (F a 15)) (l2_26.toInt - 1)) + 7)) := by rw [(hv38 : Int32.toInt x38 = (aI (G_26.2.1 (F a 15)) (l2_26.toInt - 1)))] at t41; rw [(show G_26.2.1 (F a 10) = G.2.1 (F a 10) from ((hF_26.2.1 _ (xn1 (xne_k hk9999a hk9999 (by decide)) xn0)).trans ((hF_7.2.1 _ (xn1 (xne_k hk9999a hk9999 (by decide)) xn0)).trans (ld_c hG2))))] at t41; exact t41
                refine lv_aload_n hx hb dX11_layOrder_44 rfl (lv_at hl 0 rfl) ?_
                refine lv_iload_n hx hb dX11_layOrder_45 rfl (lv_at hl 1 rfl) ?_
                refine lv_bipush (v := 7) hx hb dX11_layOrder_46 (by decide) ?_
                refine x_clp (x_runV (b := a) (As := [.int l1_7, .int 7]) (rest := [.int x41]) S (c_X11_of l E K F G_26 H a l1_7 7 ha (z_X11_layStates_6 l1_7.toInt I7_0 c10) (by decide)) mv_X11_of km_X11_165 rfl rfl ⟨Nat.le_of_ble_eq_true rfl, Nat.le_of_ble_eq_true rfl⟩ (rc_13 hK hT ha) hK (fun _ => XPh.blind) (fun U hU hW => XPh.at hK hz hS hT hU hW) rfl hl.1 (Nat.le_of_ble_eq_true rfl) dX11_layOrder_48 ⟨Nat.le_of_ble_eq_true rfl, Nat.le_of_ble_eq_true rfl⟩) hS ?_
                rintro _ _ locs ⟨x48, rfl, t48⟩ hS
                have t48 : x48.toInt = (aI (G.2.1 (F a 10)) (10 * l1_7.toInt + 7)) := by rw [(show G_26.2.1 (F a 10) = G.2.1 (F a 10) from ((hF_26.2.1 _ (xn1 (xne_k hk9999a hk9999 (by decide)) xn0)).trans ((hF_7.2.1 _ (xn1 (xne_k hk9999a hk9999 (by decide)) xn0)).trans (ld_c hG2))))] at t48; exact t48
                refine xi_cle (tgt := 74) hx hb (t41 : Int32.toInt x41 = (aI (G.2.1 (F a 10)) (10 * (aI (G_26.2.1 (F a 15)) (l2_26.toInt - 1)) + 7))) (t48 : Int32.toInt x48 = (aI (G.2.1 (F a 10)) (10 * l1_7.toInt + 7))) dX11_layOrder_51 (by decide) (fun c51 => ?_) (fun c51 => ?_)
                · refine lv_aload_n hx hb dX11_layOrder_74 rfl (lv_at hl 0 rfl) ?_
                  refine gX11_15 S hK hT ha kf_X11_48 dX11_layOrder_75 (fun _ _ => ?_)
                  refine lv_iload_n hx hb dX11_layOrder_78 rfl (lv_at hl 2 rfl) ?_
                  refine lv_iload_n hx hb dX11_layOrder_79 rfl (lv_at hl 1 rfl) ?_
                  refine as_0 (x := l1_7) S hK hT hS hk9999 ar_42 aw_42 (by decide) (z_X11_layOrder_20 l1_7.toInt l2_26.toInt ((G_7.1 a 16).toInt) I7_1 c10 I26_0) dX11_layOrder_80 (fun H locs hT hS => ?_)
                  obtain ⟨G80, hG80⟩ : ∃ GG : XG, GG = cput G_26 (F a 15) l2_26.toNatClampNeg l1_7 := ⟨_, rfl⟩
                  rw [← hG80] at hT
                  refine lv_aload_n hx hb dX11_layOrder_81 rfl (lv_at hl 0 rfl) ?_
                  refine lv_dup hx hb dX11_layOrder_82 rfl ?_
                  refine gX11_16 S hK hT ha kf_X11_197 dX11_layOrder_83 (v := (G_7.1 a 16)) ((lc_d hG80).trans (hF_26.1 _ _ xn0)) (?_)
                  refine lv_iconst (v := 1) hx hb dX11_layOrder_86 (by decide) ?_
                  refine xi_iadd hx hb (rfl : Int32.toInt (G_7.1 a 16) = ((G_7.1 a 16).toInt)) ((by decide) : Int32.toInt 1 = (1 : Int)) dX11_layOrder_87 (fun x87 t87 => ?_)
                  have e87 : x87.toInt = (((G_7.1 a 16).toInt) + (1 : Int)) := (z_X11_layOrder_9 l1_7.toInt x87.toInt ((G_7.1 a 16).toInt) I7_1 c10 t87)
                  refine pX11_16 (v := x87) S hK hT hS ha kf_X11_197 dX11_layOrder_88 (fun H locs hT hS => ?_)
                  obtain ⟨G88, hG88⟩ : ∃ GG : XG, GG = dput G80 a 16 x87 := ⟨_, rfl⟩
                  rw [← hG88] at hT
                  refine xi_iinc (n := 1) (lv' := fun z9 => [(1, .int z9), (0, .ref a), (2, .int l2_26)]) (k := 1) hx hb (rfl : Int32.toInt l1_7 = l1_7.toInt) (by decide) dX11_layOrder_91 hl rfl (by decide) (fun _ => rfl) (fun x91 ls t91 hl => ?_)
                  have e91 : x91.toInt = (l1_7.toInt + 1) := (z_X11_layStates_2 l1_7.toInt x91.toInt I7_0 t91)
                  have hl : lv_has ls 3 [(1, .int x91), (0, .ref a), (2, .int l2_26)] := hl
                  refine lv_goto (tgt := 7) hx hb dX11_layOrder_94 (by decide) ?_
                  exact ih7 x91 G88 _ _ _ (by rw [hG88]; exact XFr.dput (by rw [hG80]; exact XFr.cput (XFr.call (XFr.call XFr.rf hF_7 (xm1 0 rfl xm0) (xm1 0 rfl xm0) xm0) hF_26 xm0 (xm1 0 rfl xm0) xm0) (List.mem_of_getElem? (i := 0) rfl)) (List.mem_of_getElem? (i := 0) rfl)) (by rw [(e91 : Int32.toInt x91 = (l1_7.toInt + 1)), (show (G88.1 a 16).toInt = (((G_7.1 a 16).toInt) + (1 : Int)) from (congrArg Int32.toInt (ld_at hG88)).trans (e87 : Int32.toInt x87 = (((G_7.1 a 16).toInt) + (1 : Int))))] <;> exact (v_X11_layOrder_94_7 (K := K) (F := F) a G G_7 G_26 G80 l2_26 l1_7 G88 N7 x15 N26 ha hG80 po lo ps pp I7_0 I7_1 I7_2 hm7 c10 t15 c18 I26_0 hm26 c27 z39 c51 (ld_c hG88))) (v_X11_layOrder_94_8 (F := F) a G G_26 G80 l2_26 l1_7 G88 x87 hG80 hG88 lo) (by rw [(e91 : Int32.toInt x91 = (l1_7.toInt + 1))] <;> exact (z_X11_layStates_3 l1_7.toInt I7_0 c10)) (by rw [(e91 : Int32.toInt x91 = (l1_7.toInt + 1)), (show (G88.1 a 16).toInt = (((G_7.1 a 16).toInt) + (1 : Int)) from (congrArg Int32.toInt (ld_at hG88)).trans (e87 : Int32.toInt x87 = (((G_7.1 a 16).toInt) + (1 : Int))))] <;> exact (z_X11_layOrder_12 l1_7.toInt ((G_7.1 a 16).toInt) I7_1)) (by rw [(e91 : Int32.toInt x91 = (l1_7.toInt + 1))] <;> exact (z_X11_layStates_4 l1_7.toInt I7_0)) (by rw [(e91 : Int32.toInt x91 = (l1_7.toInt + 1))] <;> exact (z_X11_copy_9 l1_7.toInt N7 hm7)) hT hS (lv_sub hl [1, 0] rfl)
                · refine lv_aload_n hx hb dX11_layOrder_54 rfl (lv_at hl 0 rfl) ?_
                  refine gX11_15 S hK hT ha kf_X11_48 dX11_layOrder_55 (fun _ _ => ?_)
                  refine lv_iload_n hx hb dX11_layOrder_58 rfl (lv_at hl 2 rfl) ?_
                  refine lv_aload_n hx hb dX11_layOrder_59 rfl (lv_at hl 0 rfl) ?_
                  refine gX11_15 S hK hT ha kf_X11_48 dX11_layOrder_60 (fun _ _ => ?_)
                  refine lv_iload_n hx hb dX11_layOrder_63 rfl (lv_at hl 2 rfl) ?_
                  refine lv_iconst (v := 1) hx hb dX11_layOrder_64 (by decide) ?_
                  refine xi_isub hx hb (rfl : Int32.toInt l2_26 = l2_26.toInt) ((by decide) : Int32.toInt 1 = (1 : Int)) dX11_layOrder_65 (fun x65 t65 => ?_)
                  have e65 : x65.toInt = (l2_26.toInt - (1 : Int)) := (z_X11_layOrder_15 l2_26.toInt x65.toInt c27 t65 (xr l2_26))
                  refine al_0 S hK hT hk9999 ar_42 (by decide) (by rw [(e65 : Int32.toInt x65 = (l2_26.toInt - (1 : Int)))]; exact (z_X11_layOrder_16 l1_7.toInt l2_26.toInt ((G_7.1 a 16).toInt) I7_1 c10 I26_0 c27)) dX11_layOrder_66 (fun x66 hv66 o66 => ?_)
                  have hv66 : x66.toInt = (aI (G_26.2.1 (F a 15)) (l2_26.toInt - 1)) := hv66.trans (by rw [(e65 : Int32.toInt x65 = (l2_26.toInt - (1 : Int)))])
                  refine as_0 (x := x66) S hK hT hS hk9999 ar_42 aw_42 (by decide) (z_X11_layOrder_20 l1_7.toInt l2_26.toInt ((G_7.1 a 16).toInt) I7_1 c10 I26_0) dX11_layOrder_67 (fun H locs hT hS => ?_)
                  obtain ⟨G67, hG67⟩ : ∃ GG : XG, GG = cput G_26 (F a 15) l2_26.toNatClampNeg x66 := ⟨_, rfl⟩
                  rw [← hG67] at hT
                  refine xi_iinc (n := (-1)) (lv' := fun z9 => [(2, .int z9), (0, .ref a), (1, .int l1_7)]) (k := 2) hx hb (rfl : Int32.toInt l2_26 = l2_26.toInt) (by decide) dX11_layOrder_68 hl rfl (by decide) (fun _ => rfl) (fun x68 ls t68 hl => ?_)
                  have e68 : x68.toInt = (l2_26.toInt + (-1)) := (z_X11_layOrder_30 l2_26.toInt x68.toInt c27 t68 (xr l2_26))
                  have hl : lv_has ls 3 [(2, .int x68), (0, .ref a), (1, .int l1_7)] := hl
                  refine lv_goto (tgt := 26) hx hb dX11_layOrder_71 (by decide) ?_
                  exact ih26 x68 G67 _ _ _ (by rw [hG67]; exact XFr.cput (XFr.call XFr.rf hF_26 xm0 (xm1 0 rfl xm0) xm0) (List.mem_of_getElem? (i := 0) rfl)) (v_X11_layOrder_71_9 (F := F) a G G_26 G67 l2_26 x66 hG67 lo) (by rw [(e68 : Int32.toInt x68 = (l2_26.toInt + (-1)))] <;> exact (v_X11_layOrder_71_10 (K := K) (F := F) a G G_7 G_26 G67 l2_26 x66 l1_7 N7 x15 N26 ha hG67 lo ps pp hv66 I7_0 I7_1 I7_2 hm7 c10 t15 c18 I26_0 hm26 c27 z39 c51)) (by rw [(e68 : Int32.toInt x68 = (l2_26.toInt + (-1)))] <;> exact (v_X11_layOrder_71_11 (K := K) (F := F) a G G_7 G_26 l2_26 l1_7 N7 x15 N26 ha lo ps pp I7_0 I7_1 I7_2 hm7 c10 t15 c18 I26_0 hm26 c27 z39 c51)) (by rw [(e68 : Int32.toInt x68 = (l2_26.toInt + (-1)))] <;> exact (z_X11_layOrder_31 l2_26.toInt ((G_7.1 a 16).toInt) I26_0 c27)) (by rw [(e68 : Int32.toInt x68 = (l2_26.toInt + (-1)))] <;> exact (z_X11_layOrder_32 l2_26.toInt N26 hm26)) hT hS (lv_sub hl [1, 2, 0] rfl)
          exact L26 4294967297 (G_7.1 a 16) G_7 _ _ _ XFr.rf (v_X11_layOrder_25_12 G G_7 lo) (v_X11_layOrder_25_13 (F := F) a G_7) (v_X11_layOrder_25_14 (F := F) a G G_7 l1_7) (z_X11_layOrder_33 l1_7.toInt ((G_7.1 a 16).toInt) I7_1) (z_X11_layOrder_34 ((G_7.1 a 16).toInt) (xr (G_7.1 a 16))) hT hS (lv_sub hl [1, 2, 0] rfl)
  exact L7 4294967297 0 G2 _ _ _ XFr.rf (by rw [(show (G2.1 a 16).toInt = (0 : Int) from (congrArg Int32.toInt (ld_at hG2)).trans ((by decide) : Int32.toInt 0 = (0 : Int)))] <;> exact (v_X11_layOrder_6_15 (F := F) a G2 G)) (v_X11_layOrder_6_16 a G2 G hG2) (by decide) (by rw [(show (G2.1 a 16).toInt = (0 : Int) from (congrArg Int32.toInt (ld_at hG2)).trans ((by decide) : Int32.toInt 0 = (0 : Int)))] <;> exact (by decide)) (by decide) (by decide) hT hS (lv_sub hl [1, 0] rfl)

