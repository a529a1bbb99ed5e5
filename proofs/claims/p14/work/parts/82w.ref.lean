theorem z_X11_leans_1 (a0 : Int) (h0 : 0 ≤ a0 ∧ a0 ≤ 90) : ¬ (2147483648 - a0 < ((0 : Nat) : Int)) := by omega
theorem z_X11_leans_2 (a0 : Int) (a1 : Int) (h0 : (a0 = 0 ∨ a0 = 1)) (h1 : 0 ≤ a1 ∧ a1 ≤ 90) : ¬ (2 * a1 + a0 < ((0 : Nat) : Int)) := by omega
theorem z_X11_leans_4 (a0 : Int) (h0 : 0 ≤ a0 ∧ a0 ≤ 90) (h1 : ¬ ((90 : Int) ≤ a0)) : 0 ≤ a0 ∧ a0 < ((90 : Nat) : Int) := by omega
theorem z_X11_leans_5 (a0 : Int) (a1 : Int) (h0 : 0 ≤ a0 ∧ a0 ≤ 90) (h1 : a1 = (a0 + 1) ∨ (a0 + 1) < -2147483648 ∨ 2147483648 ≤ (a0 + 1)) : a1 = (a0 + 1) := by omega
theorem z_X11_leans_6 (a0 : Int) (h0 : 0 ≤ a0 ∧ a0 ≤ 90) (h1 : ¬ ((90 : Int) ≤ a0)) : 0 ≤ (a0 + 1) ∧ (a0 + 1) ≤ 90 := by omega
theorem z_X11_leans_7 (a0 : Int) (a1 : Nat) (h0 : 2147483648 - a0 < ((a1 + 1 : Nat) : Int)) : 2147483648 - (a0 + 1) < ((a1 : Nat) : Int) := by omega
theorem z_X11_leans_8 (a0 : Int) (h0 : 0 ≤ a0 ∧ a0 ≤ 90) : ¬ (100 - a0 < ((0 : Nat) : Int)) := by omega
theorem z_X11_leans_9 (a0 : Int) (h0 : a0 = 0 ∨ a0 = 1) : (a0 = 0 ∨ a0 = 1) := by omega
theorem z_X11_leans_11 (a0 : Int) (a1 : Int) (a2 : Nat) (a3 : Int) (a4 : Int) (h0 : (a1 = 0 ∨ a1 = 1)) (h1 : 2 * a4 + a1 < ((a2 + 1 : Nat) : Int)) (h2 : ¬ (a1 = 0)) (h3 : a0 = 0 ∨ a0 = 1) (h4 : a3 ≤ a4) (h5 : a0 = 1 → a3 + 1 ≤ a4) : 2 * a3 + a0 < ((a2 : Nat) : Int) := by omega
theorem z_X11_leans_15 (a0 : Int) (a1 : Int) (a2 : Int) (h0 : a0 = 0 ∨ a0 = 1) (h1 : a1 ≤ a2) (h2 : a0 = 1 → a1 + 1 ≤ a2) : (a0 = 0 ∨ a0 = 1) ∧ a1 ≤ a2 ∧ (a0 = 1 → a1 + 1 ≤ a2) := by omega
theorem z_X11_leans_16 (a0 : Int) (a1 : Nat) (h0 : 100 - a0 < ((a1 + 1 : Nat) : Int)) : 100 - (a0 + 1) < ((a1 : Nat) : Int) := by omega
theorem z_X11_leans_26 (a0 : Int) (a1 : Int) (a2 : Int) (h0 : 0 ≤ a0 ∧ a0 ≤ 90) (h1 : ¬ ((90 : Int) ≤ a0)) (h2 : 0 ≤ a0 → a1 = a0 / (30 : Int)) (h3 : 0 ≤ a0 → a2 = a0 % (30 : Int)) : 0 ≤ a1 ∧ a1 < 3 ∧ 0 ≤ a2 ∧ a2 < 30 := by omega
theorem z_X11_leans_29 (a0 : Int) (a1 : Int) (a2 : Int) (h0 : a1 ≤ a2) (h1 : a0 + 1 = a1) : ((1 : Int) = 0 ∨ (1 : Int) = 1) ∧ a0 ≤ a2 ∧ ((1 : Int) = 1 → a0 + 1 ≤ a2) := by omega
theorem z_X11_leans_31 (a0 : Int) : ((0 : Int) = 0 ∨ (0 : Int) = 1) ∧ a0 ≤ a0 ∧ ((0 : Int) = 1 → a0 + 1 ≤ a0) := by omega
theorem z_X11_leans_33 (a0 : Int) (h0 : 0 ≤ a0 ∧ a0 ≤ 90) : 2 * a0 + (1 : Int) < ((4294967297 : Nat) : Int) := by omega
theorem z_X11_leans_37 (a0 : Int) (h0 : 0 ≤ a0 ∧ a0 ≤ 90) : 0 ≤ a0 := by omega
abbrev rm_X11_leans : Room := { frames := 4, cells := 0, slots := 0, locals := 93 }
set_option maxHeartbeats 4000000 in
set_option maxRecDepth 100000 in
theorem c_X11_leans (l : Launch) (E : XE) (K : Nat → Nat) (F : Nat → Nat → Nat) (G : XG) (a : Nat) (p0 : Int32) (p1 : Int32) (p2 : Int32) (ha : K a = 13) (hR : RV (G.2.1 (F a 10))) (hM : RM (G.2.1 (F a 1)) (0)) : Met l yX11_leans (xw yX11_leans cX11_leans 8 (some .int)) rm_X11_leans (va_Pc [.ref a, .int p0, .int p1, .int p2] (XP E K F G)) (XQ E (fun v (u : XG) => ∃ r : Int32, v = .int r ∧ XFr [(a, 0)] [F a 51] [] G u) (fun u H => TW E K F u H)) 0 0 (xA E) := by
  refine x_enter (by decide) (Nat.le_of_ble_eq_true rfl) ?_
  intro p e s m args below meth c Q S hr hlk hnm hQ hP ls hl
  obtain ⟨hz, hK, hT⟩ := hP
  obtain ⟨hx, hb, -, -, -⟩ := id S
  obtain ⟨H, hT, hS, hgo⟩ : ∃ H : Heap, TW E K F G H ∧ va_S (xA E) s.heap H [] ∧ H = s.heap := ⟨_, hT, va_S.rf, rfl⟩
  rw [← hgo]
  have hl : lv_has ls 8 [(0, .ref a), (1, .int p0), (2, .int p1), (3, .int p2)] := hl
  obtain ⟨hk9999, hj9999⟩ := fkX11_51 hT ha
  obtain ⟨hk9999a, hj9999a⟩ := fkX11_10 hT ha
  obtain ⟨hk9999b, hj9999b⟩ := fkX11_1 hT ha
  refine lv_aload_n hx hb dX11_leans_0 rfl (lv_at hl 0 rfl) ?_
  refine lv_iconst (v := 0) hx hb dX11_leans_1 (by decide) ?_
  refine pX11_0 (v := 0) S hK hT hS ha kf_X11_134 dX11_leans_2 (fun H locs hT hS => ?_)
  obtain ⟨G2, hG2⟩ : ∃ GG : XG, GG = dput G a 0 0 := ⟨_, rfl⟩
  rw [← hG2] at hT
  have z5 : ¬ (0 ≤ p0.toInt ∧ p0.toInt < 3 ∧ 0 ≤ p1.toInt ∧ p1.toInt < 30) → (cel (mw (G.2.1 (F a 1)) 0) (p0.toInt) (p1.toInt) 0) = -2000 := fun h9 => cel_out (by omega)
  refine lv_aload_n hx hb dX11_leans_5 rfl (lv_at hl 0 rfl) ?_
  refine lv_iload_n hx hb dX11_leans_6 rfl (lv_at hl 1 rfl) ?_
  refine lv_iload_n hx hb dX11_leans_7 rfl (lv_at hl 2 rfl) ?_
  refine x_clp (x_runV (b := a) (As := [.int p0, .int p1]) (rest := []) S (c_X11_isRow l E K F G2 H a p0 p1 ha (v_X11_leans_8_1 (F := F) a G2 G hM (ld_c hG2))) mv_X11_isRow km_X11_346 rfl rfl ⟨Nat.le_of_ble_eq_true rfl, Nat.le_of_ble_eq_true rfl⟩ (rc_13 hK hT ha) hK (fun _ => XPh.blind) (fun U hU hW => XPh.at hK hz hS hT hU hW) rfl hl.1 (Nat.le_of_ble_eq_true rfl) dX11_leans_8 ⟨Nat.le_of_ble_eq_true rfl, Nat.le_of_ble_eq_true rfl⟩) hS ?_
  rintro _ _ locs ⟨x8, rfl, b8, t8⟩ hS
  have t8 : (x8.toInt = 1 ∧ (cel (mw (G.2.1 (F a 1)) 0) (p0.toInt) (p1.toInt) 0) ≠ -2000) ∨ (x8.toInt = 0 ∧ (cel (mw (G.2.1 (F a 1)) 0) (p0.toInt) (p1.toInt) 0) = -2000) := by rw [(show G2.2.1 (F a 1) = G.2.1 (F a 1) from (ld_c hG2))] at t8; exact t8
  refine xi_zeq (tgt := 24) hx hb (rfl : Int32.toInt x8 = x8.toInt) dX11_leans_11 (by decide) (fun c11 => ?_) (fun c11 => ?_)
  · refine lv_iconst (v := (-1)) hx hb dX11_leans_24 (by decide) ?_
    exact x_ri hx hb hr hlk hQ (Nat.le_of_ble_eq_true rfl) (Nat.le_of_ble_eq_true rfl) hS dX11_leans_25 G2 ⟨_, rfl, (by rw [hG2]; exact XFr.dput XFr.rf (List.mem_of_getElem? (i := 0) rfl))⟩ hT
  · refine lv_iload_n hx hb dX11_leans_14 rfl (lv_at hl 3 rfl) ?_
    refine lv_i2l (v := p2.toInt64) hx hb dX11_leans_15 rfl ?_
    refine lv_lconst (v := (0 : Int64)) hx hb dX11_leans_16 (by decide) ?_
    refine lv_lconst (v := (1 : Int64)) hx hb dX11_leans_17 (by decide) ?_
    refine x_clp (x_runS (As := [.long p2.toInt64, .long (0 : Int64), .long (1 : Int64)]) (rest := []) S (c_X11_in l E K F G2 H p2.toInt64 p2.toInt (0 : Int64) (0 : Int) (1 : Int64) (1 : Int) (xl_i2l (rfl : Int32.toInt p2 = p2.toInt)) (by decide) (by decide)) ms_X11_in km_X11_139 rfl rfl ⟨Nat.le_of_ble_eq_true rfl, Nat.le_of_ble_eq_true rfl⟩ hK (fun _ => XPh.blind) (fun U hU hW => XPh.at hK hz hS hT hU hW) rfl hl.1 (Nat.le_of_ble_eq_true rfl) dX11_leans_18 ⟨Nat.le_of_ble_eq_true rfl, Nat.le_of_ble_eq_true rfl⟩) hS ?_
    rintro _ _ locs ⟨x18, rfl, b18, t18⟩ hS
    have t18 : (x18.toInt = 1 ∧ (0 : Int) ≤ p2.toInt ∧ p2.toInt ≤ (1 : Int)) ∨ (x18.toInt = 0 ∧ (p2.toInt < (0 : Int) ∨ (1 : Int) < p2.toInt)) := t18
    refine xi_zne (tgt := 26) hx hb (rfl : Int32.toInt x18 = x18.toInt) dX11_leans_21 (by decide) (fun c21 => ?_) (fun c21 => ?_)
    · refine lv_iconst (v := 0) hx hb dX11_leans_26 (by decide) ?_
      refine lv_istore (lv' := [(4, .int 0), (0, .ref a), (1, .int p0), (2, .int p1), (3, .int p2)]) hx hb dX11_leans_27 hl (by decide) rfl (fun ls hl => ?_)
      refine lv_iconst (v := 0) hx hb dX11_leans_29 (by decide) ?_
      refine lv_istore (lv' := [(5, .int 0), (4, .int 0), (0, .ref a), (1, .int p0), (2, .int p1), (3, .int p2)]) hx hb dX11_leans_30 hl (by decide) rfl (fun ls hl => ?_)
      have L32 : ∀ (N32 : Nat) (l4_32 : Int32) (l5_32 : Int32) (G_32 : XG) (H : Heap) (locs : List Loc) (ls : Array Slot), XFr [] [F a 51] [] G2 G_32 → 0 ≤ l5_32.toInt ∧ l5_32.toInt ≤ 90 → 2147483648 - l5_32.toInt < ((N32 : Nat) : Int) → TW E K F G_32 H → va_S (xA E) s.heap H locs → lv_has ls 8 [(0, .ref a), (1, .int p0), (2, .int p1), (3, .int p2), (4, .int l4_32), (5, .int l5_32)] → W p l e rm_X11_leans s m args below meth c H locs 0 0 Q (F0 m 32 ls []) := by
        intro N32
        induction N32 with
        | zero =>
          intro l4_32 l5_32 G_32 H locs ls hF_32 I32_0 hm32
          exact absurd hm32 (z_X11_leans_1 l5_32.toInt I32_0)
        | succ N32 ih32 =>
          intro l4_32 l5_32 G_32 H locs ls hF_32 I32_0 hm32 hT hS hl
          refine lv_iload hx hb dX11_leans_32 (lv_at hl 5 rfl) ?_
          refine lv_bipush (v := 90) hx hb dX11_leans_34 (by decide) ?_
          refine xi_cge (tgt := 88) hx hb (rfl : Int32.toInt l5_32 = l5_32.toInt) ((by decide) : Int32.toInt 90 = (90 : Int)) dX11_leans_36 (by decide) (fun c36 => ?_) (fun c36 => ?_)
          · have z88 : 0 ≤ (czI (G_32.2.1 (F a 51))) ∧ (czI (G_32.2.1 (F a 51))) ≤ 90 := czI_b _
            refine lv_iconst (v := 1) hx hb dX11_leans_88 (by decide) ?_
            refine lv_istore (lv' := [(5, .int 1), (0, .ref a), (1, .int p0), (2, .int p1), (3, .int p2), (4, .int l4_32)]) hx hb dX11_leans_89 hl (by decide) rfl (fun ls hl => ?_)
            have L91 : ∀ (N91 : Nat) (l5_91 : Int32) (G_91 : XG) (H : Heap) (locs : List Loc) (ls : Array Slot), XFr [] [F a 51] [] G_32 G_91 → (l5_91.toInt = 0 ∨ l5_91.toInt = 1) → 0 ≤ (czI (G_91.2.1 (F a 51))) ∧ (czI (G_91.2.1 (F a 51))) ≤ 90 → 2 * (czI (G_91.2.1 (F a 51))) + l5_91.toInt < ((N91 : Nat) : Int) → TW E K F G_91 H → va_S (xA E) s.heap H locs → lv_has ls 8 [(0, .ref a), (1, .int p0), (2, .int p1), (3, .int p2), (4, .int l4_32), (5, .int l5_91)] → W p l e rm_X11_leans s m args below meth c H locs 0 0 Q (F0 m 91 ls []) := by
              intro N91
              induction N91 with
              | zero =>
                intro l5_91 G_91 H locs ls hF_91 I91_0 I91_1 hm91
                exact absurd hm91 (z_X11_leans_2 l5_91.toInt (czI (G_91.2.1 (F a 51))) I91_0 I91_1)
              | succ N91 ih91 =>
                intro l5_91 G_91 H locs ls hF_91 I91_0 I91_1 hm91 hT hS hl
                refine lv_iload hx hb dX11_leans_91 (lv_at hl 5 rfl) ?_
                refine xi_zeq (tgt := 192) hx hb (rfl : Int32.toInt l5_91 = l5_91.toInt) dX11_leans_93 (by decide) (fun c93 => ?_) (fun c93 => ?_)
                · refine lv_iconst (v := 0) hx hb dX11_leans_192 (by decide) ?_
                  refine lv_istore (lv' := [(6, .int 0), (0, .ref a), (1, .int p0), (2, .int p1), (3, .int p2), (4, .int l4_32), (5, .int l5_91)]) hx hb dX11_leans_193 hl (by decide) rfl (fun ls hl => ?_)
                  refine lv_iconst (v := 0) hx hb dX11_leans_195 (by decide) ?_
                  refine lv_istore (lv' := [(7, .int 0), (6, .int 0), (0, .ref a), (1, .int p0), (2, .int p1), (3, .int p2), (4, .int l4_32), (5, .int l5_91)]) hx hb dX11_leans_196 hl (by decide) rfl (fun ls hl => ?_)
                  have L198 : ∀ (N198 : Nat) (l6_198 : Int32) (l7_198 : Int32) (H : Heap) (locs : List Loc) (ls : Array Slot), 0 ≤ l7_198.toInt ∧ l7_198.toInt ≤ 90 → 2147483648 - l7_198.toInt < ((N198 : Nat) : Int) → TW E K F G_91 H → va_S (xA E) s.heap H locs → lv_has ls 8 [(0, .ref a), (1, .int p0), (2, .int p1), (3, .int p2), (4, .int l4_32), (6, .int l6_198), (7, .int l7_198)] → W p l e rm_X11_leans s m args below meth c H locs 0 0 Q (F0 m 198 ls []) := by
                    intro N198
                    induction N198 with
                    | zero =>
                      intro l6_198 l7_198 H locs ls I198_0 hm198
                      exact absurd hm198 (z_X11_leans_1 l7_198.toInt I198_0)
                    | succ N198 ih198 =>
                      intro l6_198 l7_198 H locs ls I198_0 hm198 hT hS hl
                      refine lv_iload hx hb dX11_leans_198 (lv_at hl 6 rfl) ?_
                      refine lv_bipush (v := 90) hx hb dX11_leans_200 (by decide) ?_
                      refine xi_cge (tgt := 242) hx hb (rfl : Int32.toInt l7_198 = l7_198.toInt) ((by decide) : Int32.toInt 90 = (90 : Int)) dX11_leans_202 (by decide) (fun c202 => ?_) (fun c202 => ?_)
                      · refine lv_iload_n hx hb dX11_leans_242 rfl (lv_at hl 3 rfl) ?_
                        refine xi_zne (tgt := 251) hx hb (rfl : Int32.toInt p2 = p2.toInt) dX11_leans_243 (by decide) (fun c243 => ?_) (fun c243 => ?_)
                        · refine lv_iload hx hb dX11_leans_251 (lv_at hl 5 rfl) ?_
                          exact x_ri hx hb hr hlk hQ (Nat.le_of_ble_eq_true rfl) (Nat.le_of_ble_eq_true rfl) hS dX11_leans_253 G_91 ⟨_, rfl, (XFr.call (XFr.call (by rw [hG2]; exact XFr.dput XFr.rf (List.mem_of_getElem? (i := 0) rfl)) hF_32 xm0 (xm1 0 rfl xm0) xm0) hF_91 xm0 (xm1 0 rfl xm0) xm0)⟩ hT
                        · refine lv_iload hx hb dX11_leans_246 (lv_at hl 4 rfl) ?_
                          refine lv_goto (tgt := 253) hx hb dX11_leans_248 (by decide) ?_
                          exact x_ri hx hb hr hlk hQ (Nat.le_of_ble_eq_true rfl) (Nat.le_of_ble_eq_true rfl) hS dX11_leans_253 G_91 ⟨_, rfl, (XFr.call (XFr.call (by rw [hG2]; exact XFr.dput XFr.rf (List.mem_of_getElem? (i := 0) rfl)) hF_32 xm0 (xm1 0 rfl xm0) xm0) hF_91 xm0 (xm1 0 rfl xm0) xm0)⟩ hT
                      · refine lv_iload hx hb dX11_leans_205 (lv_at hl 5 rfl) ?_
                        refine lv_aload_n hx hb dX11_leans_207 rfl (lv_at hl 0 rfl) ?_
                        refine gX11_51 S hK hT ha kf_X11_130 dX11_leans_208 (fun _ _ => ?_)
                        refine lv_iload hx hb dX11_leans_211 (lv_at hl 6 rfl) ?_
                        refine al_3 S hK hT hk9999 ar_59 (by decide) (z_X11_leans_4 l7_198.toInt I198_0 c202) dX11_leans_213 (fun x213 hv213 o213 => ?_)
                        have hv213 : x213.toInt = (aI (G_91.2.1 (F a 51)) (l7_198.toInt)) := hv213.trans (by rw [(rfl : Int32.toInt l7_198 = l7_198.toInt)])
                        have J233 : ∀ (k_233 : Int32) (H : Heap) (locs : List Loc) (ls : Array Slot), TW E K F G_91 H → va_S (xA E) s.heap H locs → lv_has ls 8 [(0, .ref a), (1, .int p0), (2, .int p1), (3, .int p2), (4, .int l4_32), (7, .int l7_198)] → W p l e rm_X11_leans s m args below meth c H locs 0 0 Q (F0 m 233 ls [.int k_233, .int l6_198]) := by
                          intro k_233 H locs ls hT hS hl
                          refine xi_iadd hx hb (rfl : Int32.toInt l6_198 = l6_198.toInt) (rfl : Int32.toInt k_233 = k_233.toInt) dX11_leans_233 (fun x233 t233 => ?_)
                          refine lv_istore (lv' := [(6, .int x233), (0, .ref a), (1, .int p0), (2, .int p1), (3, .int p2), (4, .int l4_32), (7, .int l7_198)]) hx hb dX11_leans_234 hl (by decide) rfl (fun ls hl => ?_)
                          refine xi_iinc (n := 1) (lv' := fun z9 => [(7, .int z9), (6, .int x233), (0, .ref a), (1, .int p0), (2, .int p1), (3, .int p2), (4, .int l4_32)]) (k := 6) hx hb (rfl : Int32.toInt l7_198 = l7_198.toInt) (by decide) dX11_leans_236 hl rfl (by decide) (fun _ => rfl) (fun x236 ls t236 hl => ?_)
                          have e236 : x236.toInt = (l7_198.toInt + 1) := (z_X11_leans_5 l7_198.toInt x236.toInt I198_0 t236)
                          have hl : lv_has ls 8 [(7, .int x236), (6, .int x233), (0, .ref a), (1, .int p0), (2, .int p1), (3, .int p2), (4, .int l4_32)] := hl
                          refine lv_goto (tgt := 198) hx hb dX11_leans_239 (by decide) ?_
                          exact ih198 x233 x236 _ _ _ (by rw [(e236 : Int32.toInt x236 = (l7_198.toInt + 1))] <;> exact (z_X11_leans_6 l7_198.toInt I198_0 c202)) (by rw [(e236 : Int32.toInt x236 = (l7_198.toInt + 1))] <;> exact (z_X11_leans_7 l7_198.toInt N198 hm198)) hT hS (lv_sub hl [2, 3, 4, 5, 6, 1, 0] rfl)
                        have J232 : ∀ (H : Heap) (locs : List Loc) (ls : Array Slot), TW E K F G_91 H → va_S (xA E) s.heap H locs → lv_has ls 8 [(0, .ref a), (1, .int p0), (2, .int p1), (3, .int p2), (4, .int l4_32), (7, .int l7_198)] → W p l e rm_X11_leans s m args below meth c H locs 0 0 Q (F0 m 232 ls [.int l6_198]) := by
                          intro H locs ls hT hS hl
                          refine lv_iconst (v := 0) hx hb dX11_leans_232 (by decide) ?_
                          exact J233 0 _ _ _ hT hS (lv_sub hl [0, 1, 2, 3, 4, 5] rfl)
                        refine xi_zeq (tgt := 232) hx hb (hv213 : Int32.toInt x213 = (aI (G_91.2.1 (F a 51)) (l7_198.toInt))) dX11_leans_214 (by decide) (fun c214 => ?_) (fun c214 => ?_)
                        · exact J232 _ _ _ hT hS (lv_sub hl [0, 1, 2, 3, 4, 6] rfl)
                        · refine lv_iload hx hb dX11_leans_217 (lv_at hl 6 rfl) ?_
                          refine lv_bipush (v := 30) hx hb dX11_leans_219 (by decide) ?_
                          refine lv_iload_n hx hb dX11_leans_221 rfl (lv_at hl 1 rfl) ?_
                          refine xi_imul hx hb ((by decide) : Int32.toInt 30 = (30 : Int)) (rfl : Int32.toInt p0 = p0.toInt) dX11_leans_222 (fun x222 t222 => ?_)
                          refine lv_iload_n hx hb dX11_leans_223 rfl (lv_at hl 2 rfl) ?_
                          refine xi_iadd hx hb (rfl : Int32.toInt x222 = x222.toInt) (rfl : Int32.toInt p1 = p1.toInt) dX11_leans_224 (fun x224 t224 => ?_)
                          refine xi_ceq (tgt := 232) hx hb (rfl : Int32.toInt l7_198 = l7_198.toInt) (rfl : Int32.toInt x224 = x224.toInt) dX11_leans_225 (by decide) (fun c225 => ?_) (fun c225 => ?_)
                          · exact J232 _ _ _ hT hS (lv_sub hl [0, 1, 2, 3, 4, 6] rfl)
                          · refine lv_iconst (v := 1) hx hb dX11_leans_228 (by decide) ?_
                            refine lv_goto (tgt := 233) hx hb dX11_leans_229 (by decide) ?_
                            exact J233 1 _ _ _ hT hS (lv_sub hl [0, 1, 2, 3, 4, 6] rfl)
                  exact L198 4294967297 0 0 _ _ _ (by decide) (by decide) hT hS (lv_sub hl [2, 3, 4, 5, 6, 1, 0] rfl)
                · refine lv_iconst (v := 0) hx hb dX11_leans_96 (by decide) ?_
                  refine lv_istore (lv' := [(5, .int 0), (0, .ref a), (1, .int p0), (2, .int p1), (3, .int p2), (4, .int l4_32)]) hx hb dX11_leans_97 hl (by decide) rfl (fun ls hl => ?_)
                  refine lv_iconst (v := 0) hx hb dX11_leans_99 (by decide) ?_
                  refine lv_istore (lv' := [(6, .int 0), (5, .int 0), (0, .ref a), (1, .int p0), (2, .int p1), (3, .int p2), (4, .int l4_32)]) hx hb dX11_leans_100 hl (by decide) rfl (fun ls hl => ?_)
                  have L102 : ∀ (N102 : Nat) (l5_102 : Int32) (l6_102 : Int32) (G_102 : XG) (H : Heap) (locs : List Loc) (ls : Array Slot), XFr [] [F a 51] [] G_91 G_102 → 0 ≤ l6_102.toInt ∧ l6_102.toInt ≤ 90 → ((l5_102.toInt = 0 ∨ l5_102.toInt = 1) ∧ (czI (G_102.2.1 (F a 51))) ≤ (czI (G_91.2.1 (F a 51))) ∧ (l5_102.toInt = 1 → (czI (G_102.2.1 (F a 51))) + 1 ≤ (czI (G_91.2.1 (F a 51))))) → 100 - l6_102.toInt < ((N102 : Nat) : Int) → TW E K F G_102 H → va_S (xA E) s.heap H locs → lv_has ls 8 [(0, .ref a), (1, .int p0), (2, .int p1), (3, .int p2), (4, .int l4_32), (5, .int l5_102), (6, .int l6_102)] → W p l e rm_X11_leans s m args below meth c H locs 0 0 Q (F0 m 102 ls []) := by
                    intro N102
                    induction N102 with
                    | zero =>
                      intro l5_102 l6_102 G_102 H locs ls hF_102 I102_0 I102_1 hm102
                      exact absurd hm102 (z_X11_leans_8 l6_102.toInt I102_0)
                    | succ N102 ih102 =>
                      intro l5_102 l6_102 G_102 H locs ls hF_102 I102_0 I102_1 hm102 hT hS hl
                      refine lv_iload hx hb dX11_leans_102 (lv_at hl 6 rfl) ?_
                      refine lv_bipush (v := 90) hx hb dX11_leans_104 (by decide) ?_
                      refine xi_cge (tgt := 189) hx hb (rfl : Int32.toInt l6_102 = l6_102.toInt) ((by decide) : Int32.toInt 90 = (90 : Int)) dX11_leans_106 (by decide) (fun c106 => ?_) (fun c106 => ?_)
                      · have z189 : 0 ≤ (czI (G_102.2.1 (F a 51))) ∧ (czI (G_102.2.1 (F a 51))) ≤ 90 := czI_b _
                        refine lv_goto (tgt := 91) hx hb dX11_leans_189 (by decide) ?_
                        exact ih91 l5_102 G_102 _ _ _ (XFr.call (XFr.call XFr.rf hF_91 xm0 (xm1 0 rfl xm0) xm0) hF_102 xm0 (xm1 0 rfl xm0) xm0) (z_X11_leans_9 l5_102.toInt (I102_1).1) (z189) (z_X11_leans_11 l5_102.toInt l5_91.toInt N91 (czI (G_102.2.1 (F a 51))) (czI (G_91.2.1 (F a 51))) I91_0 hm91 c93 (I102_1).1 (I102_1).2.1 (I102_1).2.2) hT hS (lv_sub hl [0, 1, 2, 3, 4, 5] rfl)
                      · refine lv_iconst (v := 0) hx hb dX11_leans_109 (by decide) ?_
                        refine lv_istore (lv' := [(7, .int 0), (0, .ref a), (1, .int p0), (2, .int p1), (3, .int p2), (4, .int l4_32), (5, .int l5_102), (6, .int l6_102)]) hx hb dX11_leans_110 hl (by decide) rfl (fun ls hl => ?_)
                        have L112 : ∀ (N112 : Nat) (l5_112 : Int32) (l7_112 : Int32) (G_112 : XG) (H : Heap) (locs : List Loc) (ls : Array Slot), XFr [] [F a 51] [] G_102 G_112 → 0 ≤ l7_112.toInt ∧ l7_112.toInt ≤ 90 → ((l5_112.toInt = 0 ∨ l5_112.toInt = 1) ∧ (czI (G_112.2.1 (F a 51))) ≤ (czI (G_91.2.1 (F a 51))) ∧ (l5_112.toInt = 1 → (czI (G_112.2.1 (F a 51))) + 1 ≤ (czI (G_91.2.1 (F a 51))))) → 100 - l7_112.toInt < ((N112 : Nat) : Int) → TW E K F G_112 H → va_S (xA E) s.heap H locs → lv_has ls 8 [(0, .ref a), (1, .int p0), (2, .int p1), (3, .int p2), (4, .int l4_32), (5, .int l5_112), (6, .int l6_102), (7, .int l7_112)] → W p l e rm_X11_leans s m args below meth c H locs 0 0 Q (F0 m 112 ls []) := by
                          intro N112
                          induction N112 with
                          | zero =>
                            intro l5_112 l7_112 G_112 H locs ls hF_112 I112_0 I112_1 hm112
                            exact absurd hm112 (z_X11_leans_8 l7_112.toInt I112_0)
                          | succ N112 ih112 =>
                            intro l5_112 l7_112 G_112 H locs ls hF_112 I112_0 I112_1 hm112 hT hS hl
                            refine lv_iload hx hb dX11_leans_112 (lv_at hl 7 rfl) ?_
                            refine lv_bipush (v := 90) hx hb dX11_leans_114 (by decide) ?_
                            have J183 : ∀ (H : Heap) (locs : List Loc) (ls : Array Slot), ((l5_112.toInt = 0 ∨ l5_112.toInt = 1) ∧ (czI (G_112.2.1 (F a 51))) ≤ (czI (G_91.2.1 (F a 51))) ∧ (l5_112.toInt = 1 → (czI (G_112.2.1 (F a 51))) + 1 ≤ (czI (G_91.2.1 (F a 51))))) → TW E K F G_112 H → va_S (xA E) s.heap H locs → lv_has ls 8 [(0, .ref a), (1, .int p0), (2, .int p1), (3, .int p2), (4, .int l4_32), (5, .int l5_112), (6, .int l6_102)] → W p l e rm_X11_leans s m args below meth c H locs 0 0 Q (F0 m 183 ls []) := by
                              intro H locs ls I183_0 hT hS hl
                              refine xi_iinc (n := 1) (lv' := fun z9 => [(6, .int z9), (0, .ref a), (1, .int p0), (2, .int p1), (3, .int p2), (4, .int l4_32), (5, .int l5_112)]) (k := 6) hx hb (rfl : Int32.toInt l6_102 = l6_102.toInt) (by decide) dX11_leans_183 hl rfl (by decide) (fun _ => rfl) (fun x183 ls t183 hl => ?_)
                              have e183 : x183.toInt = (l6_102.toInt + 1) := (z_X11_leans_5 l6_102.toInt x183.toInt I102_0 t183)
                              have hl : lv_has ls 8 [(6, .int x183), (0, .ref a), (1, .int p0), (2, .int p1), (3, .int p2), (4, .int l4_32), (5, .int l5_112)] := hl
                              refine lv_goto (tgt := 102) hx hb dX11_leans_186 (by decide) ?_
                              exact ih102 l5_112 x183 G_112 _ _ _ (XFr.call (XFr.call XFr.rf hF_102 xm0 (xm1 0 rfl xm0) xm0) hF_112 xm0 (xm1 0 rfl xm0) xm0) (by rw [(e183 : Int32.toInt x183 = (l6_102.toInt + 1))] <;> exact (z_X11_leans_6 l6_102.toInt I102_0 c106)) (z_X11_leans_15 l5_112.toInt (czI (G_112.2.1 (F a 51))) (czI (G_91.2.1 (F a 51))) (I112_1).1 (I112_1).2.1 (I112_1).2.2) (by rw [(e183 : Int32.toInt x183 = (l6_102.toInt + 1))] <;> exact (z_X11_leans_16 l6_102.toInt N102 hm102)) hT hS (lv_sub hl [1, 2, 3, 4, 5, 6, 0] rfl)
                            refine xi_cge (tgt := 183) hx hb (rfl : Int32.toInt l7_112 = l7_112.toInt) ((by decide) : Int32.toInt 90 = (90 : Int)) dX11_leans_116 (by decide) (fun c116 => ?_) (fun c116 => ?_)
                            · exact J183 _ _ _ (z_X11_leans_15 l5_112.toInt (czI (G_112.2.1 (F a 51))) (czI (G_91.2.1 (F a 51))) (I112_1).1 (I112_1).2.1 (I112_1).2.2) hT hS (lv_sub hl [0, 1, 2, 3, 4, 5, 6] rfl)
                            · refine lv_aload_n hx hb dX11_leans_119 rfl (lv_at hl 0 rfl) ?_
                              refine gX11_51 S hK hT ha kf_X11_130 dX11_leans_120 (fun _ _ => ?_)
                              refine lv_iload hx hb dX11_leans_123 (lv_at hl 6 rfl) ?_
                              refine al_3 S hK hT hk9999 ar_59 (by decide) (z_X11_leans_4 l6_102.toInt I102_0 c106) dX11_leans_125 (fun x125 hv125 o125 => ?_)
                              have hv125 : x125.toInt = (aI (G_112.2.1 (F a 51)) (l6_102.toInt)) := hv125.trans (by rw [(rfl : Int32.toInt l6_102 = l6_102.toInt)])
                              refine xi_zne (tgt := 183) hx hb (hv125 : Int32.toInt x125 = (aI (G_112.2.1 (F a 51)) (l6_102.toInt))) dX11_leans_126 (by decide) (fun c126 => ?_) (fun c126 => ?_)
                              · exact J183 _ _ _ (z_X11_leans_15 l5_112.toInt (czI (G_112.2.1 (F a 51))) (czI (G_91.2.1 (F a 51))) (I112_1).1 (I112_1).2.1 (I112_1).2.2) hT hS (lv_sub hl [0, 1, 2, 3, 4, 5, 6] rfl)
                              · refine lv_aload_n hx hb dX11_leans_129 rfl (lv_at hl 0 rfl) ?_
                                refine gX11_51 S hK hT ha kf_X11_130 dX11_leans_130 (fun _ _ => ?_)
                                refine lv_iload hx hb dX11_leans_133 (lv_at hl 7 rfl) ?_
                                refine al_3 S hK hT hk9999 ar_59 (by decide) (z_X11_leans_4 l7_112.toInt I112_0 c116) dX11_leans_135 (fun x135 hv135 o135 => ?_)
                                have hv135 : x135.toInt = (aI (G_112.2.1 (F a 51)) (l7_112.toInt)) := hv135.trans (by rw [(rfl : Int32.toInt l7_112 = l7_112.toInt)])
                                have J177 : ∀ (l5_177 : Int32) (G_177 : XG) (H : Heap) (locs : List Loc) (ls : Array Slot), XFr [] [F a 51] [] G_112 G_177 → ((l5_177.toInt = 0 ∨ l5_177.toInt = 1) ∧ (czI (G_177.2.1 (F a 51))) ≤ (czI (G_91.2.1 (F a 51))) ∧ (l5_177.toInt = 1 → (czI (G_177.2.1 (F a 51))) + 1 ≤ (czI (G_91.2.1 (F a 51))))) → TW E K F G_177 H → va_S (xA E) s.heap H locs → lv_has ls 8 [(0, .ref a), (1, .int p0), (2, .int p1), (3, .int p2), (4, .int l4_32), (5, .int l5_177), (6, .int l6_102), (7, .int l7_112)] → W p l e rm_X11_leans s m args below meth c H locs 0 0 Q (F0 m 177 ls []) := by
                                  intro l5_177 G_177 H locs ls hF_177 I177_0 hT hS hl
                                  refine xi_iinc (n := 1) (lv' := fun z9 => [(7, .int z9), (0, .ref a), (1, .int p0), (2, .int p1), (3, .int p2), (4, .int l4_32), (5, .int l5_177), (6, .int l6_102)]) (k := 7) hx hb (rfl : Int32.toInt l7_112 = l7_112.toInt) (by decide) dX11_leans_177 hl rfl (by decide) (fun _ => rfl) (fun x177 ls t177 hl => ?_)
                                  have e177 : x177.toInt = (l7_112.toInt + 1) := (z_X11_leans_5 l7_112.toInt x177.toInt I112_0 t177)
                                  have hl : lv_has ls 8 [(7, .int x177), (0, .ref a), (1, .int p0), (2, .int p1), (3, .int p2), (4, .int l4_32), (5, .int l5_177), (6, .int l6_102)] := hl
                                  refine lv_goto (tgt := 112) hx hb dX11_leans_180 (by decide) ?_
                                  exact ih112 l5_177 x177 G_177 _ _ _ (XFr.call (XFr.call XFr.rf hF_112 xm0 (xm1 0 rfl xm0) xm0) hF_177 xm0 (xm1 0 rfl xm0) xm0) (by rw [(e177 : Int32.toInt x177 = (l7_112.toInt + 1))] <;> exact (z_X11_leans_6 l7_112.toInt I112_0 c116)) (z_X11_leans_15 l5_177.toInt (czI (G_177.2.1 (F a 51))) (czI (G_91.2.1 (F a 51))) (I177_0).1 (I177_0).2.1 (I177_0).2.2) (by rw [(e177 : Int32.toInt x177 = (l7_112.toInt + 1))] <;> exact (z_X11_leans_16 l7_112.toInt N112 hm112)) hT hS (lv_sub hl [1, 2, 3, 4, 5, 6, 7, 0] rfl)
                                refine xi_zeq (tgt := 177) hx hb (hv135 : Int32.toInt x135 = (aI (G_112.2.1 (F a 51)) (l7_112.toInt))) dX11_leans_136 (by decide) (fun c136 => ?_) (fun c136 => ?_)
                                · exact J177 l5_112 G_112 _ _ _ XFr.rf (z_X11_leans_15 l5_112.toInt (czI (G_112.2.1 (F a 51))) (czI (G_91.2.1 (F a 51))) (I112_1).1 (I112_1).2.1 (I112_1).2.2) hT hS (lv_sub hl [0, 1, 2, 3, 4, 5, 6, 7] rfl)
                                · refine lv_aload_n hx hb dX11_leans_139 rfl (lv_at hl 0 rfl) ?_
                                  refine lv_iload hx hb dX11_leans_140 (lv_at hl 6 rfl) ?_
                                  refine lv_bipush (v := 30) hx hb dX11_leans_142 (by decide) ?_
                                  refine xi_idiv hx hb (rfl : Int32.toInt l6_102 = l6_102.toInt) ((by decide) : Int32.toInt 30 = (30 : Int)) (by decide) dX11_leans_144 (fun x144 t144 => ?_)
                                  refine lv_iload hx hb dX11_leans_145 (lv_at hl 6 rfl) ?_
                                  refine lv_bipush (v := 30) hx hb dX11_leans_147 (by decide) ?_
                                  refine xi_irem hx hb (rfl : Int32.toInt l6_102 = l6_102.toInt) ((by decide) : Int32.toInt 30 = (30 : Int)) (by decide) dX11_leans_149 (fun x149 t149 => ?_)
                                  refine lv_iload hx hb dX11_leans_150 (lv_at hl 7 rfl) ?_
                                  refine lv_bipush (v := 30) hx hb dX11_leans_152 (by decide) ?_
                                  refine xi_idiv hx hb (rfl : Int32.toInt l7_112 = l7_112.toInt) ((by decide) : Int32.toInt 30 = (30 : Int)) (by decide) dX11_leans_154 (fun x154 t154 => ?_)
                                  refine lv_iload hx hb dX11_leans_155 (lv_at hl 7 rfl) ?_
                                  refine lv_bipush (v := 30) hx hb dX11_leans_157 (by decide) ?_
                                  refine xi_irem hx hb (rfl : Int32.toInt l7_112 = l7_112.toInt) ((by decide) : Int32.toInt 30 = (30 : Int)) (by decide) dX11_leans_159 (fun x159 t159 => ?_)
                                  refine x_clp (x_runV (b := a) (As := [.int x144, .int x149, .int x154, .int x159]) (rest := []) S (c_X11_leansOn l E K F G_112 H a x144 x149 x154 x159 ha (z_X11_leans_26 l6_102.toInt x144.toInt x149.toInt I102_0 c106 t144 t149) (v_X11_leans_160_2 (F := F) a G G_112 hR ((hF_112.2.1 _ (xn1 (xne_k hk9999a hk9999 (by decide)) xn0)).trans ((hF_102.2.1 _ (xn1 (xne_k hk9999a hk9999 (by decide)) xn0)).trans ((hF_91.2.1 _ (xn1 (xne_k hk9999a hk9999 (by decide)) xn0)).trans ((hF_32.2.1 _ (xn1 (xne_k hk9999a hk9999 (by decide)) xn0)).trans (ld_c hG2)))))) (v_X11_leans_160_3 (F := F) a G G_112 hM ((hF_112.2.1 _ (xn1 (xne_k hk9999b hk9999 (by decide)) xn0)).trans ((hF_102.2.1 _ (xn1 (xne_k hk9999b hk9999 (by decide)) xn0)).trans ((hF_91.2.1 _ (xn1 (xne_k hk9999b hk9999 (by decide)) xn0)).trans ((hF_32.2.1 _ (xn1 (xne_k hk9999b hk9999 (by decide)) xn0)).trans (ld_c hG2))))))) mv_X11_leansOn km_X11_392 rfl rfl ⟨Nat.le_of_ble_eq_true rfl, Nat.le_of_ble_eq_true rfl⟩ (rc_13 hK hT ha) hK (fun _ => XPh.blind) (fun U hU hW => XPh.at hK hz hS hT hU hW) rfl hl.1 (Nat.le_of_ble_eq_true rfl) dX11_leans_160 ⟨Nat.le_of_ble_eq_true rfl, Nat.le_of_ble_eq_true rfl⟩) hS ?_
                                  rintro _ _ locs ⟨x160, rfl, b160⟩ hS
                                  refine xi_zeq (tgt := 177) hx hb (rfl : Int32.toInt x160 = x160.toInt) dX11_leans_163 (by decide) (fun c163 => ?_) (fun c163 => ?_)
                                  · exact J177 l5_112 G_112 _ _ _ XFr.rf (z_X11_leans_15 l5_112.toInt (czI (G_112.2.1 (F a 51))) (czI (G_91.2.1 (F a 51))) (I112_1).1 (I112_1).2.1 (I112_1).2.2) hT hS (lv_sub hl [0, 1, 2, 3, 4, 5, 6, 7] rfl)
                                  · refine lv_aload_n hx hb dX11_leans_166 rfl (lv_at hl 0 rfl) ?_
                                    refine gX11_51 S hK hT ha kf_X11_130 dX11_leans_167 (fun _ _ => ?_)
                                    refine lv_iload hx hb dX11_leans_170 (lv_at hl 6 rfl) ?_
                                    refine lv_iconst (v := 1) hx hb dX11_leans_172 (by decide) ?_
                                    refine as_3 (x := 1) S hK hT hS hk9999 ar_59 aw_59 (by decide) (z_X11_leans_4 l6_102.toInt I102_0 c106) dX11_leans_173 (fun H locs hT hS => ?_)
                                    rw [(xnar3 (Or.inr rfl))] at hT
                                    obtain ⟨G173, hG173⟩ : ∃ GG : XG, GG = cput G_112 (F a 51) l6_102.toNatClampNeg 1 := ⟨_, rfl⟩
                                    rw [← hG173] at hT
                                    have cz173 : (czI (G173.2.1 (F a 51))) + 1 = (czI (G_112.2.1 (F a 51))) := (v_X11_leans_174_4 (F := F) G173 G_112 a l6_102 x125 hG173 hv125 I102_0 c106 c126)
                                    refine lv_iconst (v := 1) hx hb dX11_leans_174 (by decide) ?_
                                    refine lv_istore (lv' := [(5, .int 1), (0, .ref a), (1, .int p0), (2, .int p1), (3, .int p2), (4, .int l4_32), (6, .int l6_102), (7, .int l7_112)]) hx hb dX11_leans_175 hl (by decide) rfl (fun ls hl => ?_)
                                    exact J177 1 G173 _ _ _ (by rw [hG173]; exact XFr.cput XFr.rf (List.mem_of_getElem? (i := 0) rfl)) (z_X11_leans_29 (czI (G173.2.1 (F a 51))) (czI (G_112.2.1 (F a 51))) (czI (G_91.2.1 (F a 51))) (I112_1).2.1 cz173) hT hS (lv_sub hl [1, 2, 3, 4, 5, 0, 6, 7] rfl)
                        exact L112 4294967297 l5_102 0 G_102 _ _ _ XFr.rf (by decide) (z_X11_leans_15 l5_102.toInt (czI (G_102.2.1 (F a 51))) (czI (G_91.2.1 (F a 51))) (I102_1).1 (I102_1).2.1 (I102_1).2.2) (by decide) hT hS (lv_sub hl [1, 2, 3, 4, 5, 6, 7, 0] rfl)
                  exact L102 4294967297 0 0 G_91 _ _ _ XFr.rf (by decide) (z_X11_leans_31 (czI (G_91.2.1 (F a 51)))) (by decide) hT hS (lv_sub hl [2, 3, 4, 5, 6, 1, 0] rfl)
            exact L91 4294967297 1 G_32 _ _ _ XFr.rf (by decide) (z88) (z_X11_leans_33 (czI (G_32.2.1 (F a 51))) z88) hT hS (lv_sub hl [1, 2, 3, 4, 5, 0] rfl)
          · refine lv_aload_n hx hb dX11_leans_39 rfl (lv_at hl 0 rfl) ?_
            refine gX11_51 S hK hT ha kf_X11_130 dX11_leans_40 (fun _ _ => ?_)
            refine lv_iload hx hb dX11_leans_43 (lv_at hl 5 rfl) ?_
            refine lv_aload_n hx hb dX11_leans_45 rfl (lv_at hl 0 rfl) ?_
            refine lv_iload hx hb dX11_leans_46 (lv_at hl 5 rfl) ?_
            refine lv_bipush (v := 30) hx hb dX11_leans_48 (by decide) ?_
            refine xi_idiv hx hb (rfl : Int32.toInt l5_32 = l5_32.toInt) ((by decide) : Int32.toInt 30 = (30 : Int)) (by decide) dX11_leans_50 (fun x50 t50 => ?_)
            refine lv_iload hx hb dX11_leans_51 (lv_at hl 5 rfl) ?_
            refine lv_bipush (v := 30) hx hb dX11_leans_53 (by decide) ?_
            refine xi_irem hx hb (rfl : Int32.toInt l5_32 = l5_32.toInt) ((by decide) : Int32.toInt 30 = (30 : Int)) (by decide) dX11_leans_55 (fun x55 t55 => ?_)
            refine lv_iload_n hx hb dX11_leans_56 rfl (lv_at hl 1 rfl) ?_
            refine lv_iload_n hx hb dX11_leans_57 rfl (lv_at hl 2 rfl) ?_
            refine x_clp (x_runV (b := a) (As := [.int x50, .int x55, .int p0, .int p1]) (rest := [.int l5_32, .ref (F a 51)]) S (c_X11_leansOn l E K F G_32 H a x50 x55 p0 p1 ha (z_X11_leans_26 l5_32.toInt x50.toInt x55.toInt I32_0 c36 t50 t55) (v_X11_leans_58_5 (F := F) a G G_32 hR ((hF_32.2.1 _ (xn1 (xne_k hk9999a hk9999 (by decide)) xn0)).trans (ld_c hG2))) (v_X11_leans_58_6 (F := F) a G G_32 hM ((hF_32.2.1 _ (xn1 (xne_k hk9999b hk9999 (by decide)) xn0)).trans (ld_c hG2)))) mv_X11_leansOn km_X11_392 rfl rfl ⟨Nat.le_of_ble_eq_true rfl, Nat.le_of_ble_eq_true rfl⟩ (rc_13 hK hT ha) hK (fun _ => XPh.blind) (fun U hU hW => XPh.at hK hz hS hT hU hW) rfl hl.1 (Nat.le_of_ble_eq_true rfl) dX11_leans_58 ⟨Nat.le_of_ble_eq_true rfl, Nat.le_of_ble_eq_true rfl⟩) hS ?_
            rintro _ _ locs ⟨x58, rfl, b58⟩ hS
            refine as_3 (x := x58) S hK hT hS hk9999 ar_59 aw_59 (by decide) (z_X11_leans_4 l5_32.toInt I32_0 c36) dX11_leans_61 (fun H locs hT hS => ?_)
            rw [(xnar3 b58)] at hT
            obtain ⟨G61, hG61⟩ : ∃ GG : XG, GG = cput G_32 (F a 51) l5_32.toNatClampNeg x58 := ⟨_, rfl⟩
            rw [← hG61] at hT
            refine lv_iload hx hb dX11_leans_62 (lv_at hl 4 rfl) ?_
            refine lv_aload_n hx hb dX11_leans_64 rfl (lv_at hl 0 rfl) ?_
            refine gX11_51 S hK hT ha kf_X11_130 dX11_leans_65 (fun _ _ => ?_)
            refine lv_iload hx hb dX11_leans_68 (lv_at hl 5 rfl) ?_
            refine al_3 S hK hT hk9999 ar_59 (by decide) (z_X11_leans_4 l5_32.toInt I32_0 c36) dX11_leans_70 (fun x70 hv70 o70 => ?_)
            have hv70 : x70.toInt = (aI (G61.2.1 (F a 51)) (l5_32.toInt)) := hv70.trans (by rw [(rfl : Int32.toInt l5_32 = l5_32.toInt)])
            have hc70 : (l5_32.toInt = l5_32.toInt → (aI (G61.2.1 (F a 51)) (l5_32.toInt)) = x58.toInt) ∧ (l5_32.toInt ≠ l5_32.toInt → (aI (G61.2.1 (F a 51)) (l5_32.toInt)) = (aI (G_32.2.1 (F a 51)) (l5_32.toInt))) := xlk hG61 rfl (rfl : Int32.toInt l5_32 = l5_32.toInt) (rfl : Int32.toInt x58 = x58.toInt) (z_X11_leans_37 l5_32.toInt I32_0) (z_X11_leans_37 l5_32.toInt I32_0)
            have J79 : ∀ (k_79 : Int32) (H : Heap) (locs : List Loc) (ls : Array Slot), TW E K F G61 H → va_S (xA E) s.heap H locs → lv_has ls 8 [(0, .ref a), (1, .int p0), (2, .int p1), (3, .int p2), (5, .int l5_32)] → W p l e rm_X11_leans s m args below meth c H locs 0 0 Q (F0 m 79 ls [.int k_79, .int l4_32]) := by
              intro k_79 H locs ls hT hS hl
              refine xi_iadd hx hb (rfl : Int32.toInt l4_32 = l4_32.toInt) (rfl : Int32.toInt k_79 = k_79.toInt) dX11_leans_79 (fun x79 t79 => ?_)
              refine lv_istore (lv' := [(4, .int x79), (0, .ref a), (1, .int p0), (2, .int p1), (3, .int p2), (5, .int l5_32)]) hx hb dX11_leans_80 hl (by decide) rfl (fun ls hl => ?_)
              refine xi_iinc (n := 1) (lv' := fun z9 => [(5, .int z9), (4, .int x79), (0, .ref a), (1, .int p0), (2, .int p1), (3, .int p2)]) (k := 5) hx hb (rfl : Int32.toInt l5_32 = l5_32.toInt) (by decide) dX11_leans_82 hl rfl (by decide) (fun _ => rfl) (fun x82 ls t82 hl => ?_)
              have e82 : x82.toInt = (l5_32.toInt + 1) := (z_X11_leans_5 l5_32.toInt x82.toInt I32_0 t82)
              have hl : lv_has ls 8 [(5, .int x82), (4, .int x79), (0, .ref a), (1, .int p0), (2, .int p1), (3, .int p2)] := hl
              refine lv_goto (tgt := 32) hx hb dX11_leans_85 (by decide) ?_
              exact ih32 x79 x82 G61 _ _ _ (by rw [hG61]; exact XFr.cput (XFr.call XFr.rf hF_32 xm0 (xm1 0 rfl xm0) xm0) (List.mem_of_getElem? (i := 0) rfl)) (by rw [(e82 : Int32.toInt x82 = (l5_32.toInt + 1))] <;> exact (z_X11_leans_6 l5_32.toInt I32_0 c36)) (by rw [(e82 : Int32.toInt x82 = (l5_32.toInt + 1))] <;> exact (z_X11_leans_7 l5_32.toInt N32 hm32)) hT hS (lv_sub hl [2, 3, 4, 5, 1, 0] rfl)
            refine xi_zeq (tgt := 78) hx hb (hv70 : Int32.toInt x70 = (aI (G61.2.1 (F a 51)) (l5_32.toInt))) dX11_leans_71 (by decide) (fun c71 => ?_) (fun c71 => ?_)
            · refine lv_iconst (v := 0) hx hb dX11_leans_78 (by decide) ?_
              exact J79 0 _ _ _ hT hS (lv_sub hl [0, 1, 2, 3, 5] rfl)
            · refine lv_iconst (v := 1) hx hb dX11_leans_74 (by decide) ?_
              refine lv_goto (tgt := 79) hx hb dX11_leans_75 (by decide) ?_
              exact J79 1 _ _ _ hT hS (lv_sub hl [0, 1, 2, 3, 5] rfl)
      exact L32 4294967297 0 0 G2 _ _ _ XFr.rf (by decide) (by decide) hT hS (lv_sub hl [2, 3, 4, 5, 1, 0] rfl)
    · refine lv_iconst (v := (-1)) hx hb dX11_leans_24 (by decide) ?_
      exact x_ri hx hb hr hlk hQ (Nat.le_of_ble_eq_true rfl) (Nat.le_of_ble_eq_true rfl) hS dX11_leans_25 G2 ⟨_, rfl, (by rw [hG2]; exact XFr.dput XFr.rf (List.mem_of_getElem? (i := 0) rfl))⟩ hT

theorem z_X11_least_1 (a0 : Int) (h0 : -99 ≤ a0 ∧ a0 ≤ 100) : ¬ (200 - a0 < ((0 : Nat) : Int)) := by omega
theorem z_X11_least_2 (a0 : Int) (a1 : Int) (a2 : Int) (a3 : Int) (a4 : Int) (a5 : Int) (a6 : Int) (a7 : Int) (a8 : Int) (h0 : ¬ (0 ≤ a0 ∧ a0 < 3 ∧ 0 ≤ a1 ∧ a1 < 30) → a8 = -2000) (h1 : (a7 = 1 ∧ a8 ≠ -2000) ∨ (a7 = 0 ∧ a8 = -2000)) (h2 : ¬ (a7 = 0)) (h3 : (a3 = 1 ∧ 0 ≤ a2 ∧ a2 ≤ 2) ∨ (a3 = 0 ∧ (a2 < 0 ∨ 2 < a2))) (h4 : a3 ≠ 0) (h5 : 0 ≤ a0 ∧ a0 ≤ 2 ∧ 0 ≤ a1 ∧ a1 ≤ 29 → a4 = 4 * (30 * a0 + a1)) (h6 : a5 = a4 + (1 : Int) ∨ a4 + (1 : Int) < -2147483648 ∨ 2147483648 ≤ a4 + (1 : Int)) (h7 : a6 = a5 + a2 ∨ a5 + a2 < -2147483648 ∨ 2147483648 ≤ a5 + a2) : 0 ≤ a6 ∧ a6 < ((360 : Nat) : Int) := by omega
theorem z_X11_least_7 (a0 : Int) (a1 : Int) (h0 : -99 ≤ a0 ∧ a0 ≤ 100) (h1 : a1 = (a0 + 1) ∨ (a0 + 1) < -2147483648 ∨ 2147483648 ≤ (a0 + 1)) : a1 = (a0 + 1) := by omega
theorem z_X11_least_8 (a0 : Int) (h0 : -99 ≤ a0 ∧ a0 ≤ 100) (h1 : ¬ ((99 : Int) < a0)) : -99 ≤ (a0 + 1) ∧ (a0 + 1) ≤ 100 := by omega
theorem z_X11_least_9 (a0 : Int) (a1 : Nat) (h0 : 200 - a0 < ((a1 + 1 : Nat) : Int)) : 200 - (a0 + 1) < ((a1 : Nat) : Int) := by omega
abbrev rm_X11_least : Room := { frames := 6, cells := 0, slots := 0, locals := 146 }
set_option maxHeartbeats 4000000 in
set_option maxRecDepth 100000 in
theorem c_X11_least (l : Launch) (E : XE) (K : Nat → Nat) (F : Nat → Nat → Nat) (G : XG) (a : Nat) (p0 : Int32) (p1 : Int32) (p2 : Int32) (ha : K a = 13) (hR : RV (G.2.1 (F a 10))) (hM : RM (G.2.1 (F a 1)) (0)) : Met l yX11_least (xw yX11_least cX11_least 7 (some .int)) rm_X11_least (va_Pc [.ref a, .int p0, .int p1, .int p2] (XP E K F G)) (XQ E (fun v (u : XG) => ∃ r : Int32, v = .int r ∧ XFr [(a, 0), (a, 16), (a, 19)] [F a 15, F a 17, F a 18, F a 11, F a 1, F a 4, F a 12] [] G u ∧ (mw (u.2.1 (F a 1)) 0 = mw (G.2.1 (F a 1)) 0) ∧ (RM (u.2.1 (F a 1)) 0) ∧ ((¬ (cel (mw (G.2.1 (F a 1)) 0) p0.toInt p1.toInt 0 ≠ -2000 ∧ 0 ≤ p2.toInt ∧ p2.toInt < 3) ∧ r.toInt = -2147483648) ∨ ((cel (mw (G.2.1 (F a 1)) 0) p0.toInt p1.toInt 0 ≠ -2000 ∧ 0 ≤ p2.toInt ∧ p2.toInt < 3) ∧ LsS (fun v => ffP (G.2.1 (F a 10)) (rset (mw (G.2.1 (F a 1)) 0) (90 * p0.toInt + 30 * p2.toInt + p1.toInt) v) (fuO (G.2.1 (F a 10)) (mw (G.2.1 (F a 1)) 0) (rset (mw (G.2.1 (F a 1)) 0) (90 * p0.toInt + 30 * p2.toInt + p1.toInt) v) 2) = -1) (cel (mw (G.2.1 (F a 1)) 0) p0.toInt p1.toInt p2.toInt) r.toInt))) (fun u H => TW E K F u H)) 0 0 (xA E) := by
  refine x_enter (by decide) (Nat.le_of_ble_eq_true rfl) ?_
  intro p e s m args below meth c Q S hr hlk hnm hQ hP ls hl
  obtain ⟨hz, hK, hT⟩ := hP
  obtain ⟨hx, hb, -, -, -⟩ := id S
  obtain ⟨H, hT, hS, hgo⟩ : ∃ H : Heap, TW E K F G H ∧ va_S (xA E) s.heap H [] ∧ H = s.heap := ⟨_, hT, va_S.rf, rfl⟩
  rw [← hgo]
  have hl : lv_has ls 7 [(0, .ref a), (1, .int p0), (2, .int p1), (3, .int p2)] := hl
  obtain ⟨hk9999, hj9999⟩ := fkX11_15 hT ha
  obtain ⟨hk9999a, hj9999a⟩ := fkX11_17 hT ha
  obtain ⟨hk9999b, hj9999b⟩ := fkX11_18 hT ha
  obtain ⟨hk9999c, hj9999c⟩ := fkX11_11 hT ha
  obtain ⟨hk9999d, hj9999d⟩ := fkX11_1 hT ha
  obtain ⟨hk9999e, hj9999e⟩ := fkX11_4 hT ha
  obtain ⟨hk9999f, hj9999f⟩ := fkX11_12 hT ha
  obtain ⟨hk9999g, hj9999g⟩ := fkX11_10 hT ha
  refine lv_aload_n hx hb dX11_least_0 rfl (lv_at hl 0 rfl) ?_
  refine lv_iconst (v := 0) hx hb dX11_least_1 (by decide) ?_
  refine pX11_0 (v := 0) S hK hT hS ha kf_X11_134 dX11_least_2 (fun H locs hT hS => ?_)
  obtain ⟨G2, hG2⟩ : ∃ GG : XG, GG = dput G a 0 0 := ⟨_, rfl⟩
  rw [← hG2] at hT
  have z5 : ¬ (0 ≤ p0.toInt ∧ p0.toInt < 3 ∧ 0 ≤ p1.toInt ∧ p1.toInt < 30) → (cel (mw (G.2.1 (F a 1)) 0) (p0.toInt) (p1.toInt) 0) = -2000 := fun h9 => cel_out (by omega)
  refine lv_aload_n hx hb dX11_least_5 rfl (lv_at hl 0 rfl) ?_
  refine lv_iload_n hx hb dX11_least_6 rfl (lv_at hl 1 rfl) ?_
  refine lv_iload_n hx hb dX11_least_7 rfl (lv_at hl 2 rfl) ?_
  refine x_clp (x_runV (b := a) (As := [.int p0, .int p1]) (rest := []) S (c_X11_isRow l E K F G2 H a p0 p1 ha (v_X11_least_8_1 (F := F) a G2 G hM (ld_c hG2))) mv_X11_isRow km_X11_346 rfl rfl ⟨Nat.le_of_ble_eq_true rfl, Nat.le_of_ble_eq_true rfl⟩ (rc_13 hK hT ha) hK (fun _ => XPh.blind) (fun U hU hW => XPh.at hK hz hS hT hU hW) rfl hl.1 (Nat.le_of_ble_eq_true rfl) dX11_least_8 ⟨Nat.le_of_ble_eq_true rfl, Nat.le_of_ble_eq_true rfl⟩) hS ?_
  rintro _ _ locs ⟨x8, rfl, b8, t8⟩ hS
  have t8 : (x8.toInt = 1 ∧ (cel (mw (G.2.1 (F a 1)) 0) (p0.toInt) (p1.toInt) 0) ≠ -2000) ∨ (x8.toInt = 0 ∧ (cel (mw (G.2.1 (F a 1)) 0) (p0.toInt) (p1.toInt) 0) = -2000) := by rw [(show G2.2.1 (F a 1) = G.2.1 (F a 1) from (ld_c hG2))] at t8; exact t8
  refine xi_zeq (tgt := 21) hx hb (rfl : Int32.toInt x8 = x8.toInt) dX11_least_11 (by decide) (fun c11 => ?_) (fun c11 => ?_)
  · refine lv_ldc (v := (-2147483648)) hx hb S.2.2.2.1 (S.2.2.2.2 _ (List.mem_cons_of_mem _ kc_X11_57)) dX11_least_21 ?_
    exact x_ri hx hb hr hlk hQ (Nat.le_of_ble_eq_true rfl) (Nat.le_of_ble_eq_true rfl) hS dX11_least_23 G2 ⟨_, rfl, (by rw [hG2]; exact XFr.dput XFr.rf (List.mem_of_getElem? (i := 0) rfl)), (v_X11_least_23_2 (F := F) G2 a G (ld_c hG2)), (v_X11_least_23_3 (F := F) G a G2 hM (ld_c hG2)), (by rw [((by decide) : Int32.toInt (-2147483648) = (-2147483648 : Int))] <;> exact (v_X11_least_23_4 (K := K) (F := F) a G p0 p1 x8 p2 ha z5 t8 c11))⟩ hT
  · refine lv_iload_n hx hb dX11_least_14 rfl (lv_at hl 3 rfl) ?_
    refine x_clp (x_runS (As := [.int p2]) (rest := []) S (c_X11_isColumn l E K F G2 H p2) ms_X11_isColumn km_X11_356 rfl rfl ⟨Nat.le_of_ble_eq_true rfl, Nat.le_of_ble_eq_true rfl⟩ hK (fun _ => XPh.blind) (fun U hU hW => XPh.at hK hz hS hT hU hW) rfl hl.1 (Nat.le_of_ble_eq_true rfl) dX11_least_15 ⟨Nat.le_of_ble_eq_true rfl, Nat.le_of_ble_eq_true rfl⟩) hS ?_
    rintro _ _ locs ⟨x15, rfl, b15, t15⟩ hS
    have t15 : (x15.toInt = 1 ∧ 0 ≤ p2.toInt ∧ p2.toInt ≤ 2) ∨ (x15.toInt = 0 ∧ (p2.toInt < 0 ∨ 2 < p2.toInt)) := t15
    refine xi_zne (tgt := 24) hx hb (rfl : Int32.toInt x15 = x15.toInt) dX11_least_18 (by decide) (fun c18 => ?_) (fun c18 => ?_)
    · refine lv_aload_n hx hb dX11_least_24 rfl (lv_at hl 0 rfl) ?_
      refine x_cv0 (x_runV (b := a) (As := []) (rest := []) S (c_X11_start l E K F G2 a ha (v_X11_least_25_5 (F := F) a G2 G hR (ld_c hG2)) (v_X11_least_25_6 (F := F) a G2 G hM (ld_c hG2))) mv_X11_start km_X11_350 rfl rfl ⟨Nat.le_of_ble_eq_true rfl, Nat.le_of_ble_eq_true rfl⟩ (rc_13 hK hT ha) hK (fun _ => XP.blind) (fun U hU hW => XP.at hK hz hS hT hU hW) rfl hl.1 (Nat.le_of_ble_eq_true rfl) dX11_least_25 ⟨Nat.le_of_ble_eq_true rfl, Nat.le_of_ble_eq_true rfl⟩) hS ?_
      rintro G25 H locs ⟨hF25, oq25, oq25a, oq25b⟩ hT hS
      have oq25 : mw (G25.2.1 (F a 4)) 0 = mw (G.2.1 (F a 1)) 0 := by simp only [(show G2.2.1 (F a 1) = G.2.1 (F a 1) from (ld_c hG2))] at oq25; exact oq25
      have oq25b : LSt (G.2.1 (F a 10)) (G25.2.1 (F a 12)) (mw (G.2.1 (F a 1)) 0) 12 := by simp only [(show G2.2.1 (F a 10) = G.2.1 (F a 10) from (ld_c hG2)), (show G2.2.1 (F a 1) = G.2.1 (F a 1) from (ld_c hG2))] at oq25b; exact oq25b
      refine lv_iload_n hx hb dX11_least_28 rfl (lv_at hl 1 rfl) ?_
      refine lv_iload_n hx hb dX11_least_29 rfl (lv_at hl 2 rfl) ?_
      refine x_clp (x_runS (As := [.int p0, .int p1]) (rest := []) S (c_X11_at l E K F G25 H p0 p1) ms_X11_at km_X11_156 rfl rfl ⟨Nat.le_of_ble_eq_true rfl, Nat.le_of_ble_eq_true rfl⟩ hK (fun _ => XPh.blind) (fun U hU hW => XPh.at hK hz hS hT hU hW) rfl hl.1 (Nat.le_of_ble_eq_true rfl) dX11_least_30 ⟨Nat.le_of_ble_eq_true rfl, Nat.le_of_ble_eq_true rfl⟩) hS ?_
      rintro _ _ locs ⟨x30, rfl, t30⟩ hS
      have t30 : 0 ≤ p0.toInt ∧ p0.toInt ≤ 2 ∧ 0 ≤ p1.toInt ∧ p1.toInt ≤ 29 → x30.toInt = 4 * (30 * p0.toInt + p1.toInt) := t30
      refine lv_iconst (v := 1) hx hb dX11_least_33 (by decide) ?_
      refine xi_iadd hx hb (rfl : Int32.toInt x30 = x30.toInt) ((by decide) : Int32.toInt 1 = (1 : Int)) dX11_least_34 (fun x34 t34 => ?_)
      refine lv_iload_n hx hb dX11_least_35 rfl (lv_at hl 3 rfl) ?_
      refine xi_iadd hx hb (rfl : Int32.toInt x34 = x34.toInt) (rfl : Int32.toInt p2 = p2.toInt) dX11_least_36 (fun x36 t36 => ?_)
      refine lv_istore (lv' := [(4, .int x36), (0, .ref a), (1, .int p0), (2, .int p1), (3, .int p2)]) hx hb dX11_least_37 hl (by decide) rfl (fun ls hl => ?_)
      refine lv_ldc (v := (-2147483648)) hx hb S.2.2.2.1 (S.2.2.2.2 _ (List.mem_cons_of_mem _ kc_X11_57)) dX11_least_39 ?_
      refine lv_istore (lv' := [(5, .int (-2147483648)), (4, .int x36), (0, .ref a), (1, .int p0), (2, .int p1), (3, .int p2)]) hx hb dX11_least_41 hl (by decide) rfl (fun ls hl => ?_)
      refine lv_bipush (v := (-99)) hx hb dX11_least_43 (by decide) ?_
      refine lv_istore (lv' := [(6, .int (-99)), (5, .int (-2147483648)), (4, .int x36), (0, .ref a), (1, .int p0), (2, .int p1), (3, .int p2)]) hx hb dX11_least_45 hl (by decide) rfl (fun ls hl => ?_)
      have L47 : ∀ (N47 : Nat) (l5_47 : Int32) (l6_47 : Int32) (G_47 : XG) (H : Heap) (locs : List Loc) (ls : Array Slot), XFr [(a, 16), (a, 19)] [F a 15, F a 17, F a 18, F a 11, F a 1] [] G25 G_47 → RM (G_47.2.1 (F a 1)) 0 → (∀ v : Int, rset (mw (G_47.2.1 (F a 1)) 0) (90 * p0.toInt + 30 * p2.toInt + p1.toInt) v = rset (mw (G.2.1 (F a 1)) 0) (90 * p0.toInt + 30 * p2.toInt + p1.toInt) v) → aI (G_47.2.1 (F a 1)) (0 + 4 * (30 * p0.toInt + p1.toInt)) = 1 → ((l5_47.toInt = -2147483648 ∧ ∀ v : Int, -99 ≤ v → v < l6_47.toInt → v ≠ (cel (mw (G.2.1 (F a 1)) 0) p0.toInt p1.toInt p2.toInt) → ffP (G.2.1 (F a 10)) (rset (mw (G.2.1 (F a 1)) 0) (90 * p0.toInt + 30 * p2.toInt + p1.toInt) v) (fuO (G.2.1 (F a 10)) (mw (G.2.1 (F a 1)) 0) (rset (mw (G.2.1 (F a 1)) 0) (90 * p0.toInt + 30 * p2.toInt + p1.toInt) v) 2) ≠ -1) ∨ (l5_47.toInt ≠ -2147483648 ∧ LsS (fun v => ffP (G.2.1 (F a 10)) (rset (mw (G.2.1 (F a 1)) 0) (90 * p0.toInt + 30 * p2.toInt + p1.toInt) v) (fuO (G.2.1 (F a 10)) (mw (G.2.1 (F a 1)) 0) (rset (mw (G.2.1 (F a 1)) 0) (90 * p0.toInt + 30 * p2.toInt + p1.toInt) v) 2) = -1) (cel (mw (G.2.1 (F a 1)) 0) p0.toInt p1.toInt p2.toInt) l5_47.toInt)) → -99 ≤ l6_47.toInt ∧ l6_47.toInt ≤ 100 → 200 - l6_47.toInt < ((N47 : Nat) : Int) → TW E K F G_47 H → va_S (xA E) s.heap H locs → lv_has ls 7 [(0, .ref a), (4, .int x36), (5, .int l5_47), (6, .int l6_47)] → W p l e rm_X11_least s m args below meth c H locs 0 0 Q (F0 m 47 ls []) := by
        intro N47
        induction N47 with
        | zero =>
          intro l5_47 l6_47 G_47 H locs ls hF_47 rm pm fl lp I47_0 hm47
          exact absurd hm47 (z_X11_least_1 l6_47.toInt I47_0)
        | succ N47 ih47 =>
          intro l5_47 l6_47 G_47 H locs ls hF_47 rm pm fl lp I47_0 hm47 hT hS hl
          refine lv_iload hx hb dX11_least_47 (lv_at hl 3 rfl) ?_
          refine lv_bipush (v := 99) hx hb dX11_least_49 (by decide) ?_
          refine xi_cgt (tgt := 119) hx hb (rfl : Int32.toInt l6_47 = l6_47.toInt) ((by decide) : Int32.toInt 99 = (99 : Int)) dX11_least_51 (by decide) (fun c51 => ?_) (fun c51 => ?_)
          · refine lv_aload_n hx hb dX11_least_119 rfl (lv_at hl 0 rfl) ?_
            refine gX11_1 S hK hT ha kf_X11_9 dX11_least_120 (fun _ _ => ?_)
            refine lv_iload hx hb dX11_least_123 (lv_at hl 1 rfl) ?_
            refine lv_aload_n hx hb dX11_least_125 rfl (lv_at hl 0 rfl) ?_
            refine gX11_4 S hK hT ha kf_X11_21 dX11_least_126 (fun _ _ => ?_)
            refine lv_iload hx hb dX11_least_129 (lv_at hl 1 rfl) ?_
            refine al_0 S hK hT hk9999e ar_31 (by decide) (z_X11_least_2 p0.toInt p1.toInt p2.toInt x15.toInt x30.toInt x34.toInt x36.toInt x8.toInt (cel (mw (G.2.1 (F a 1)) 0) (p0.toInt) (p1.toInt) 0) z5 t8 c11 t15 c18 t30 t34 t36) dX11_least_131 (fun x131 hv131 o131 => ?_)
            have hv131 : x131.toInt = (aI (G25.2.1 (F a 4)) (x36.toInt)) := hv131.trans (by rw [(rfl : Int32.toInt x36 = x36.toInt), ((hF_47.2.1 _ (xn1 (xne_k hk9999e hk9999 (by decide)) (xn1 (xne_k hk9999e hk9999a (by decide)) (xn1 (xne_k hk9999e hk9999b (by decide)) (xn1 (xne_k hk9999e hk9999c (by decide)) (xn1 (xne_k hk9999e hk9999d (by decide)) xn0)))))) : G_47.2.1 (F a 4) = G25.2.1 (F a 4))])
            refine as_0 (x := x131) S hK hT hS hk9999d ar_30 aw_30 (by decide) (z_X11_least_2 p0.toInt p1.toInt p2.toInt x15.toInt x30.toInt x34.toInt x36.toInt x8.toInt (cel (mw (G.2.1 (F a 1)) 0) (p0.toInt) (p1.toInt) 0) z5 t8 c11 t15 c18 t30 t34 t36) dX11_least_132 (fun H locs hT hS => ?_)
            obtain ⟨G132, hG132⟩ : ∃ GG : XG, GG = cput G_47 (F a 1) x36.toNatClampNeg x131 := ⟨_, rfl⟩
            rw [← hG132] at hT
            refine lv_iload hx hb dX11_least_133 (lv_at hl 2 rfl) ?_
            exact x_ri hx hb hr hlk hQ (Nat.le_of_ble_eq_true rfl) (Nat.le_of_ble_eq_true rfl) hS dX11_least_135 G132 ⟨_, rfl, (by rw [hG132]; exact XFr.cput (XFr.call (XFr.call (by rw [hG2]; exact XFr.dput XFr.rf (List.mem_of_getElem? (i := 0) rfl)) hF25 xm0 (xm1 5 rfl (xm1 6 rfl xm0)) xm0) hF_47 (xm1 1 rfl (xm1 2 rfl xm0)) (xm1 0 rfl (xm1 1 rfl (xm1 2 rfl (xm1 3 rfl (xm1 4 rfl xm0))))) xm0) (List.mem_of_getElem? (i := 4) rfl)), (v_X11_least_135_7 (F := F) G132 G_47 a x36 x131 G25 G p0 p2 p1 x8 x15 x30 x34 l6_47 hG132 oq25 oq25a pm fl hv131 z5 t8 c11 t15 c18 t30 t34 t36 I47_0 c51), (v_X11_least_135_8 (F := F) G132 G_47 a x36 x131 G25 G p0 p2 p1 x8 x15 x30 x34 l6_47 hG132 oq25 oq25a rm fl hv131 z5 t8 c11 t15 c18 t30 t34 t36 I47_0 c51), (v_X11_least_135_9 (K := K) (F := F) a G G25 G_47 x36 x131 p0 p2 p1 l5_47 l6_47 x8 x15 x30 x34 N47 ha fl lp hv131 z5 t8 c11 t15 c18 t30 t34 t36 I47_0 hm47 c51)⟩ hT
          · refine lv_iload hx hb dX11_least_54 (lv_at hl 2 rfl) ?_
            refine lv_ldc (v := (-2147483648)) hx hb S.2.2.2.1 (S.2.2.2.2 _ (List.mem_cons_of_mem _ kc_X11_57)) dX11_least_56 ?_
            refine xi_cne (tgt := 119) hx hb (rfl : Int32.toInt l5_47 = l5_47.toInt) ((by decide) : Int32.toInt (-2147483648) = (-2147483648 : Int)) dX11_least_58 (by decide) (fun c58 => ?_) (fun c58 => ?_)
            · refine lv_aload_n hx hb dX11_least_119 rfl (lv_at hl 0 rfl) ?_
              refine gX11_1 S hK hT ha kf_X11_9 dX11_least_120 (fun _ _ => ?_)
              refine lv_iload hx hb dX11_least_123 (lv_at hl 1 rfl) ?_
              refine lv_aload_n hx hb dX11_least_125 rfl (lv_at hl 0 rfl) ?_
              refine gX11_4 S hK hT ha kf_X11_21 dX11_least_126 (fun _ _ => ?_)
              refine lv_iload hx hb dX11_least_129 (lv_at hl 1 rfl) ?_
              refine al_0 S hK hT hk9999e ar_31 (by decide) (z_X11_least_2 p0.toInt p1.toInt p2.toInt x15.toInt x30.toInt x34.toInt x36.toInt x8.toInt (cel (mw (G.2.1 (F a 1)) 0) (p0.toInt) (p1.toInt) 0) z5 t8 c11 t15 c18 t30 t34 t36) dX11_least_131 (fun x131 hv131 o131 => ?_)
              have hv131 : x131.toInt = (aI (G25.2.1 (F a 4)) (x36.toInt)) := hv131.trans (by rw [(rfl : Int32.toInt x36 = x36.toInt), ((hF_47.2.1 _ (xn1 (xne_k hk9999e hk9999 (by decide)) (xn1 (xne_k hk9999e hk9999a (by decide)) (xn1 (xne_k hk9999e hk9999b (by decide)) (xn1 (xne_k hk9999e hk9999c (by decide)) (xn1 (xne_k hk9999e hk9999d (by decide)) xn0)))))) : G_47.2.1 (F a 4) = G25.2.1 (F a 4))])
              refine as_0 (x := x131) S hK hT hS hk9999d ar_30 aw_30 (by decide) (z_X11_least_2 p0.toInt p1.toInt p2.toInt x15.toInt x30.toInt x34.toInt x36.toInt x8.toInt (cel (mw (G.2.1 (F a 1)) 0) (p0.toInt) (p1.toInt) 0) z5 t8 c11 t15 c18 t30 t34 t36) dX11_least_132 (fun H locs hT hS => ?_)
              obtain ⟨G132, hG132⟩ : ∃ GG : XG, GG = cput G_47 (F a 1) x36.toNatClampNeg x131 := ⟨_, rfl⟩
              rw [← hG132] at hT
              refine lv_iload hx hb dX11_least_133 (lv_at hl 2 rfl) ?_
              exact x_ri hx hb hr hlk hQ (Nat.le_of_ble_eq_true rfl) (Nat.le_of_ble_eq_true rfl) hS dX11_least_135 G132 ⟨_, rfl, (by rw [hG132]; exact XFr.cput (XFr.call (XFr.call (by rw [hG2]; exact XFr.dput XFr.rf (List.mem_of_getElem? (i := 0) rfl)) hF25 xm0 (xm1 5 rfl (xm1 6 rfl xm0)) xm0) hF_47 (xm1 1 rfl (xm1 2 rfl xm0)) (xm1 0 rfl (xm1 1 rfl (xm1 2 rfl (xm1 3 rfl (xm1 4 rfl xm0))))) xm0) (List.mem_of_getElem? (i := 4) rfl)), (v_X11_least_135_10 (F := F) G132 G_47 a x36 x131 G25 G p0 p2 p1 x8 x15 x30 x34 l6_47 hG132 oq25 oq25a pm fl hv131 z5 t8 c11 t15 c18 t30 t34 t36 I47_0 c51), (v_X11_least_135_11 (F := F) G132 G_47 a x36 x131 G25 G p0 p2 p1 x8 x15 x30 x34 l6_47 hG132 oq25 oq25a rm fl hv131 z5 t8 c11 t15 c18 t30 t34 t36 I47_0 c51), (v_X11_least_135_12 (K := K) (F := F) a G G25 G_47 x36 x131 p0 p2 p1 l5_47 l6_47 x8 x15 x30 x34 N47 ha fl lp hv131 z5 t8 c11 t15 c18 t30 t34 t36 I47_0 hm47 c51 c58)⟩ hT
            · refine lv_iload hx hb dX11_least_61 (lv_at hl 3 rfl) ?_
              refine lv_aload_n hx hb dX11_least_63 rfl (lv_at hl 0 rfl) ?_
              refine gX11_4 S hK hT ha kf_X11_21 dX11_least_64 (fun _ _ => ?_)
              refine lv_iload hx hb dX11_least_67 (lv_at hl 1 rfl) ?_
              refine al_0 S hK hT hk9999e ar_31 (by decide) (z_X11_least_2 p0.toInt p1.toInt p2.toInt x15.toInt x30.toInt x34.toInt x36.toInt x8.toInt (cel (mw (G.2.1 (F a 1)) 0) (p0.toInt) (p1.toInt) 0) z5 t8 c11 t15 c18 t30 t34 t36) dX11_least_69 (fun x69 hv69 o69 => ?_)
              have hv69 : x69.toInt = (aI (G25.2.1 (F a 4)) (x36.toInt)) := hv69.trans (by rw [(rfl : Int32.toInt x36 = x36.toInt), ((hF_47.2.1 _ (xn1 (xne_k hk9999e hk9999 (by decide)) (xn1 (xne_k hk9999e hk9999a (by decide)) (xn1 (xne_k hk9999e hk9999b (by decide)) (xn1 (xne_k hk9999e hk9999c (by decide)) (xn1 (xne_k hk9999e hk9999d (by decide)) xn0)))))) : G_47.2.1 (F a 4) = G25.2.1 (F a 4))])
              refine xi_ceq (tgt := 113) hx hb (rfl : Int32.toInt l6_47 = l6_47.toInt) (hv69 : Int32.toInt x69 = (aI (G25.2.1 (F a 4)) (x36.toInt))) dX11_least_70 (by decide) (fun c70 => ?_) (fun c70 => ?_)
              · refine xi_iinc (n := 1) (lv' := fun z9 => [(6, .int z9), (0, .ref a), (4, .int x36), (5, .int l5_47)]) (k := 3) hx hb (rfl : Int32.toInt l6_47 = l6_47.toInt) (by decide) dX11_least_113 hl rfl (by decide) (fun _ => rfl) (fun x113 ls t113 hl => ?_)
                have e113 : x113.toInt = (l6_47.toInt + 1) := (z_X11_least_7 l6_47.toInt x113.toInt I47_0 t113)
                have hl : lv_has ls 7 [(6, .int x113), (0, .ref a), (4, .int x36), (5, .int l5_47)] := hl
                refine lv_goto (tgt := 47) hx hb dX11_least_116 (by decide) ?_
                exact ih47 l5_47 x113 G_47 _ _ _ (XFr.call XFr.rf hF_47 (xm1 0 rfl (xm1 1 rfl xm0)) (xm1 0 rfl (xm1 1 rfl (xm1 2 rfl (xm1 3 rfl (xm1 4 rfl xm0))))) xm0) (v_X11_least_116_13 (F := F) G_47 a p0 p2 p1 G x8 x15 x30 x34 x36 l6_47 rm fl z5 t8 c11 t15 c18 t30 t34 t36 I47_0 c51) (v_X11_least_116_14 (F := F) G_47 a p0 p2 p1 G x8 x15 x30 x34 x36 l6_47 pm fl z5 t8 c11 t15 c18 t30 t34 t36 I47_0 c51) (v_X11_least_116_15 (F := F) G_47 a p0 p2 p1 G x8 x15 x30 x34 x36 l6_47 fl z5 t8 c11 t15 c18 t30 t34 t36 I47_0 c51) (by rw [(e113 : Int32.toInt x113 = (l6_47.toInt + 1))] <;> exact (v_X11_least_116_16 (K := K) (F := F) a G G25 G_47 p0 p2 p1 l5_47 l6_47 x69 x36 x113 x8 x15 x30 x34 N47 ha oq25 oq25a pm fl lp hv69 e113 z5 t8 c11 t15 c18 t30 t34 t36 I47_0 hm47 c51 c58 c70)) (by rw [(e113 : Int32.toInt x113 = (l6_47.toInt + 1))] <;> exact (z_X11_least_8 l6_47.toInt I47_0 c51)) (by rw [(e113 : Int32.toInt x113 = (l6_47.toInt + 1))] <;> exact (z_X11_least_9 l6_47.toInt N47 hm47)) hT hS (lv_sub hl [1, 2, 3, 0] rfl)
              · refine lv_aload_n hx hb dX11_least_73 rfl (lv_at hl 0 rfl) ?_
                refine gX11_1 S hK hT ha kf_X11_9 dX11_least_74 (fun _ _ => ?_)
                refine lv_iload hx hb dX11_least_77 (lv_at hl 1 rfl) ?_
                refine lv_iload hx hb dX11_least_79 (lv_at hl 3 rfl) ?_
                refine as_0 (x := l6_47) S hK hT hS hk9999d ar_30 aw_30 (by decide) (z_X11_least_2 p0.toInt p1.toInt p2.toInt x15.toInt x30.toInt x34.toInt x36.toInt x8.toInt (cel (mw (G.2.1 (F a 1)) 0) (p0.toInt) (p1.toInt) 0) z5 t8 c11 t15 c18 t30 t34 t36) dX11_least_81 (fun H locs hT hS => ?_)
                obtain ⟨G81, hG81⟩ : ∃ GG : XG, GG = cput G_47 (F a 1) x36.toNatClampNeg l6_47 := ⟨_, rfl⟩
                rw [← hG81] at hT
                refine lv_aload_n hx hb dX11_least_82 rfl (lv_at hl 0 rfl) ?_
                refine lv_aload_n hx hb dX11_least_83 rfl (lv_at hl 0 rfl) ?_
                refine gX11_11 S hK hT ha kf_X11_36 dX11_least_84 (fun _ _ => ?_)
                refine lv_aload_n hx hb dX11_least_87 rfl (lv_at hl 0 rfl) ?_
                refine gX11_1 S hK hT ha kf_X11_9 dX11_least_88 (fun _ _ => ?_)
                refine lv_iconst (v := 0) hx hb dX11_least_91 (by decide) ?_
                refine x_cv0 (x_runV (b := a) (As := [.ref (F a 11), .ref (F a 1), .int 0]) (rest := []) S (c_X11_layStates l E K F G81 a (F a 11) (F a 1) 0 ha hk9999c (XO.a hk9999d (by decide)) (v_X11_least_92_17 (F := F) a G G81 hR ((lc_c hG81 (xne_k hk9999g hk9999d (by decide))).trans ((hF_47.2.1 _ (xn1 (xne_k hk9999g hk9999 (by decide)) (xn1 (xne_k hk9999g hk9999a (by decide)) (xn1 (xne_k hk9999g hk9999b (by decide)) (xn1 (xne_k hk9999g hk9999c (by decide)) (xn1 (xne_k hk9999g hk9999d (by decide)) xn0)))))).trans ((hF25.2.1 _ (xn1 (xne_k hk9999g hk9999e (by decide)) (xn1 (xne_k hk9999g hk9999f (by decide)) xn0))).trans (ld_c hG2))))) (v_X11_least_92_18 (F := F) G81 G_47 a x36 l6_47 p0 p2 p1 G x8 x15 x30 x34 hG81 rm fl z5 t8 c11 t15 c18 t30 t34 t36 I47_0 c51)) mv_X11_layStates km_X11_210 rfl rfl ⟨Nat.le_of_ble_eq_true rfl, Nat.le_of_ble_eq_true rfl⟩ (rc_13 hK hT ha) hK (fun _ => XP.blind) (fun U hU hW => XP.at hK hz hS hT hU hW) rfl hl.1 (Nat.le_of_ble_eq_true rfl) dX11_least_92 ⟨Nat.le_of_ble_eq_true rfl, Nat.le_of_ble_eq_true rfl⟩) hS ?_
                rintro G92 H locs ⟨hF92, oq92, oq92a⟩ hT hS
                have oq92 : LSt (G.2.1 (F a 10)) (G92.2.1 (F a 11)) (mw (G81.2.1 (F a 1)) (0 : Int)) 12 := by simp only [(show G81.2.1 (F a 10) = G.2.1 (F a 10) from ((lc_c hG81 (xne_k hk9999g hk9999d (by decide))).trans ((hF_47.2.1 _ (xn1 (xne_k hk9999g hk9999 (by decide)) (xn1 (xne_k hk9999g hk9999a (by decide)) (xn1 (xne_k hk9999g hk9999b (by decide)) (xn1 (xne_k hk9999g hk9999c (by decide)) (xn1 (xne_k hk9999g hk9999d (by decide)) xn0)))))).trans ((hF25.2.1 _ (xn1 (xne_k hk9999g hk9999e (by decide)) (xn1 (xne_k hk9999g hk9999f (by decide)) xn0))).trans (ld_c hG2)))))] at oq92; exact oq92
                refine lv_aload_n hx hb dX11_least_95 rfl (lv_at hl 0 rfl) ?_
                refine lv_iconst (v := 2) hx hb dX11_least_96 (by decide) ?_
                refine x_cl0 (x_runV (b := a) (As := [.int 2]) (rest := []) S (c_X11_asks l E K F G92 a 2 (mw (G.2.1 (F a 1)) 0) ha (v_X11_least_97_19 (F := F) a G G92 hR ((hF92.2.1 _ (xn1 (xne_k hk9999g hk9999c (by decide)) xn0)).trans ((lc_c hG81 (xne_k hk9999g hk9999d (by decide))).trans ((hF_47.2.1 _ (xn1 (xne_k hk9999g hk9999 (by decide)) (xn1 (xne_k hk9999g hk9999a (by decide)) (xn1 (xne_k hk9999g hk9999b (by decide)) (xn1 (xne_k hk9999g hk9999c (by decide)) (xn1 (xne_k hk9999g hk9999d (by decide)) xn0)))))).trans ((hF25.2.1 _ (xn1 (xne_k hk9999g hk9999e (by decide)) (xn1 (xne_k hk9999g hk9999f (by decide)) xn0))).trans (ld_c hG2)))))) (v_X11_least_97_20 (F := F) G81 G_47 a x36 l6_47 p0 p2 p1 G x8 x15 x30 x34 G92 hG81 rm fl z5 t8 c11 t15 c18 t30 t34 t36 I47_0 c51 (hF92.2.1 _ (xn1 (xne_k hk9999d hk9999c (by decide)) xn0))) (v_X11_least_97_21 (F := F) G a G25 G92 oq25b ((hF92.2.1 _ (xn1 (xne_k hk9999g hk9999c (by decide)) xn0)).trans ((lc_c hG81 (xne_k hk9999g hk9999d (by decide))).trans ((hF_47.2.1 _ (xn1 (xne_k hk9999g hk9999 (by decide)) (xn1 (xne_k hk9999g hk9999a (by decide)) (xn1 (xne_k hk9999g hk9999b (by decide)) (xn1 (xne_k hk9999g hk9999c (by decide)) (xn1 (xne_k hk9999g hk9999d (by decide)) xn0)))))).trans ((hF25.2.1 _ (xn1 (xne_k hk9999g hk9999e (by decide)) (xn1 (xne_k hk9999g hk9999f (by decide)) xn0))).trans (ld_c hG2))))) ((hF92.2.1 _ (xn1 (xne_j hj9999f hj9999c (by first | decide | omega)) xn0)).trans ((lc_c hG81 (xne_k hk9999f hk9999d (by decide))).trans (hF_47.2.1 _ (xn1 (xne_k hk9999f hk9999 (by decide)) (xn1 (xne_k hk9999f hk9999a (by decide)) (xn1 (xne_k hk9999f hk9999b (by decide)) (xn1 (xne_j hj9999f hj9999c (by first | decide | omega)) (xn1 (xne_k hk9999f hk9999d (by decide)) xn0))))))))) (v_X11_least_97_22 (F := F) G a G92 G81 oq92 ((lc_c hG81 (xne_k hk9999g hk9999d (by decide))).trans ((hF_47.2.1 _ (xn1 (xne_k hk9999g hk9999 (by decide)) (xn1 (xne_k hk9999g hk9999a (by decide)) (xn1 (xne_k hk9999g hk9999b (by decide)) (xn1 (xne_k hk9999g hk9999c (by decide)) (xn1 (xne_k hk9999g hk9999d (by decide)) xn0)))))).trans ((hF25.2.1 _ (xn1 (xne_k hk9999g hk9999e (by decide)) (xn1 (xne_k hk9999g hk9999f (by decide)) xn0))).trans (ld_c hG2)))) (hF92.2.1 _ (xn1 (xne_k hk9999d hk9999c (by decide)) xn0)) ((hF92.2.1 _ (xn1 (xne_k hk9999g hk9999c (by decide)) xn0)).trans ((lc_c hG81 (xne_k hk9999g hk9999d (by decide))).trans ((hF_47.2.1 _ (xn1 (xne_k hk9999g hk9999 (by decide)) (xn1 (xne_k hk9999g hk9999a (by decide)) (xn1 (xne_k hk9999g hk9999b (by decide)) (xn1 (xne_k hk9999g hk9999c (by decide)) (xn1 (xne_k hk9999g hk9999d (by decide)) xn0)))))).trans ((hF25.2.1 _ (xn1 (xne_k hk9999g hk9999e (by decide)) (xn1 (xne_k hk9999g hk9999f (by decide)) xn0))).trans (ld_c hG2))))))) mv_X11_asks km_X11_319 rfl rfl ⟨Nat.le_of_ble_eq_true rfl, Nat.le_of_ble_eq_true rfl⟩ (rc_13 hK hT ha) hK (fun _ => XP.blind) (fun U hU hW => XP.at hK hz hS hT hU hW) rfl hl.1 (Nat.le_of_ble_eq_true rfl) dX11_least_97 ⟨Nat.le_of_ble_eq_true rfl, Nat.le_of_ble_eq_true rfl⟩) hS ?_
                rintro _ G97 H locs ⟨x97, rfl, hF97, t97, oq97, oq97a, oq97b⟩ hT hS
                have t97 : -1 ≤ x97.toInt := t97
                have oq97 : pL G97 F a = fuO (G.2.1 (F a 10)) (mw (G.2.1 (F a 1)) 0) (mw (G81.2.1 (F a 1)) 0) (2 : Int) := by simp only [(show G92.2.1 (F a 10) = G.2.1 (F a 10) from ((hF92.2.1 _ (xn1 (xne_k hk9999g hk9999c (by decide)) xn0)).trans ((lc_c hG81 (xne_k hk9999g hk9999d (by decide))).trans ((hF_47.2.1 _ (xn1 (xne_k hk9999g hk9999 (by decide)) (xn1 (xne_k hk9999g hk9999a (by decide)) (xn1 (xne_k hk9999g hk9999b (by decide)) (xn1 (xne_k hk9999g hk9999c (by decide)) (xn1 (xne_k hk9999g hk9999d (by decide)) xn0)))))).trans ((hF25.2.1 _ (xn1 (xne_k hk9999g hk9999e (by decide)) (xn1 (xne_k hk9999g hk9999f (by decide)) xn0))).trans (ld_c hG2)))))), (show G92.2.1 (F a 1) = G81.2.1 (F a 1) from (hF92.2.1 _ (xn1 (xne_k hk9999d hk9999c (by decide)) xn0)))] at oq97; exact oq97
                have oq97a : x97.toInt = ffP (G.2.1 (F a 10)) (mw (G81.2.1 (F a 1)) 0) (pL G97 F a) := by simp only [(show G92.2.1 (F a 10) = G.2.1 (F a 10) from ((hF92.2.1 _ (xn1 (xne_k hk9999g hk9999c (by decide)) xn0)).trans ((lc_c hG81 (xne_k hk9999g hk9999d (by decide))).trans ((hF_47.2.1 _ (xn1 (xne_k hk9999g hk9999 (by decide)) (xn1 (xne_k hk9999g hk9999a (by decide)) (xn1 (xne_k hk9999g hk9999b (by decide)) (xn1 (xne_k hk9999g hk9999c (by decide)) (xn1 (xne_k hk9999g hk9999d (by decide)) xn0)))))).trans ((hF25.2.1 _ (xn1 (xne_k hk9999g hk9999e (by decide)) (xn1 (xne_k hk9999g hk9999f (by decide)) xn0))).trans (ld_c hG2)))))), (show G92.2.1 (F a 1) = G81.2.1 (F a 1) from (hF92.2.1 _ (xn1 (xne_k hk9999d hk9999c (by decide)) xn0)))] at oq97a; exact oq97a
                refine lv_iconst (v := (-1)) hx hb dX11_least_100 (by decide) ?_
                refine xi_cne (tgt := 109) hx hb (rfl : Int32.toInt x97 = x97.toInt) ((by decide) : Int32.toInt (-1) = (-1 : Int)) dX11_least_101 (by decide) (fun c101 => ?_) (fun c101 => ?_)
                · refine lv_ldc (v := (-2147483648)) hx hb S.2.2.2.1 (S.2.2.2.2 _ (List.mem_cons_of_mem _ kc_X11_57)) dX11_least_109 ?_
                  refine lv_istore (lv' := [(5, .int (-2147483648)), (0, .ref a), (4, .int x36), (6, .int l6_47)]) hx hb dX11_least_111 hl (by decide) rfl (fun ls hl => ?_)
                  refine xi_iinc (n := 1) (lv' := fun z9 => [(6, .int z9), (5, .int (-2147483648)), (0, .ref a), (4, .int x36)]) (k := 3) hx hb (rfl : Int32.toInt l6_47 = l6_47.toInt) (by decide) dX11_least_113 hl rfl (by decide) (fun _ => rfl) (fun x113 ls t113 hl => ?_)
                  have e113 : x113.toInt = (l6_47.toInt + 1) := (z_X11_least_7 l6_47.toInt x113.toInt I47_0 t113)
                  have hl : lv_has ls 7 [(6, .int x113), (5, .int (-2147483648)), (0, .ref a), (4, .int x36)] := hl
                  refine lv_goto (tgt := 47) hx hb dX11_least_116 (by decide) ?_
                  exact ih47 (-2147483648) x113 G97 _ _ _ (XFr.call (XFr.call (by rw [hG81]; exact XFr.cput (XFr.call XFr.rf hF_47 (xm1 0 rfl (xm1 1 rfl xm0)) (xm1 0 rfl (xm1 1 rfl (xm1 2 rfl (xm1 3 rfl (xm1 4 rfl xm0))))) xm0) (List.mem_of_getElem? (i := 4) rfl)) hF92 xm0 (xm1 3 rfl xm0) xm0) hF97 (xm1 0 rfl (xm1 1 rfl xm0)) (xm1 0 rfl (xm1 1 rfl (xm1 2 rfl xm0))) xm0) (by rw [(show G97.2.1 (F a 1) = G81.2.1 (F a 1) from ((hF97.2.1 _ (xn1 (xne_k hk9999d hk9999 (by decide)) (xn1 (xne_k hk9999d hk9999a (by decide)) (xn1 (xne_k hk9999d hk9999b (by decide)) xn0)))).trans (hF92.2.1 _ (xn1 (xne_k hk9999d hk9999c (by decide)) xn0))))] <;> exact (v_X11_least_116_23 (F := F) G81 G_47 a x36 l6_47 p0 p2 p1 G x8 x15 x30 x34 hG81 rm fl z5 t8 c11 t15 c18 t30 t34 t36 I47_0 c51)) (by rw [(show G97.2.1 (F a 1) = G81.2.1 (F a 1) from ((hF97.2.1 _ (xn1 (xne_k hk9999d hk9999 (by decide)) (xn1 (xne_k hk9999d hk9999a (by decide)) (xn1 (xne_k hk9999d hk9999b (by decide)) xn0)))).trans (hF92.2.1 _ (xn1 (xne_k hk9999d hk9999c (by decide)) xn0))))] <;> exact (v_X11_least_116_24 (F := F) G81 G_47 a x36 l6_47 p0 p2 p1 G x8 x15 x30 x34 hG81 pm fl z5 t8 c11 t15 c18 t30 t34 t36 I47_0 c51)) (by rw [(show G97.2.1 (F a 1) = G81.2.1 (F a 1) from ((hF97.2.1 _ (xn1 (xne_k hk9999d hk9999 (by decide)) (xn1 (xne_k hk9999d hk9999a (by decide)) (xn1 (xne_k hk9999d hk9999b (by decide)) xn0)))).trans (hF92.2.1 _ (xn1 (xne_k hk9999d hk9999c (by decide)) xn0))))] <;> exact (v_X11_least_116_25 (F := F) G81 G_47 a x36 l6_47 p0 p2 p1 G x8 x15 x30 x34 hG81 fl z5 t8 c11 t15 c18 t30 t34 t36 I47_0 c51)) (by rw [((by decide) : Int32.toInt (-2147483648) = (-2147483648 : Int)), (e113 : Int32.toInt x113 = (l6_47.toInt + 1))] <;> exact (v_X11_least_116_26 (K := K) (F := F) a G G25 G_47 G81 x36 l6_47 G92 G97 p0 p2 p1 l5_47 x69 x97 x113 x8 x15 x30 x34 N47 ha hG81 oq25 oq25a pm fl lp hv69 oq92a oq97 oq97a oq97b e113 z5 t8 c11 t15 c18 t30 t34 t36 I47_0 hm47 c51 c58 c70 t97 c101)) (by rw [(e113 : Int32.toInt x113 = (l6_47.toInt + 1))] <;> exact (z_X11_least_8 l6_47.toInt I47_0 c51)) (by rw [(e113 : Int32.toInt x113 = (l6_47.toInt + 1))] <;> exact (z_X11_least_9 l6_47.toInt N47 hm47)) hT hS (lv_sub hl [2, 3, 1, 0] rfl)
                · refine lv_iload hx hb dX11_least_104 (lv_at hl 3 rfl) ?_
                  refine lv_goto (tgt := 111) hx hb dX11_least_106 (by decide) ?_
                  refine lv_istore (lv' := [(5, .int l6_47), (0, .ref a), (4, .int x36), (6, .int l6_47)]) hx hb dX11_least_111 hl (by decide) rfl (fun ls hl => ?_)
                  refine xi_iinc (n := 1) (lv' := fun z9 => [(6, .int z9), (5, .int l6_47), (0, .ref a), (4, .int x36)]) (k := 3) hx hb (rfl : Int32.toInt l6_47 = l6_47.toInt) (by decide) dX11_least_113 hl rfl (by decide) (fun _ => rfl) (fun x113 ls t113 hl => ?_)
                  have e113 : x113.toInt = (l6_47.toInt + 1) := (z_X11_least_7 l6_47.toInt x113.toInt I47_0 t113)
                  have hl : lv_has ls 7 [(6, .int x113), (5, .int l6_47), (0, .ref a), (4, .int x36)] := hl
                  refine lv_goto (tgt := 47) hx hb dX11_least_116 (by decide) ?_
                  exact ih47 l6_47 x113 G97 _ _ _ (XFr.call (XFr.call (by rw [hG81]; exact XFr.cput (XFr.call XFr.rf hF_47 (xm1 0 rfl (xm1 1 rfl xm0)) (xm1 0 rfl (xm1 1 rfl (xm1 2 rfl (xm1 3 rfl (xm1 4 rfl xm0))))) xm0) (List.mem_of_getElem? (i := 4) rfl)) hF92 xm0 (xm1 3 rfl xm0) xm0) hF97 (xm1 0 rfl (xm1 1 rfl xm0)) (xm1 0 rfl (xm1 1 rfl (xm1 2 rfl xm0))) xm0) (by rw [(show G97.2.1 (F a 1) = G81.2.1 (F a 1) from ((hF97.2.1 _ (xn1 (xne_k hk9999d hk9999 (by decide)) (xn1 (xne_k hk9999d hk9999a (by decide)) (xn1 (xne_k hk9999d hk9999b (by decide)) xn0)))).trans (hF92.2.1 _ (xn1 (xne_k hk9999d hk9999c (by decide)) xn0))))] <;> exact (v_X11_least_116_27 (F := F) G81 G_47 a x36 l6_47 p0 p2 p1 G x8 x15 x30 x34 hG81 rm fl z5 t8 c11 t15 c18 t30 t34 t36 I47_0 c51)) (by rw [(show G97.2.1 (F a 1) = G81.2.1 (F a 1) from ((hF97.2.1 _ (xn1 (xne_k hk9999d hk9999 (by decide)) (xn1 (xne_k hk9999d hk9999a (by decide)) (xn1 (xne_k hk9999d hk9999b (by decide)) xn0)))).trans (hF92.2.1 _ (xn1 (xne_k hk9999d hk9999c (by decide)) xn0))))] <;> exact (v_X11_least_116_28 (F := F) G81 G_47 a x36 l6_47 p0 p2 p1 G x8 x15 x30 x34 hG81 pm fl z5 t8 c11 t15 c18 t30 t34 t36 I47_0 c51)) (by rw [(show G97.2.1 (F a 1) = G81.2.1 (F a 1) from ((hF97.2.1 _ (xn1 (xne_k hk9999d hk9999 (by decide)) (xn1 (xne_k hk9999d hk9999a (by decide)) (xn1 (xne_k hk9999d hk9999b (by decide)) xn0)))).trans (hF92.2.1 _ (xn1 (xne_k hk9999d hk9999c (by decide)) xn0))))] <;> exact (v_X11_least_116_29 (F := F) G81 G_47 a x36 l6_47 p0 p2 p1 G x8 x15 x30 x34 hG81 fl z5 t8 c11 t15 c18 t30 t34 t36 I47_0 c51)) (by rw [(e113 : Int32.toInt x113 = (l6_47.toInt + 1))] <;> exact (v_X11_least_116_30 (K := K) (F := F) a G G25 G_47 G81 x36 l6_47 G92 G97 p0 p2 p1 l5_47 x69 x97 x113 x8 x15 x30 x34 N47 ha hG81 oq25 oq25a pm fl lp hv69 oq92a oq97 oq97a oq97b e113 z5 t8 c11 t15 c18 t30 t34 t36 I47_0 hm47 c51 c58 c70 t97 c101)) (by rw [(e113 : Int32.toInt x113 = (l6_47.toInt + 1))] <;> exact (z_X11_least_8 l6_47.toInt I47_0 c51)) (by rw [(e113 : Int32.toInt x113 = (l6_47.toInt + 1))] <;> exact (z_X11_least_9 l6_47.toInt N47 hm47)) hT hS (lv_sub hl [2, 3, 1, 0] rfl)
      exact L47 4294967297 (-2147483648) (-99) G25 _ _ _ XFr.rf (by rw [(show G25.2.1 (F a 1) = G.2.1 (F a 1) from ((hF25.2.1 _ (xn1 (xne_k hk9999d hk9999e (by decide)) (xn1 (xne_k hk9999d hk9999f (by decide)) xn0))).trans (ld_c hG2)))] <;> exact (v_X11_least_45_31 (F := F) G a hM)) (by rw [(show G25.2.1 (F a 1) = G.2.1 (F a 1) from ((hF25.2.1 _ (xn1 (xne_k hk9999d hk9999e (by decide)) (xn1 (xne_k hk9999d hk9999f (by decide)) xn0))).trans (ld_c hG2)))] <;> exact (v_X11_least_45_32 (F := F) G a p0 p2 p1)) (by rw [(show G25.2.1 (F a 1) = G.2.1 (F a 1) from ((hF25.2.1 _ (xn1 (xne_k hk9999d hk9999e (by decide)) (xn1 (xne_k hk9999d hk9999f (by decide)) xn0))).trans (ld_c hG2)))] <;> exact (v_X11_least_45_33 (F := F) G a p0 p1 x8 hM z5 t8 c11)) (by rw [((by decide) : Int32.toInt (-2147483648) = (-2147483648 : Int)), ((by decide) : Int32.toInt (-99) = (-99 : Int))] <;> exact (v_X11_least_45_34 (K := K) (F := F) a G p0 p1 x8 x15 p2 x30 x34 x36 ha z5 t8 c11 t15 c18 t30 t34 t36)) (by rw [((by decide) : Int32.toInt (-99) = (-99 : Int))] <;> exact (by decide)) (by rw [((by decide) : Int32.toInt (-99) = (-99 : Int))] <;> exact (by decide)) hT hS (lv_sub hl [3, 2, 1, 0] rfl)
    · refine lv_ldc (v := (-2147483648)) hx hb S.2.2.2.1 (S.2.2.2.2 _ (List.mem_cons_of_mem _ kc_X11_57)) dX11_least_21 ?_
      exact x_ri hx hb hr hlk hQ (Nat.le_of_ble_eq_true rfl) (Nat.le_of_ble_eq_true rfl) hS dX11_least_23 G2 ⟨_, rfl, (by rw [hG2]; exact XFr.dput XFr.rf (List.mem_of_getElem? (i := 0) rfl)), (v_X11_least_23_35 (F := F) G2 a G (ld_c hG2)), (v_X11_least_23_36 (F := F) G a G2 hM (ld_c hG2)), (by rw [((by decide) : Int32.toInt (-2147483648) = (-2147483648 : Int))] <;> exact (v_X11_least_23_37 (K := K) (F := F) a G p0 p1 x8 x15 p2 ha z5 t8 c11 t15 c18))⟩ hT

