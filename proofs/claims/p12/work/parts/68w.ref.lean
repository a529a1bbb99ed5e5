theorem z_X11_sign_1 (a0 : Int) (h0 : -8 ≤ a0 ∧ a0 ≤ 24) : ¬ (100 + a0 < ((0 : Nat) : Int)) := by omega
theorem z_X11_sign_2 (a0 : Int) (a1 : Int) (a2 : Int) (a3 : Int) (h0 : 0 ≤ a2 ∧ a2 ≤ 80) (h1 : a1 = a2 + (4 : Int) ∨ a2 + (4 : Int) < -2147483648 ∨ 2147483648 ≤ a2 + (4 : Int)) (h2 : a1 ≤ (80 : Int)) (h3 : -8 ≤ a0 ∧ a0 ≤ 24) (h4 : 8 * (a3 - a2) = 24 - a0) (h5 : a0 < 0) : (76 < a2 ∧ a3 = -1 ∧ a3 = a2) ∨ (a2 ≤ 76 ∧ a3 = a2 + 4 ∧ a3 = a2 + 4) := by omega
theorem z_X11_sign_3 (a0 : Int) (a1 : Int) (a2 : Int) (a3 : Int) (h0 : 0 ≤ a2 ∧ a2 ≤ 80) (h1 : a1 = a2 + (4 : Int) ∨ a2 + (4 : Int) < -2147483648 ∨ 2147483648 ≤ a2 + (4 : Int)) (h2 : a1 ≤ (80 : Int)) (h3 : -8 ≤ a0 ∧ a0 ≤ 24) (h4 : 8 * (a3 - a2) = 24 - a0) (h5 : ¬ (a0 < 0)) : 0 ≤ a3 ∧ a3 < ((80 : Nat) : Int) := by omega
theorem z_X11_sign_4 (a0 : Int) (a1 : Int) (a2 : Int) (a3 : Int) (h0 : 0 ≤ a2 ∧ a2 ≤ 80) (h1 : 8 * (a3 - a2) = 24 - a0) (h2 : ¬ (a0 < 0)) (h3 : a1 = (a3 + (1 : Int)) ∨ (a3 + (1 : Int)) < -2147483648 ∨ 2147483648 ≤ (a3 + (1 : Int))) (h4 : -2147483648 ≤ a3 ∧ a3 < 2147483648) : a1 = (a3 + (1 : Int)) := by omega
theorem z_X11_sign_5 (a0 : Int) (a1 : Int) (h0 : -8 ≤ a0 ∧ a0 ≤ 24) (h1 : a1 = (a0 + (-8)) ∨ (a0 + (-8)) < -2147483648 ∨ 2147483648 ≤ (a0 + (-8))) : a1 = (a0 + (-8)) := by omega
theorem z_X11_sign_6 (a0 : Int) (h0 : -8 ≤ a0 ∧ a0 ≤ 24) (h1 : ¬ (a0 < 0)) : -8 ≤ (a0 + (-8)) ∧ (a0 + (-8)) ≤ 24 := by omega
theorem z_X11_sign_7 (a0 : Int) (a1 : Int) (a2 : Int) (h0 : 8 * (a2 - a1) = 24 - a0) : 8 * ((a2 + (1 : Int)) - a1) = 24 - (a0 + (-8)) := by omega
theorem z_X11_sign_8 (a0 : Int) (a1 : Nat) (h0 : 100 + a0 < ((a1 + 1 : Nat) : Int)) : 100 + (a0 + (-8)) < ((a1 : Nat) : Int) := by omega
theorem z_X11_sign_9 (a0 : Int) : 8 * (a0 - a0) = 24 - (24 : Int) := by omega
theorem z_X11_sign_10 (a0 : Int) (a1 : Int) (h0 : 0 ≤ a1 ∧ a1 ≤ 80) (h1 : a0 = a1 + (4 : Int) ∨ a1 + (4 : Int) < -2147483648 ∨ 2147483648 ≤ a1 + (4 : Int)) (h2 : ¬ (a0 ≤ (80 : Int))) : (76 < a1 ∧ (-1 : Int) = -1 ∧ a1 = a1) ∨ (a1 ≤ 76 ∧ (-1 : Int) = a1 + 4 ∧ a1 = a1 + 4) := by omega
abbrev rm_X11_sign : Room := { frames := 0, cells := 0, slots := 0, locals := 0 }
set_option maxHeartbeats 4000000 in
set_option maxRecDepth 100000 in
theorem c_X11_sign (l : Launch) (E : XE) (K : Nat → Nat) (F : Nat → Nat → Nat) (G : XG) (a : Nat) (p0 : Int32) (ha : K a = 13) (nt0 : 0 ≤ ((G.1 a 36).toInt) ∧ ((G.1 a 36).toInt) ≤ 80) : Met l yX11_sign (xw yX11_sign cX11_sign 3 (some .int)) rm_X11_sign (va_Pc [.ref a, .int p0] (XP E K F G)) (XQ E (fun v (u : XG) => ∃ r : Int32, v = .int r ∧ XFr [(a, 0), (a, 36)] [F a 35] [] G u ∧ ((76 < ((G.1 a 36).toInt) ∧ r.toInt = -1 ∧ ((u.1 a 36).toInt) = ((G.1 a 36).toInt)) ∨ (((G.1 a 36).toInt) ≤ 76 ∧ r.toInt = ((G.1 a 36).toInt) + 4 ∧ ((u.1 a 36).toInt) = ((G.1 a 36).toInt) + 4)) ∧ ((r.toInt = -1 ∧ u.2.1 (F a 35) = (G.2.1 (F a 35))) ∨ (r.toInt ≠ -1 ∧ ∀ z : Int, 0 ≤ z → aI (u.2.1 (F a 35)) z % 256 = if ((G.1 a 36).toInt) ≤ z ∧ z < ((G.1 a 36).toInt) + 4 then bqI p0 (24 - 8 * (z - ((G.1 a 36).toInt))) else aI (G.2.1 (F a 35)) z % 256))) (fun u H => TW E K F u H)) 0 0 (xA E) := by
  refine x_enter (by decide) (Nat.le_of_ble_eq_true rfl) ?_
  intro p e s m args below meth c Q S hr hlk hnm hQ hP ls hl
  obtain ⟨hz, hK, hT⟩ := hP
  obtain ⟨hx, hb, -, -, -⟩ := id S
  obtain ⟨H, hT, hS, hgo⟩ : ∃ H : Heap, TW E K F G H ∧ va_S (xA E) s.heap H [] ∧ H = s.heap := ⟨_, hT, va_S.rf, rfl⟩
  rw [← hgo]
  have hl : lv_has ls 3 [(0, .ref a), (1, .int p0)] := hl
  obtain ⟨hk9999, hj9999⟩ := fkX11_35 hT ha
  refine lv_aload_n hx hb dX11_sign_0 rfl (lv_at hl 0 rfl) ?_
  refine lv_iconst (v := 0) hx hb dX11_sign_1 (by decide) ?_
  refine pX11_0 (v := 0) S hK hT hS ha kf_X11_134 dX11_sign_2 (fun H locs hT hS => ?_)
  obtain ⟨G2, hG2⟩ : ∃ GG : XG, GG = dput G a 0 0 := ⟨_, rfl⟩
  rw [← hG2] at hT
  refine lv_aload_n hx hb dX11_sign_5 rfl (lv_at hl 0 rfl) ?_
  refine gX11_36 S hK hT ha kf_X11_245 dX11_sign_6 (v := (G.1 a 36)) (ld_j hG2 (by decide)) (?_)
  refine lv_iconst (v := 4) hx hb dX11_sign_9 (by decide) ?_
  refine xi_iadd hx hb (rfl : Int32.toInt (G.1 a 36) = ((G.1 a 36).toInt)) ((by decide) : Int32.toInt 4 = (4 : Int)) dX11_sign_10 (fun x10 t10 => ?_)
  refine lv_bipush (v := 80) hx hb dX11_sign_11 (by decide) ?_
  refine xi_cle (tgt := 18) hx hb (rfl : Int32.toInt x10 = x10.toInt) ((by decide) : Int32.toInt 80 = (80 : Int)) dX11_sign_13 (by decide) (fun c13 => ?_) (fun c13 => ?_)
  · refine lv_bipush (v := 24) hx hb dX11_sign_18 (by decide) ?_
    refine lv_istore_n (lv' := [(2, .int 24), (0, .ref a), (1, .int p0)]) hx hb dX11_sign_20 rfl hl (by decide) rfl (fun ls hl => ?_)
    have L21 : ∀ (N21 : Nat) (l2_21 : Int32) (G_21 : XG) (H : Heap) (locs : List Loc) (ls : Array Slot), XFr [(a, 36)] [F a 35] [] G2 G_21 → (∀ z : Int, 0 ≤ z → aI (G_21.2.1 (F a 35)) z % 256 = if (G.1 a 36).toInt ≤ z ∧ z < ((G_21.1 a 36).toInt) then bqI p0 (24 - 8 * (z - (G.1 a 36).toInt)) else aI (G.2.1 (F a 35)) z % 256) → -8 ≤ l2_21.toInt ∧ l2_21.toInt ≤ 24 → 8 * (((G_21.1 a 36).toInt) - ((G.1 a 36).toInt)) = 24 - l2_21.toInt → 100 + l2_21.toInt < ((N21 : Nat) : Int) → TW E K F G_21 H → va_S (xA E) s.heap H locs → lv_has ls 3 [(0, .ref a), (1, .int p0), (2, .int l2_21)] → W p l e rm_X11_sign s m args below meth c H locs 0 0 Q (F0 m 21 ls []) := by
      intro N21
      induction N21 with
      | zero =>
        intro l2_21 G_21 H locs ls hF_21 pf I21_0 I21_1 hm21
        exact absurd hm21 (z_X11_sign_1 l2_21.toInt I21_0)
      | succ N21 ih21 =>
        intro l2_21 G_21 H locs ls hF_21 pf I21_0 I21_1 hm21 hT hS hl
        refine lv_iload_n hx hb dX11_sign_21 rfl (lv_at hl 2 rfl) ?_
        refine xi_zlt (tgt := 54) hx hb (rfl : Int32.toInt l2_21 = l2_21.toInt) dX11_sign_22 (by decide) (fun c22 => ?_) (fun c22 => ?_)
        · refine lv_aload_n hx hb dX11_sign_54 rfl (lv_at hl 0 rfl) ?_
          refine gX11_36 S hK hT ha kf_X11_245 dX11_sign_55 (v := (G_21.1 a 36)) rfl (?_)
          exact x_ri hx hb hr hlk hQ (Nat.le_of_ble_eq_true rfl) (Nat.le_of_ble_eq_true rfl) hS dX11_sign_58 G_21 ⟨_, rfl, (XFr.call (by rw [hG2]; exact XFr.dput XFr.rf (List.mem_of_getElem? (i := 0) rfl)) hF_21 (xm1 1 rfl xm0) (xm1 0 rfl xm0) xm0), (z_X11_sign_2 l2_21.toInt x10.toInt ((G.1 a 36).toInt) ((G_21.1 a 36).toInt) nt0 t10 c13 I21_0 I21_1 c22), (v_X11_sign_58_1 (K := K) (F := F) a G G_21 p0 x10 l2_21 N21 ha pf nt0 t10 c13 I21_0 I21_1 hm21 c22)⟩ hT
        · refine lv_aload_n hx hb dX11_sign_25 rfl (lv_at hl 0 rfl) ?_
          refine gX11_35 S hK hT ha kf_X11_103 dX11_sign_26 (fun _ _ => ?_)
          refine lv_aload_n hx hb dX11_sign_29 rfl (lv_at hl 0 rfl) ?_
          refine gX11_36 S hK hT ha kf_X11_245 dX11_sign_30 (v := (G_21.1 a 36)) rfl (?_)
          refine lv_iload_n hx hb dX11_sign_33 rfl (lv_at hl 1 rfl) ?_
          refine lv_iload_n hx hb dX11_sign_34 rfl (lv_at hl 2 rfl) ?_
          refine lv_iushr hx hb dX11_sign_35 rfl (lv_topi (fun x35 eb35 => ?_))
          refine lv_i2b hx hb dX11_sign_36 rfl (lv_topi (fun x36 eb36 => ?_))
          refine as_2 (x := x36) S hK hT hS hk9999 ar_51 aw_51 (by decide) (z_X11_sign_3 l2_21.toInt x10.toInt ((G.1 a 36).toInt) ((G_21.1 a 36).toInt) nt0 t10 c13 I21_0 I21_1 c22) dX11_sign_37 (fun H locs hT hS => ?_)
          rw [(xnar2 (xok_i2b eb36))] at hT
          obtain ⟨G37, hG37⟩ : ∃ GG : XG, GG = cput G_21 (F a 35) (G_21.1 a 36).toNatClampNeg x36 := ⟨_, rfl⟩
          rw [← hG37] at hT
          refine lv_aload_n hx hb dX11_sign_38 rfl (lv_at hl 0 rfl) ?_
          refine lv_dup hx hb dX11_sign_39 rfl ?_
          refine gX11_36 S hK hT ha kf_X11_245 dX11_sign_40 (v := (G_21.1 a 36)) (lc_d hG37) (?_)
          refine lv_iconst (v := 1) hx hb dX11_sign_43 (by decide) ?_
          refine xi_iadd hx hb (rfl : Int32.toInt (G_21.1 a 36) = ((G_21.1 a 36).toInt)) ((by decide) : Int32.toInt 1 = (1 : Int)) dX11_sign_44 (fun x44 t44 => ?_)
          have e44 : x44.toInt = (((G_21.1 a 36).toInt) + (1 : Int)) := (z_X11_sign_4 l2_21.toInt x44.toInt ((G.1 a 36).toInt) ((G_21.1 a 36).toInt) nt0 I21_1 c22 t44 (xr (G_21.1 a 36)))
          refine pX11_36 (v := x44) S hK hT hS ha kf_X11_245 dX11_sign_45 (fun H locs hT hS => ?_)
          obtain ⟨G45, hG45⟩ : ∃ GG : XG, GG = dput G37 a 36 x44 := ⟨_, rfl⟩
          rw [← hG45] at hT
          refine xi_iinc (n := (-8)) (lv' := fun z9 => [(2, .int z9), (0, .ref a), (1, .int p0)]) (k := 2) hx hb (rfl : Int32.toInt l2_21 = l2_21.toInt) (by decide) dX11_sign_48 hl rfl (by decide) (fun _ => rfl) (fun x48 ls t48 hl => ?_)
          have e48 : x48.toInt = (l2_21.toInt + (-8)) := (z_X11_sign_5 l2_21.toInt x48.toInt I21_0 t48)
          have hl : lv_has ls 3 [(2, .int x48), (0, .ref a), (1, .int p0)] := hl
          refine lv_goto (tgt := 21) hx hb dX11_sign_51 (by decide) ?_
          exact ih21 x48 G45 _ _ _ (by rw [hG45]; exact XFr.dput (by rw [hG37]; exact XFr.cput (XFr.call XFr.rf hF_21 (xm1 0 rfl xm0) (xm1 0 rfl xm0) xm0) (List.mem_of_getElem? (i := 0) rfl)) (List.mem_of_getElem? (i := 0) rfl)) (by rw [(show (G45.1 a 36).toInt = (((G_21.1 a 36).toInt) + (1 : Int)) from (congrArg Int32.toInt (ld_at hG45)).trans (e44 : Int32.toInt x44 = (((G_21.1 a 36).toInt) + (1 : Int)))), (show G45.2.1 (F a 35) = G37.2.1 (F a 35) from (ld_c hG45))] <;> exact (v_X11_sign_51_2 (K := K) (F := F) a G G_21 G37 x36 p0 x35 l2_21 x10 N21 ha hG37 pf eb35 eb36 nt0 t10 c13 I21_0 I21_1 hm21 c22)) (by rw [(e48 : Int32.toInt x48 = (l2_21.toInt + (-8)))] <;> exact (z_X11_sign_6 l2_21.toInt I21_0 c22)) (by rw [(e48 : Int32.toInt x48 = (l2_21.toInt + (-8))), (show (G45.1 a 36).toInt = (((G_21.1 a 36).toInt) + (1 : Int)) from (congrArg Int32.toInt (ld_at hG45)).trans (e44 : Int32.toInt x44 = (((G_21.1 a 36).toInt) + (1 : Int))))] <;> exact (z_X11_sign_7 l2_21.toInt ((G.1 a 36).toInt) ((G_21.1 a 36).toInt) I21_1)) (by rw [(e48 : Int32.toInt x48 = (l2_21.toInt + (-8)))] <;> exact (z_X11_sign_8 l2_21.toInt N21 hm21)) hT hS (lv_sub hl [1, 2, 0] rfl)
    exact L21 4294967297 24 G2 _ _ _ XFr.rf (by rw [(show (G2.1 a 36).toInt = ((G.1 a 36).toInt) from (congrArg Int32.toInt (ld_j hG2 (by decide))).trans (rfl : Int32.toInt (G.1 a 36) = ((G.1 a 36).toInt))), (show G2.2.1 (F a 35) = G.2.1 (F a 35) from (ld_c hG2))] <;> exact (v_X11_sign_20_3 (K := K) (F := F) a G x10 p0 ha nt0 t10 c13)) (by decide) (by rw [(show (G2.1 a 36).toInt = ((G.1 a 36).toInt) from (congrArg Int32.toInt (ld_j hG2 (by decide))).trans (rfl : Int32.toInt (G.1 a 36) = ((G.1 a 36).toInt)))] <;> exact (z_X11_sign_9 ((G.1 a 36).toInt))) (by decide) hT hS (lv_sub hl [1, 2, 0] rfl)
  · refine lv_iconst (v := (-1)) hx hb dX11_sign_16 (by decide) ?_
    exact x_ri hx hb hr hlk hQ (Nat.le_of_ble_eq_true rfl) (Nat.le_of_ble_eq_true rfl) hS dX11_sign_17 G2 ⟨_, rfl, (by rw [hG2]; exact XFr.dput XFr.rf (List.mem_of_getElem? (i := 0) rfl)), (by rw [((by decide) : Int32.toInt (-1) = (-1 : Int)), (show (G2.1 a 36).toInt = ((G.1 a 36).toInt) from (congrArg Int32.toInt (ld_j hG2 (by decide))).trans (rfl : Int32.toInt (G.1 a 36) = ((G.1 a 36).toInt)))] <;> exact (z_X11_sign_10 x10.toInt ((G.1 a 36).toInt) nt0 t10 c13)), (by rw [((by decide) : Int32.toInt (-1) = (-1 : Int))] <;> exact (v_X11_sign_17_4 (F := F) a G2 G p0 (ld_c hG2)))⟩ hT

theorem z_X11_end_1 (a0 : Int) (a1 : Int) (a2 : Int) (h0 : (a1 = 1 ∧ (0 : Int) ≤ a0 ∧ a0 ≤ a2) ∨ (a1 = 0 ∧ (a0 < (0 : Int) ∨ a2 < a0))) (h1 : a1 ≠ 0) : ((a0 < 0 ∨ a2 < a0) ∧ (1 : Int) = 0 ∧ a0 = a2) ∨ ((0 ≤ a0 ∧ a0 ≤ a2) ∧ (1 : Int) = 1 ∧ a0 = a0) := by omega
theorem z_X11_end_2 (a0 : Int) (a1 : Int) (a2 : Int) (h0 : (a1 = 1 ∧ (0 : Int) ≤ a0 ∧ a0 ≤ a2) ∨ (a1 = 0 ∧ (a0 < (0 : Int) ∨ a2 < a0))) (h1 : ¬ (a1 ≠ 0)) : ((a0 < 0 ∨ a2 < a0) ∧ (0 : Int) = 0 ∧ a2 = a2) ∨ ((0 ≤ a0 ∧ a0 ≤ a2) ∧ (0 : Int) = 1 ∧ a2 = a0) := by omega
abbrev rm_X11_end : Room := { frames := 1, cells := 0, slots := 0, locals := 25 }
set_option maxHeartbeats 4000000 in
set_option maxRecDepth 100000 in
theorem c_X11_end (l : Launch) (E : XE) (K : Nat → Nat) (F : Nat → Nat → Nat) (G : XG) (a : Nat) (p0 : Int32) (ha : K a = 13) : Met l yX11_end (xw yX11_end cX11_end 2 (some .boolean)) rm_X11_end (va_Pc [.ref a, .int p0] (XP E K F G)) (XQ E (fun v (u : XG) => ∃ r : Int32, v = .int r ∧ (r = 0 ∨ r = 1) ∧ XFr [(a, 0), (a, 36)] [] [] G u ∧ (((p0.toInt < 0 ∨ ((G.1 a 36).toInt) < p0.toInt) ∧ r.toInt = 0 ∧ ((u.1 a 36).toInt) = ((G.1 a 36).toInt)) ∨ ((0 ≤ p0.toInt ∧ p0.toInt ≤ ((G.1 a 36).toInt)) ∧ r.toInt = 1 ∧ ((u.1 a 36).toInt) = p0.toInt))) (fun u H => TW E K F u H)) 0 0 (xA E) := by
  refine x_enter (by decide) (Nat.le_of_ble_eq_true rfl) ?_
  intro p e s m args below meth c Q S hr hlk hnm hQ hP ls hl
  obtain ⟨hz, hK, hT⟩ := hP
  obtain ⟨hx, hb, -, -, -⟩ := id S
  obtain ⟨H, hT, hS, hgo⟩ : ∃ H : Heap, TW E K F G H ∧ va_S (xA E) s.heap H [] ∧ H = s.heap := ⟨_, hT, va_S.rf, rfl⟩
  rw [← hgo]
  have hl : lv_has ls 2 [(0, .ref a), (1, .int p0)] := hl
  refine lv_aload_n hx hb dX11_end_0 rfl (lv_at hl 0 rfl) ?_
  refine lv_iconst (v := 0) hx hb dX11_end_1 (by decide) ?_
  refine pX11_0 (v := 0) S hK hT hS ha kf_X11_134 dX11_end_2 (fun H locs hT hS => ?_)
  obtain ⟨G2, hG2⟩ : ∃ GG : XG, GG = dput G a 0 0 := ⟨_, rfl⟩
  rw [← hG2] at hT
  refine lv_iload_n hx hb dX11_end_5 rfl (lv_at hl 1 rfl) ?_
  refine lv_i2l (v := p0.toInt64) hx hb dX11_end_6 rfl ?_
  refine lv_lconst (v := (0 : Int64)) hx hb dX11_end_7 (by decide) ?_
  refine lv_aload_n hx hb dX11_end_8 rfl (lv_at hl 0 rfl) ?_
  refine gX11_36 S hK hT ha kf_X11_245 dX11_end_9 (v := (G.1 a 36)) (ld_j hG2 (by decide)) (?_)
  refine lv_i2l (v := ((G.1 a 36) : Int32).toInt64) hx hb dX11_end_12 rfl ?_
  refine x_clp (x_runS (As := [.long p0.toInt64, .long (0 : Int64), .long (((G.1 a 36) : Int32).toInt64)]) (rest := []) S (c_X11_in l E K F G2 H p0.toInt64 p0.toInt (0 : Int64) (0 : Int) (((G.1 a 36) : Int32).toInt64) (((G.1 a 36).toInt)) (xl_i2l (rfl : Int32.toInt p0 = p0.toInt)) (by decide) (xl_i2l (rfl : Int32.toInt (G.1 a 36) = ((G.1 a 36).toInt)))) ms_X11_in km_X11_139 rfl rfl ⟨Nat.le_of_ble_eq_true rfl, Nat.le_of_ble_eq_true rfl⟩ hK (fun _ => XPh.blind) (fun U hU hW => XPh.at hK hz hS hT hU hW) rfl hl.1 (Nat.le_of_ble_eq_true rfl) dX11_end_13 ⟨Nat.le_of_ble_eq_true rfl, Nat.le_of_ble_eq_true rfl⟩) hS ?_
  rintro _ _ locs ⟨x13, rfl, b13, t13⟩ hS
  have t13 : (x13.toInt = 1 ∧ (0 : Int) ≤ p0.toInt ∧ p0.toInt ≤ ((G.1 a 36).toInt)) ∨ (x13.toInt = 0 ∧ (p0.toInt < (0 : Int) ∨ ((G.1 a 36).toInt) < p0.toInt)) := t13
  refine xi_zne (tgt := 21) hx hb (rfl : Int32.toInt x13 = x13.toInt) dX11_end_16 (by decide) (fun c16 => ?_) (fun c16 => ?_)
  · refine lv_aload_n hx hb dX11_end_21 rfl (lv_at hl 0 rfl) ?_
    refine lv_iload_n hx hb dX11_end_22 rfl (lv_at hl 1 rfl) ?_
    refine pX11_36 (v := p0) S hK hT hS ha kf_X11_245 dX11_end_23 (fun H locs hT hS => ?_)
    obtain ⟨G23, hG23⟩ : ∃ GG : XG, GG = dput G2 a 36 p0 := ⟨_, rfl⟩
    rw [← hG23] at hT
    refine lv_iconst (v := 1) hx hb dX11_end_26 (by decide) ?_
    exact x_rz hx hb hr (xnz (Or.inr rfl)) hlk hQ (Nat.le_of_ble_eq_true rfl) (Nat.le_of_ble_eq_true rfl) hS dX11_end_27 G23 ⟨_, rfl, (Or.inr rfl), (by rw [hG23]; exact XFr.dput (by rw [hG2]; exact XFr.dput XFr.rf (List.mem_of_getElem? (i := 0) rfl)) (List.mem_of_getElem? (i := 1) rfl)), (by rw [(show (G23.1 a 36).toInt = p0.toInt from (congrArg Int32.toInt (ld_at hG23)).trans (rfl : Int32.toInt p0 = p0.toInt))] <;> exact (z_X11_end_1 p0.toInt x13.toInt ((G.1 a 36).toInt) t13 c16))⟩ hT
  · refine lv_iconst (v := 0) hx hb dX11_end_19 (by decide) ?_
    exact x_rz hx hb hr (xnz (Or.inl rfl)) hlk hQ (Nat.le_of_ble_eq_true rfl) (Nat.le_of_ble_eq_true rfl) hS dX11_end_20 G2 ⟨_, rfl, (Or.inl rfl), (by rw [hG2]; exact XFr.dput XFr.rf (List.mem_of_getElem? (i := 0) rfl)), (by rw [(show (G2.1 a 36).toInt = ((G.1 a 36).toInt) from (congrArg Int32.toInt (ld_j hG2 (by decide))).trans (rfl : Int32.toInt (G.1 a 36) = ((G.1 a 36).toInt)))] <;> exact (z_X11_end_2 p0.toInt x13.toInt ((G.1 a 36).toInt) t13 c16))⟩ hT

