theorem z_X11_kindHere_1 (a0 : Int) (h0 : 0 ≤ a0 ∧ a0 ≤ 6) : ¬ (2147483648 - a0 < ((0 : Nat) : Int)) := by omega
theorem z_X11_kindHere_5 (a0 : Int) (a1 : Int) (h0 : 0 ≤ a0 ∧ a0 ≤ 6) (h1 : a1 = (a0 + 1) ∨ (a0 + 1) < -2147483648 ∨ 2147483648 ≤ (a0 + 1)) : a1 = (a0 + 1) := by omega
theorem z_X11_kindHere_6 (a0 : Int) (h0 : 0 ≤ a0 ∧ a0 ≤ 6) (h1 : ¬ ((5 : Int) < a0)) : 0 ≤ (a0 + 1) ∧ (a0 + 1) ≤ 6 := by omega
theorem z_X11_kindHere_7 (a0 : Int) (h0 : 0 ≤ a0 ∧ a0 ≤ 6) : (0 : Int) ≤ (a0 + 1) := by omega
theorem z_X11_kindHere_8 (a0 : Int) (a1 : Nat) (h0 : 2147483648 - a0 < ((a1 + 1 : Nat) : Int)) : 2147483648 - (a0 + 1) < ((a1 : Nat) : Int) := by omega
theorem z_X11_kindHere_9 (a0 : Int) (h0 : 0 ≤ a0 ∧ a0 ≤ 6) (h1 : ¬ ((5 : Int) < a0)) : 0 ≤ a0 ∧ a0 ≤ 5 := by omega
abbrev rm_X11_kindHere : Room := { frames := 3, cells := 0, slots := 0, locals := 69 }
set_option maxHeartbeats 4000000 in
set_option maxRecDepth 100000 in
theorem c_X11_kindHere (l : Launch) (E : XE) (K : Nat → Nat) (F : Nat → Nat → Nat) (G : XG) (a : Nat) (r1 : RSt) (ha : K a = 13) (nt0 : 0 ≤ ((G.1 a 36).toInt) ∧ ((G.1 a 36).toInt) ≤ 80) (hrm : RdM (tM (G.2.1 (F a 35)) ((G.1 a 36).toInt)) ((G.1 a 36).toInt) r1 ((G.1 a 39).toInt) ((G.1 a 37).toInt) ((G.1 a 38).toInt)) (hwo : WDo G F a) : Met l yX11_kindHere (xw yX11_kindHere cX11_kindHere 2 (some .int)) rm_X11_kindHere (va_Pc [.ref a] (XP E K F G)) (XQ E (fun v (u : XG) => ∃ r : Int32, v = .int r ∧ XFr [(a, 37), (a, 38), (a, 39)] [] [] G u ∧ (0 ≤ r.toInt ∧ r.toInt ≤ 5) ∧ (r.toInt = (tkK (tM (G.2.1 (F a 35)) ((G.1 a 36).toInt)) r1).1) ∧ (RdM (tM (G.2.1 (F a 35)) ((G.1 a 36).toInt)) ((G.1 a 36).toInt) (tkK (tM (G.2.1 (F a 35)) ((G.1 a 36).toInt)) r1).2 ((u.1 a 39).toInt) ((u.1 a 37).toInt) ((u.1 a 38).toInt))) (fun u H => TW E K F u H)) 0 0 (xA E) := by
  refine x_enter (by decide) (Nat.le_of_ble_eq_true rfl) ?_
  intro p e s m args below meth c Q S hr hlk hnm hQ hP ls hl
  obtain ⟨hz, hK, hT⟩ := hP
  obtain ⟨hx, hb, -, -, -⟩ := id S
  obtain ⟨H, hT, hS, hgo⟩ : ∃ H : Heap, TW E K F G H ∧ va_S (xA E) s.heap H [] ∧ H = s.heap := ⟨_, hT, va_S.rf, rfl⟩
  rw [← hgo]
  have hl : lv_has ls 2 [(0, .ref a)] := hl
  obtain ⟨hk9999, hj9999⟩ := fkX11_35 hT ha
  obtain ⟨hk9999a, hj9999a⟩ := fkX11_25 hT ha
  obtain ⟨hk9999b, hj9999b⟩ := fkX11_26 hT ha
  obtain ⟨hk9999c, hj9999c⟩ := fkX11_27 hT ha
  obtain ⟨hk9999d, hj9999d⟩ := fkX11_28 hT ha
  obtain ⟨hk9999e, hj9999e⟩ := fkX11_29 hT ha
  obtain ⟨hk9999f, hj9999f⟩ := fkX11_30 hT ha
  refine lv_iconst (v := 0) hx hb dX11_kindHere_0 (by decide) ?_
  refine lv_istore_n (lv' := [(1, .int 0), (0, .ref a)]) hx hb dX11_kindHere_1 rfl hl (by decide) rfl (fun ls hl => ?_)
  have L2 : ∀ (N2 : Nat) (l1_2 : Int32) (G_2 : XG) (H : Heap) (locs : List Loc) (ls : Array Slot), XFr [(a, 37)] [] [] G G_2 → (∀ k : Nat, (k : Int) < l1_2.toInt → (tkW (tM (G.2.1 (F a 35)) ((G.1 a 36).toInt)) (kw k) r1).1 ≠ 1) → RdM (tM (G.2.1 (F a 35)) ((G.1 a 36).toInt)) (G.1 a 36).toInt r1 ((G.1 a 39).toInt) ((G_2.1 a 37).toInt) ((G.1 a 38).toInt) → 0 ≤ l1_2.toInt ∧ l1_2.toInt ≤ 6 → (0 : Int) ≤ l1_2.toInt → 2147483648 - l1_2.toInt < ((N2 : Nat) : Int) → TW E K F G_2 H → va_S (xA E) s.heap H locs → lv_has ls 2 [(0, .ref a), (1, .int l1_2)] → W p l e rm_X11_kindHere s m args below meth c H locs 0 0 Q (F0 m 2 ls []) := by
    intro N2
    induction N2 with
    | zero =>
      intro l1_2 G_2 H locs ls hF_2 pk rd I2_0 I2_1 hm2
      exact absurd hm2 (z_X11_kindHere_1 l1_2.toInt I2_0)
    | succ N2 ih2 =>
      intro l1_2 G_2 H locs ls hF_2 pk rd I2_0 I2_1 hm2 hT hS hl
      refine lv_iload_n hx hb dX11_kindHere_2 rfl (lv_at hl 1 rfl) ?_
      refine lv_iconst (v := 5) hx hb dX11_kindHere_3 (by decide) ?_
      refine xi_cgt (tgt := 27) hx hb (rfl : Int32.toInt l1_2 = l1_2.toInt) ((by decide) : Int32.toInt 5 = (5 : Int)) dX11_kindHere_4 (by decide) (fun c4 => ?_) (fun c4 => ?_)
      · have z27 : 0 ≤ ((G_2.1 a 37).toInt) ∧ ((G_2.1 a 37).toInt) ≤ ((G.1 a 36).toInt) := rd.2.2.2.2.1
        refine lv_aload_n hx hb dX11_kindHere_27 rfl (lv_at hl 0 rfl) ?_
        refine x_cl0 (x_runV (b := a) (As := []) (rest := []) S (c_X11_next l E K F G_2 a ha (by rw [(show (G_2.1 a 36).toInt = ((G.1 a 36).toInt) from (congrArg Int32.toInt (hF_2.1 _ _ (xnj (by decide) xn0))).trans (rfl : Int32.toInt (G.1 a 36) = ((G.1 a 36).toInt)))] <;> exact (nt0)) (by rw [(show (G_2.1 a 36).toInt = ((G.1 a 36).toInt) from (congrArg Int32.toInt (hF_2.1 _ _ (xnj (by decide) xn0))).trans (rfl : Int32.toInt (G.1 a 36) = ((G.1 a 36).toInt)))] <;> exact (z27))) mv_X11_next km_X11_268 rfl rfl ⟨Nat.le_of_ble_eq_true rfl, Nat.le_of_ble_eq_true rfl⟩ (rc_13 hK hT ha) hK (fun _ => XP.blind) (fun U hU hW => XP.at hK hz hS hT hU hW) rfl hl.1 (Nat.le_of_ble_eq_true rfl) dX11_kindHere_28 ⟨Nat.le_of_ble_eq_true rfl, Nat.le_of_ble_eq_true rfl⟩) hS ?_
        rintro _ G28 H locs ⟨x28, rfl, hF28, t28, oq28⟩ hT hS
        have t28 : -128 ≤ x28.toInt ∧ x28.toInt ≤ 127 ∧ ((0 ≤ x28.toInt ∧ (tM (G.2.1 (F a 35)) ((G.1 a 36).toInt) ((G28.1 a 37).toInt)) = x28.toInt) ∨ (x28.toInt < 0 ∧ (tM (G.2.1 (F a 35)) ((G.1 a 36).toInt) ((G28.1 a 37).toInt)) = x28.toInt + 256)) ∧ ((G_2.1 a 37).toInt) ≤ ((G28.1 a 37).toInt) ∧ ((G28.1 a 37).toInt) ≤ ((G.1 a 36).toInt) := by rw [(show G_2.2.1 (F a 35) = G.2.1 (F a 35) from (hF_2.2.1 _ xn0))] at t28; rw [(show (G_2.1 a 36).toInt = ((G.1 a 36).toInt) from (congrArg Int32.toInt (hF_2.1 _ _ (xnj (by decide) xn0))).trans (rfl : Int32.toInt (G.1 a 36) = ((G.1 a 36).toInt)))] at t28; exact t28
        have oq28 : ((G28.1 a 37).toInt) = rn cBl (tM (G.2.1 (F a 35)) ((G.1 a 36).toInt)) ((G_2.1 a 37).toInt) := by simp only [(show G_2.2.1 (F a 35) = G.2.1 (F a 35) from (hF_2.2.1 _ xn0)), (show G_2.1 a 36 = G.1 a 36 from (hF_2.1 _ _ (xnj (by decide) xn0)))] at oq28; exact oq28
        refine lv_pop hx hb dX11_kindHere_31 rfl ?_
        refine lv_aload_n hx hb dX11_kindHere_32 rfl (lv_at hl 0 rfl) ?_
        refine lv_aload_n hx hb dX11_kindHere_33 rfl (lv_at hl 0 rfl) ?_
        refine gX11_37 S hK hT ha kf_X11_256 dX11_kindHere_34 (v := (G28.1 a 37)) rfl (?_)
        refine x_cv0 (x_runV (b := a) (As := [.int (G28.1 a 37)]) (rest := []) S (c_X11_wrong l E K F G28 a (G28.1 a 37) ha) mv_X11_wrong km_X11_279 rfl rfl ⟨Nat.le_of_ble_eq_true rfl, Nat.le_of_ble_eq_true rfl⟩ (rc_13 hK hT ha) hK (fun _ => XP.blind) (fun U hU hW => XP.at hK hz hS hT hU hW) rfl hl.1 (Nat.le_of_ble_eq_true rfl) dX11_kindHere_37 ⟨Nat.le_of_ble_eq_true rfl, Nat.le_of_ble_eq_true rfl⟩) hS ?_
        rintro G37 H locs ⟨hF37, t37⟩ hT hS
        have t37 : ((G37.1 a 39).toInt) = 0 ∧ (((G.1 a 39).toInt) ≠ 0 → ((G37.1 a 38).toInt) = ((G28.1 a 37).toInt)) ∧ (((G.1 a 39).toInt) = 0 → ((G37.1 a 38).toInt) = ((G.1 a 38).toInt)) := by rw [(show (G28.1 a 39).toInt = ((G.1 a 39).toInt) from (congrArg Int32.toInt ((hF28.1 _ _ (xnj (by decide) xn0)).trans (hF_2.1 _ _ (xnj (by decide) xn0)))).trans (rfl : Int32.toInt (G.1 a 39) = ((G.1 a 39).toInt)))] at t37; rw [(show (G28.1 a 38).toInt = ((G.1 a 38).toInt) from (congrArg Int32.toInt ((hF28.1 _ _ (xnj (by decide) xn0)).trans (hF_2.1 _ _ (xnj (by decide) xn0)))).trans (rfl : Int32.toInt (G.1 a 38) = ((G.1 a 38).toInt)))] at t37; exact t37
        refine lv_iconst (v := 0) hx hb dX11_kindHere_40 (by decide) ?_
        exact x_ri hx hb hr hlk hQ (Nat.le_of_ble_eq_true rfl) (Nat.le_of_ble_eq_true rfl) hS dX11_kindHere_41 G37 ⟨_, rfl, (XFr.call (XFr.call (XFr.call XFr.rf hF_2 (xm1 0 rfl xm0) xm0 xm0) hF28 (xm1 0 rfl xm0) xm0 xm0) hF37 (xm1 1 rfl (xm1 2 rfl xm0)) xm0 xm0), (by decide), (v_X11_kindHere_41_1 (K := K) (F := F) a G G_2 G28 G37 r1 l1_2 N2 x28 ha pk oq28 nt0 I2_0 I2_1 hm2 c4 z27 t28 t37), (v_X11_kindHere_41_2 (K := K) (F := F) a G G_2 G28 G37 r1 l1_2 N2 x28 ha pk rd oq28 nt0 I2_0 I2_1 hm2 c4 z27 t28 t37 (hF37.1 _ _ (xnj (by decide) (xnj (by decide) xn0))))⟩ hT
      · refine lv_aload_n hx hb dX11_kindHere_7 rfl (lv_at hl 0 rfl) ?_
        refine lv_aload_n hx hb dX11_kindHere_8 rfl (lv_at hl 0 rfl) ?_
        refine lv_iload_n hx hb dX11_kindHere_9 rfl (lv_at hl 1 rfl) ?_
        refine x_clp (x_runV (b := a) (As := [.int l1_2]) (rest := [.ref a]) S (c_X11_wordOfx l E K F G_2 H a l1_2 ha) mv_X11_wordOf km_X11_241 rfl rfl ⟨Nat.le_of_ble_eq_true rfl, Nat.le_of_ble_eq_true rfl⟩ (rc_13 hK hT ha) hK (fun _ => XPh.blind) (fun U hU hW => XPh.at hK hz hS hT hU hW) rfl hl.1 (Nat.le_of_ble_eq_true rfl) dX11_kindHere_10 ⟨Nat.le_of_ble_eq_true rfl, Nat.le_of_ble_eq_true rfl⟩) hS ?_
        rintro _ _ locs ⟨q10, n10, rfl, hw10, hl10⟩ hS
        refine x_cl0 (x_runV (b := a) (As := [.ref q10]) (rest := []) S (c_X11_isWord l E K F G_2 a q10 n10 r1 (kw (Int.toNat (l1_2.toInt))) ha hw10 (by rw [(show (G_2.1 a 36).toInt = ((G.1 a 36).toInt) from (congrArg Int32.toInt (hF_2.1 _ _ (xnj (by decide) xn0))).trans (rfl : Int32.toInt (G.1 a 36) = ((G.1 a 36).toInt)))] <;> exact (nt0)) (v_X11_kindHere_13_3 (F := F) a G G_2 r1 rd (hF_2.2.1 _ xn0) (hF_2.1 _ _ (xnj (by decide) xn0)) (hF_2.1 _ _ (xnj (by decide) xn0)) (hF_2.1 _ _ (xnj (by decide) xn0))) (v_X11_kindHere_13_4 (K := K) (F := F) a G G_2 r1 l1_2 q10 n10 N2 ha hk9999 hj9999 hk9999a hj9999a hk9999b hj9999b hk9999c hj9999c hk9999d hj9999d hk9999e hj9999e hk9999f hj9999f hF_2 hrm hwo pk rd hw10 hl10 nt0 I2_0 I2_1 hm2 c4 (XWd.lim hw10) (hF_2.2.1 _ xn0) (hF_2.2.1 _ xn0) (hF_2.2.1 _ xn0) (hF_2.2.1 _ xn0) (hF_2.2.1 _ xn0) (hF_2.2.1 _ xn0) (hF_2.2.1 _ xn0) (hF_2.1 _ _ (xnj (by decide) xn0)) (hF_2.1 _ _ (xnj (by decide) xn0)) (hF_2.1 _ _ (xnj (by decide) xn0)))) mv_X11_isWord km_X11_282 rfl rfl ⟨Nat.le_of_ble_eq_true rfl, Nat.le_of_ble_eq_true rfl⟩ (rc_13 hK hT ha) hK (fun _ => XP.blind) (fun U hU hW => XP.at hK hz hS hT hU hW) rfl hl.1 (Nat.le_of_ble_eq_true rfl) dX11_kindHere_13 ⟨Nat.le_of_ble_eq_true rfl, Nat.le_of_ble_eq_true rfl⟩) hS ?_
        rintro _ G13 H locs ⟨x13, rfl, b13, hF13, t13, oq13, oq13a⟩ hT hS
        have t13 : 0 ≤ x13.toInt ∧ x13.toInt ≤ 1 := t13
        have oq13 : x13.toInt = (tkW (tM (G.2.1 (F a 35)) ((G.1 a 36).toInt)) (kw (Int.toNat (l1_2.toInt))) r1).1 := by simp only [(show G_2.2.1 (F a 35) = G.2.1 (F a 35) from (hF_2.2.1 _ xn0)), (show G_2.1 a 36 = G.1 a 36 from (hF_2.1 _ _ (xnj (by decide) xn0)))] at oq13; exact oq13
        have oq13a : RdM (tM (G.2.1 (F a 35)) ((G.1 a 36).toInt)) ((G.1 a 36).toInt) (tkW (tM (G.2.1 (F a 35)) ((G.1 a 36).toInt)) (kw (Int.toNat (l1_2.toInt))) r1).2 ((G13.1 a 39).toInt) ((G13.1 a 37).toInt) ((G13.1 a 38).toInt) := by simp only [(show G_2.2.1 (F a 35) = G.2.1 (F a 35) from (hF_2.2.1 _ xn0)), (show G_2.1 a 36 = G.1 a 36 from (hF_2.1 _ _ (xnj (by decide) xn0)))] at oq13a; exact oq13a
        refine xi_zeq (tgt := 21) hx hb (rfl : Int32.toInt x13 = x13.toInt) dX11_kindHere_16 (by decide) (fun c16 => ?_) (fun c16 => ?_)
        · refine xi_iinc (n := 1) (lv' := fun z9 => [(1, .int z9), (0, .ref a)]) (k := 1) hx hb (rfl : Int32.toInt l1_2 = l1_2.toInt) (by decide) dX11_kindHere_21 hl rfl (by decide) (fun _ => rfl) (fun x21 ls t21 hl => ?_)
          have e21 : x21.toInt = (l1_2.toInt + 1) := (z_X11_kindHere_5 l1_2.toInt x21.toInt I2_0 t21)
          have hl : lv_has ls 2 [(1, .int x21), (0, .ref a)] := hl
          refine lv_goto (tgt := 2) hx hb dX11_kindHere_24 (by decide) ?_
          exact ih2 x21 G13 _ _ _ (XFr.call (XFr.call XFr.rf hF_2 (xm1 0 rfl xm0) xm0 xm0) hF13 (xm1 0 rfl xm0) xm0 xm0) (by rw [(e21 : Int32.toInt x21 = (l1_2.toInt + 1))] <;> exact (v_X11_kindHere_24_5 (K := K) (F := F) a G r1 l1_2 q10 n10 x13 N2 ha pk hw10 hl10 oq13 nt0 I2_0 I2_1 hm2 c4 (XWd.lim hw10) t13 (xzi b13) c16)) (v_X11_kindHere_24_6 (K := K) (F := F) a G G13 r1 l1_2 q10 n10 x13 N2 ha hw10 hl10 oq13 oq13a nt0 I2_0 I2_1 hm2 c4 (XWd.lim hw10) t13 (xzi b13) c16 ((hF13.1 _ _ (xnj (by decide) xn0)).trans (hF_2.1 _ _ (xnj (by decide) xn0))) ((hF13.1 _ _ (xnj (by decide) xn0)).trans (hF_2.1 _ _ (xnj (by decide) xn0)))) (by rw [(e21 : Int32.toInt x21 = (l1_2.toInt + 1))] <;> exact (z_X11_kindHere_6 l1_2.toInt I2_0 c4)) (by rw [(e21 : Int32.toInt x21 = (l1_2.toInt + 1))] <;> exact (z_X11_kindHere_7 l1_2.toInt I2_0)) (by rw [(e21 : Int32.toInt x21 = (l1_2.toInt + 1))] <;> exact (z_X11_kindHere_8 l1_2.toInt N2 hm2)) hT hS (lv_sub hl [1, 0] rfl)
        · refine lv_iload_n hx hb dX11_kindHere_19 rfl (lv_at hl 1 rfl) ?_
          exact x_ri hx hb hr hlk hQ (Nat.le_of_ble_eq_true rfl) (Nat.le_of_ble_eq_true rfl) hS dX11_kindHere_20 G13 ⟨_, rfl, (XFr.call (XFr.call XFr.rf hF_2 (xm1 0 rfl xm0) xm0 xm0) hF13 (xm1 0 rfl xm0) xm0 xm0), (z_X11_kindHere_9 l1_2.toInt I2_0 c4), (v_X11_kindHere_20_7 (K := K) (F := F) a G r1 l1_2 q10 n10 x13 N2 ha pk hw10 hl10 oq13 nt0 I2_0 I2_1 hm2 c4 (XWd.lim hw10) t13 (xzi b13) c16), (v_X11_kindHere_20_8 (K := K) (F := F) a G G13 r1 l1_2 q10 n10 x13 N2 ha pk hw10 hl10 oq13 oq13a nt0 I2_0 I2_1 hm2 c4 (XWd.lim hw10) t13 (xzi b13) c16 ((hF13.1 _ _ (xnj (by decide) xn0)).trans (hF_2.1 _ _ (xnj (by decide) xn0))) ((hF13.1 _ _ (xnj (by decide) xn0)).trans (hF_2.1 _ _ (xnj (by decide) xn0))))⟩ hT
  exact L2 4294967297 0 G _ _ _ XFr.rf (v_X11_kindHere_1_9 (K := K) (F := F) a G r1 ha nt0) (v_X11_kindHere_1_10 (F := F) a G r1 hrm) (by decide) (by decide) (by decide) hT hS (lv_sub hl [1, 0] rfl)

