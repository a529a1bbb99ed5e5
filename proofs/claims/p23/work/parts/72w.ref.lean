abbrev rm_X11_wouldTell : Room := { frames := 7, cells := 0, slots := 0, locals := 166 }
set_option maxHeartbeats 4000000 in
set_option maxRecDepth 100000 in
theorem c_X11_wouldTell (l : Launch) (E : XE) (K : Nat → Nat) (F : Nat → Nat → Nat) (G : XG) (a : Nat) (r1 : Int → Int) (ha : K a = 13) (hR : RV (G.2.1 (F a 10))) (hM : RM (G.2.1 (F a 1)) (0)) (hA : RM (G.2.1 (F a 4)) 0) (h1 : LSt (G.2.1 (F a 10)) (G.2.1 (F a 12)) r1 12) : Met l yX11_wouldTell (xw yX11_wouldTell cX11_wouldTell 2 (some .int)) rm_X11_wouldTell (va_Pc [.ref a] (XP E K F G)) (XQ E (fun v (u : XG) => ∃ r : Int32, v = .int r ∧ XFr [(a, 16), (a, 19), (a, 45), (a, 46)] [F a 15, F a 17, F a 18, F a 11, F a 1] [] G u ∧ (AnsM ((G.1 a 6).toInt) r.toInt (G.2.1 (F a 10)) r1 (mw (G.2.1 (F a 1)) 0)) ∧ (mw (u.2.1 (F a 1)) 0 = mw (G.2.1 (F a 4)) 0) ∧ (RM (u.2.1 (F a 1)) 0)) (fun u H => TW E K F u H)) 0 0 (xA E) := by
  refine x_enter (by decide) (Nat.le_of_ble_eq_true rfl) ?_
  intro p e s m args below meth c Q S hr hlk hnm hQ hP ls hl
  obtain ⟨hz, hK, hT⟩ := hP
  obtain ⟨hx, hb, -, -, -⟩ := id S
  obtain ⟨H, hT, hS, hgo⟩ : ∃ H : Heap, TW E K F G H ∧ va_S (xA E) s.heap H [] ∧ H = s.heap := ⟨_, hT, va_S.rf, rfl⟩
  rw [← hgo]
  have hl : lv_has ls 2 [(0, .ref a)] := hl
  obtain ⟨hk9999, hj9999⟩ := fkX11_15 hT ha
  obtain ⟨hk9999a, hj9999a⟩ := fkX11_17 hT ha
  obtain ⟨hk9999b, hj9999b⟩ := fkX11_18 hT ha
  obtain ⟨hk9999c, hj9999c⟩ := fkX11_11 hT ha
  obtain ⟨hk9999d, hj9999d⟩ := fkX11_1 hT ha
  obtain ⟨hk9999e, hj9999e⟩ := fkX11_4 hT ha
  obtain ⟨hk9999f, hj9999f⟩ := fkX11_10 hT ha
  obtain ⟨hk9999g, hj9999g⟩ := fkX11_12 hT ha
  refine lv_aload_n hx hb dX11_wouldTell_0 rfl (lv_at hl 0 rfl) ?_
  refine x_cl0 (x_runV (b := a) (As := []) (rest := []) S (c_X11_look l E K F G a r1 ha (v_X11_wouldTell_1_1 (F := F) a G hR) (v_X11_wouldTell_1_2 (F := F) a G hM) (v_X11_wouldTell_1_3 (F := F) a G r1 h1)) mv_X11_look km_X11_328 rfl rfl ⟨Nat.le_of_ble_eq_true rfl, Nat.le_of_ble_eq_true rfl⟩ (rc_13 hK hT ha) hK (fun _ => XP.blind) (fun U hU hW => XP.at hK hz hS hT hU hW) rfl hl.1 (Nat.le_of_ble_eq_true rfl) dX11_wouldTell_1 ⟨Nat.le_of_ble_eq_true rfl, Nat.le_of_ble_eq_true rfl⟩) hS ?_
  rintro _ G1 H locs ⟨x1, rfl, hF1, oq1, oq1a, oq1b, oq1c, oq1d, oq1e⟩ hT hS
  refine lv_iconst (v := (-1)) hx hb dX11_wouldTell_4 (by decide) ?_
  refine xi_ceq (tgt := 13) hx hb (rfl : Int32.toInt x1 = x1.toInt) ((by decide) : Int32.toInt (-1) = (-1 : Int)) dX11_wouldTell_5 (by decide) (fun c5 => ?_) (fun c5 => ?_)
  · refine lv_aload_n hx hb dX11_wouldTell_13 rfl (lv_at hl 0 rfl) ?_
    refine gX11_6 S hK hT ha kf_X11_206 dX11_wouldTell_14 (v := (G.1 a 6)) (hF1.1 _ _ (xnj (by decide) (xnj (by decide) (xnj (by decide) (xnj (by decide) xn0))))) (fun hz14 => ?_)
    refine xi_zne (tgt := 34) hx hb (rfl : Int32.toInt (G.1 a 6) = ((G.1 a 6).toInt)) dX11_wouldTell_17 (by decide) (fun c17 => ?_) (fun c17 => ?_)
    · refine lv_aload_n hx hb dX11_wouldTell_34 rfl (lv_at hl 0 rfl) ?_
      refine gX11_45 S hK hT ha kf_X11_316 dX11_wouldTell_35 (v := (G1.1 a 45)) rfl (?_)
      refine lv_istore_n (lv' := [(1, .int (G1.1 a 45)), (0, .ref a)]) hx hb dX11_wouldTell_38 rfl hl (by decide) rfl (fun ls hl => ?_)
      refine lv_aload_n hx hb dX11_wouldTell_39 rfl (lv_at hl 1 rfl) ?_
      refine gX11_4 S hK hT ha kf_X11_21 dX11_wouldTell_40 (fun _ _ => ?_)
      refine lv_iconst (v := 0) hx hb dX11_wouldTell_43 (by decide) ?_
      refine lv_aload_n hx hb dX11_wouldTell_44 rfl (lv_at hl 1 rfl) ?_
      refine gX11_1 S hK hT ha kf_X11_9 dX11_wouldTell_45 (fun _ _ => ?_)
      refine lv_iconst (v := 0) hx hb dX11_wouldTell_48 (by decide) ?_
      refine x_cv0 (x_runS (As := [.ref (F a 4), .int 0, .ref (F a 1), .int 0]) (rest := []) S (c_X11_copy l E K F G1 (F a 4) 0 (F a 1) 0 (XO.b hk9999e (by decide)) (XO.a hk9999d (by decide)) (v_X11_wouldTell_49_4 (K := K) (F := F) a G G1 r1 x1 ha hk9999 hj9999 hk9999a hj9999a hk9999b hj9999b hk9999c hj9999c hk9999d hj9999d hk9999e hj9999e hk9999f hj9999f hk9999g hj9999g hF1 hR hM hA h1 oq1 oq1a oq1b oq1c oq1d oq1e c5 (xzi hz14) c17 (hF1.2.1 _ (xn1 (xne_k hk9999d hk9999 (by decide)) (xn1 (xne_k hk9999d hk9999a (by decide)) (xn1 (xne_k hk9999d hk9999b (by decide)) (xn1 (xne_k hk9999d hk9999c (by decide)) xn0))))) (hF1.2.1 _ (xn1 (xne_k hk9999e hk9999 (by decide)) (xn1 (xne_k hk9999e hk9999a (by decide)) (xn1 (xne_k hk9999e hk9999b (by decide)) (xn1 (xne_k hk9999e hk9999c (by decide)) xn0))))))) ms_X11_copy km_X11_309 rfl rfl ⟨Nat.le_of_ble_eq_true rfl, Nat.le_of_ble_eq_true rfl⟩ hK (fun _ => XP.blind) (fun U hU hW => XP.at hK hz hS hT hU hW) rfl hl.1 (Nat.le_of_ble_eq_true rfl) dX11_wouldTell_49 ⟨Nat.le_of_ble_eq_true rfl, Nat.le_of_ble_eq_true rfl⟩) hS ?_
      rintro G49 H locs ⟨hF49, oq49⟩ hT hS
      refine lv_iload_n hx hb dX11_wouldTell_52 rfl (lv_at hl 0 rfl) ?_
      exact x_ri hx hb hr hlk hQ (Nat.le_of_ble_eq_true rfl) (Nat.le_of_ble_eq_true rfl) hS dX11_wouldTell_53 G49 ⟨_, rfl, (XFr.call (XFr.call XFr.rf hF1 (xm1 0 rfl (xm1 1 rfl (xm1 2 rfl (xm1 3 rfl xm0)))) (xm1 0 rfl (xm1 1 rfl (xm1 2 rfl (xm1 3 rfl xm0)))) xm0) hF49 xm0 (xm1 4 rfl xm0) xm0), (v_X11_wouldTell_53_5 (K := K) (F := F) a G G1 r1 x1 ha oq1 oq1b oq1c oq1e c5 (xzi hz14) c17), (v_X11_wouldTell_53_6 (F := F) a G G1 G49 oq49 (hF1.2.1 _ (xn1 (xne_k hk9999e hk9999 (by decide)) (xn1 (xne_k hk9999e hk9999a (by decide)) (xn1 (xne_k hk9999e hk9999b (by decide)) (xn1 (xne_k hk9999e hk9999c (by decide)) xn0)))))), (v_X11_wouldTell_53_7 (F := F) a G G1 G49 hA oq49 (hF1.2.1 _ (xn1 (xne_k hk9999e hk9999 (by decide)) (xn1 (xne_k hk9999e hk9999a (by decide)) (xn1 (xne_k hk9999e hk9999b (by decide)) (xn1 (xne_k hk9999e hk9999c (by decide)) xn0))))))⟩ hT
    · refine lv_aload_n hx hb dX11_wouldTell_20 rfl (lv_at hl 0 rfl) ?_
      refine lv_iconst (v := 1) hx hb dX11_wouldTell_21 (by decide) ?_
      refine x_cl0 (x_runV (b := a) (As := [.int 1]) (rest := []) S (c_X11_asks l E K F G1 a 1 r1 ha (v_X11_wouldTell_22_8 (F := F) a G G1 hR (hF1.2.1 _ (xn1 (xne_k hk9999f hk9999 (by decide)) (xn1 (xne_k hk9999f hk9999a (by decide)) (xn1 (xne_k hk9999f hk9999b (by decide)) (xn1 (xne_k hk9999f hk9999c (by decide)) xn0)))))) (v_X11_wouldTell_22_9 (F := F) a G G1 hM hA (hF1.2.1 _ (xn1 (xne_k hk9999d hk9999 (by decide)) (xn1 (xne_k hk9999d hk9999a (by decide)) (xn1 (xne_k hk9999d hk9999b (by decide)) (xn1 (xne_k hk9999d hk9999c (by decide)) xn0)))))) (v_X11_wouldTell_22_10 (F := F) a G G1 r1 h1 oq1d (hF1.2.1 _ (xn1 (xne_k hk9999f hk9999 (by decide)) (xn1 (xne_k hk9999f hk9999a (by decide)) (xn1 (xne_k hk9999f hk9999b (by decide)) (xn1 (xne_k hk9999f hk9999c (by decide)) xn0))))) (hF1.2.1 _ (xn1 (xne_k hk9999g hk9999 (by decide)) (xn1 (xne_k hk9999g hk9999a (by decide)) (xn1 (xne_k hk9999g hk9999b (by decide)) (xn1 (xne_j hj9999g hj9999c (by first | decide | omega)) xn0)))))) (v_X11_wouldTell_22_11 (F := F) G a G1 oq1d (hF1.2.1 _ (xn1 (xne_k hk9999d hk9999 (by decide)) (xn1 (xne_k hk9999d hk9999a (by decide)) (xn1 (xne_k hk9999d hk9999b (by decide)) (xn1 (xne_k hk9999d hk9999c (by decide)) xn0))))) (hF1.2.1 _ (xn1 (xne_k hk9999f hk9999 (by decide)) (xn1 (xne_k hk9999f hk9999a (by decide)) (xn1 (xne_k hk9999f hk9999b (by decide)) (xn1 (xne_k hk9999f hk9999c (by decide)) xn0))))))) mv_X11_asks km_X11_319 rfl rfl ⟨Nat.le_of_ble_eq_true rfl, Nat.le_of_ble_eq_true rfl⟩ (rc_13 hK hT ha) hK (fun _ => XP.blind) (fun U hU hW => XP.at hK hz hS hT hU hW) rfl hl.1 (Nat.le_of_ble_eq_true rfl) dX11_wouldTell_22 ⟨Nat.le_of_ble_eq_true rfl, Nat.le_of_ble_eq_true rfl⟩) hS ?_
      rintro _ G22 H locs ⟨x22, rfl, hF22, t22, oq22, oq22a, oq22b⟩ hT hS
      have t22 : -1 ≤ x22.toInt := t22
      have oq22 : pL G22 F a = fuO (G.2.1 (F a 10)) r1 (mw (G.2.1 (F a 1)) 0) (1 : Int) := by simp only [(show G1.2.1 (F a 10) = G.2.1 (F a 10) from (hF1.2.1 _ (xn1 (xne_k hk9999f hk9999 (by decide)) (xn1 (xne_k hk9999f hk9999a (by decide)) (xn1 (xne_k hk9999f hk9999b (by decide)) (xn1 (xne_k hk9999f hk9999c (by decide)) xn0)))))), (show G1.2.1 (F a 1) = G.2.1 (F a 1) from (hF1.2.1 _ (xn1 (xne_k hk9999d hk9999 (by decide)) (xn1 (xne_k hk9999d hk9999a (by decide)) (xn1 (xne_k hk9999d hk9999b (by decide)) (xn1 (xne_k hk9999d hk9999c (by decide)) xn0))))))] at oq22; exact oq22
      have oq22a : x22.toInt = ffP (G.2.1 (F a 10)) (mw (G.2.1 (F a 1)) 0) (pL G22 F a) := by simp only [(show G1.2.1 (F a 10) = G.2.1 (F a 10) from (hF1.2.1 _ (xn1 (xne_k hk9999f hk9999 (by decide)) (xn1 (xne_k hk9999f hk9999a (by decide)) (xn1 (xne_k hk9999f hk9999b (by decide)) (xn1 (xne_k hk9999f hk9999c (by decide)) xn0)))))), (show G1.2.1 (F a 1) = G.2.1 (F a 1) from (hF1.2.1 _ (xn1 (xne_k hk9999d hk9999 (by decide)) (xn1 (xne_k hk9999d hk9999a (by decide)) (xn1 (xne_k hk9999d hk9999b (by decide)) (xn1 (xne_k hk9999d hk9999c (by decide)) xn0))))))] at oq22a; exact oq22a
      refine lv_iconst (v := (-1)) hx hb dX11_wouldTell_25 (by decide) ?_
      refine xi_ceq (tgt := 34) hx hb (rfl : Int32.toInt x22 = x22.toInt) ((by decide) : Int32.toInt (-1) = (-1 : Int)) dX11_wouldTell_26 (by decide) (fun c26 => ?_) (fun c26 => ?_)
      · refine lv_aload_n hx hb dX11_wouldTell_34 rfl (lv_at hl 0 rfl) ?_
        refine gX11_45 S hK hT ha kf_X11_316 dX11_wouldTell_35 (v := (G1.1 a 45)) (hF22.1 _ _ (xnj (by decide) (xnj (by decide) xn0))) (?_)
        refine lv_istore_n (lv' := [(1, .int (G1.1 a 45)), (0, .ref a)]) hx hb dX11_wouldTell_38 rfl hl (by decide) rfl (fun ls hl => ?_)
        refine lv_aload_n hx hb dX11_wouldTell_39 rfl (lv_at hl 1 rfl) ?_
        refine gX11_4 S hK hT ha kf_X11_21 dX11_wouldTell_40 (fun _ _ => ?_)
        refine lv_iconst (v := 0) hx hb dX11_wouldTell_43 (by decide) ?_
        refine lv_aload_n hx hb dX11_wouldTell_44 rfl (lv_at hl 1 rfl) ?_
        refine gX11_1 S hK hT ha kf_X11_9 dX11_wouldTell_45 (fun _ _ => ?_)
        refine lv_iconst (v := 0) hx hb dX11_wouldTell_48 (by decide) ?_
        refine x_cv0 (x_runS (As := [.ref (F a 4), .int 0, .ref (F a 1), .int 0]) (rest := []) S (c_X11_copy l E K F G22 (F a 4) 0 (F a 1) 0 (XO.b hk9999e (by decide)) (XO.a hk9999d (by decide)) (v_X11_wouldTell_49_12 (K := K) (F := F) a G G1 G22 r1 x1 x22 ha hk9999 hj9999 hk9999a hj9999a hk9999b hj9999b hk9999c hj9999c hk9999d hj9999d hk9999e hj9999e hk9999f hj9999f hk9999g hj9999g hF1 hF22 hR hM hA h1 oq1 oq1a oq1b oq1c oq1d oq1e oq22 oq22a oq22b c5 (xzi hz14) c17 t22 c26 (hF1.2.1 _ (xn1 (xne_k hk9999e hk9999 (by decide)) (xn1 (xne_k hk9999e hk9999a (by decide)) (xn1 (xne_k hk9999e hk9999b (by decide)) (xn1 (xne_k hk9999e hk9999c (by decide)) xn0))))) ((hF22.2.1 _ (xn1 (xne_k hk9999d hk9999 (by decide)) (xn1 (xne_k hk9999d hk9999a (by decide)) (xn1 (xne_k hk9999d hk9999b (by decide)) xn0)))).trans (hF1.2.1 _ (xn1 (xne_k hk9999d hk9999 (by decide)) (xn1 (xne_k hk9999d hk9999a (by decide)) (xn1 (xne_k hk9999d hk9999b (by decide)) (xn1 (xne_k hk9999d hk9999c (by decide)) xn0)))))) (hF22.2.1 _ (xn1 (xne_k hk9999c hk9999 (by decide)) (xn1 (xne_k hk9999c hk9999a (by decide)) (xn1 (xne_k hk9999c hk9999b (by decide)) xn0)))) ((hF22.2.1 _ (xn1 (xne_k hk9999e hk9999 (by decide)) (xn1 (xne_k hk9999e hk9999a (by decide)) (xn1 (xne_k hk9999e hk9999b (by decide)) xn0)))).trans (hF1.2.1 _ (xn1 (xne_k hk9999e hk9999 (by decide)) (xn1 (xne_k hk9999e hk9999a (by decide)) (xn1 (xne_k hk9999e hk9999b (by decide)) (xn1 (xne_k hk9999e hk9999c (by decide)) xn0)))))) (hF22.1 _ _ (xnj (by decide) (xnj (by decide) xn0))) (hF22.1 _ _ (xnj (by decide) (xnj (by decide) xn0))))) ms_X11_copy km_X11_309 rfl rfl ⟨Nat.le_of_ble_eq_true rfl, Nat.le_of_ble_eq_true rfl⟩ hK (fun _ => XP.blind) (fun U hU hW => XP.at hK hz hS hT hU hW) rfl hl.1 (Nat.le_of_ble_eq_true rfl) dX11_wouldTell_49 ⟨Nat.le_of_ble_eq_true rfl, Nat.le_of_ble_eq_true rfl⟩) hS ?_
        rintro G49 H locs ⟨hF49, oq49⟩ hT hS
        refine lv_iload_n hx hb dX11_wouldTell_52 rfl (lv_at hl 0 rfl) ?_
        exact x_ri hx hb hr hlk hQ (Nat.le_of_ble_eq_true rfl) (Nat.le_of_ble_eq_true rfl) hS dX11_wouldTell_53 G49 ⟨_, rfl, (XFr.call (XFr.call (XFr.call XFr.rf hF1 (xm1 0 rfl (xm1 1 rfl (xm1 2 rfl (xm1 3 rfl xm0)))) (xm1 0 rfl (xm1 1 rfl (xm1 2 rfl (xm1 3 rfl xm0)))) xm0) hF22 (xm1 0 rfl (xm1 1 rfl xm0)) (xm1 0 rfl (xm1 1 rfl (xm1 2 rfl xm0))) xm0) hF49 xm0 (xm1 4 rfl xm0) xm0), (v_X11_wouldTell_53_13 (K := K) (F := F) a G G1 G22 r1 x1 x22 ha oq1 oq1b oq1c oq1e oq22 oq22a oq22b c5 (xzi hz14) c17 t22 c26), (v_X11_wouldTell_53_14 (F := F) a G G1 G22 G49 oq49 (hF1.2.1 _ (xn1 (xne_k hk9999e hk9999 (by decide)) (xn1 (xne_k hk9999e hk9999a (by decide)) (xn1 (xne_k hk9999e hk9999b (by decide)) (xn1 (xne_k hk9999e hk9999c (by decide)) xn0))))) ((hF22.2.1 _ (xn1 (xne_k hk9999e hk9999 (by decide)) (xn1 (xne_k hk9999e hk9999a (by decide)) (xn1 (xne_k hk9999e hk9999b (by decide)) xn0)))).trans (hF1.2.1 _ (xn1 (xne_k hk9999e hk9999 (by decide)) (xn1 (xne_k hk9999e hk9999a (by decide)) (xn1 (xne_k hk9999e hk9999b (by decide)) (xn1 (xne_k hk9999e hk9999c (by decide)) xn0))))))), (v_X11_wouldTell_53_15 (F := F) a G G1 G22 G49 hA oq49 (hF1.2.1 _ (xn1 (xne_k hk9999e hk9999 (by decide)) (xn1 (xne_k hk9999e hk9999a (by decide)) (xn1 (xne_k hk9999e hk9999b (by decide)) (xn1 (xne_k hk9999e hk9999c (by decide)) xn0))))) ((hF22.2.1 _ (xn1 (xne_k hk9999e hk9999 (by decide)) (xn1 (xne_k hk9999e hk9999a (by decide)) (xn1 (xne_k hk9999e hk9999b (by decide)) xn0)))).trans (hF1.2.1 _ (xn1 (xne_k hk9999e hk9999 (by decide)) (xn1 (xne_k hk9999e hk9999a (by decide)) (xn1 (xne_k hk9999e hk9999b (by decide)) (xn1 (xne_k hk9999e hk9999c (by decide)) xn0)))))))⟩ hT
      · refine lv_bipush (v := (-5)) hx hb dX11_wouldTell_29 (by decide) ?_
        refine lv_goto (tgt := 38) hx hb dX11_wouldTell_31 (by decide) ?_
        refine lv_istore_n (lv' := [(1, .int (-5)), (0, .ref a)]) hx hb dX11_wouldTell_38 rfl hl (by decide) rfl (fun ls hl => ?_)
        refine lv_aload_n hx hb dX11_wouldTell_39 rfl (lv_at hl 1 rfl) ?_
        refine gX11_4 S hK hT ha kf_X11_21 dX11_wouldTell_40 (fun _ _ => ?_)
        refine lv_iconst (v := 0) hx hb dX11_wouldTell_43 (by decide) ?_
        refine lv_aload_n hx hb dX11_wouldTell_44 rfl (lv_at hl 1 rfl) ?_
        refine gX11_1 S hK hT ha kf_X11_9 dX11_wouldTell_45 (fun _ _ => ?_)
        refine lv_iconst (v := 0) hx hb dX11_wouldTell_48 (by decide) ?_
        refine x_cv0 (x_runS (As := [.ref (F a 4), .int 0, .ref (F a 1), .int 0]) (rest := []) S (c_X11_copy l E K F G22 (F a 4) 0 (F a 1) 0 (XO.b hk9999e (by decide)) (XO.a hk9999d (by decide)) (v_X11_wouldTell_49_16 (K := K) (F := F) a G G1 G22 r1 x1 x22 ha hk9999 hj9999 hk9999a hj9999a hk9999b hj9999b hk9999c hj9999c hk9999d hj9999d hk9999e hj9999e hk9999f hj9999f hk9999g hj9999g hF1 hF22 hR hM hA h1 oq1 oq1a oq1b oq1c oq1d oq1e oq22 oq22a oq22b c5 (xzi hz14) c17 t22 c26 (hF1.2.1 _ (xn1 (xne_k hk9999e hk9999 (by decide)) (xn1 (xne_k hk9999e hk9999a (by decide)) (xn1 (xne_k hk9999e hk9999b (by decide)) (xn1 (xne_k hk9999e hk9999c (by decide)) xn0))))) ((hF22.2.1 _ (xn1 (xne_k hk9999d hk9999 (by decide)) (xn1 (xne_k hk9999d hk9999a (by decide)) (xn1 (xne_k hk9999d hk9999b (by decide)) xn0)))).trans (hF1.2.1 _ (xn1 (xne_k hk9999d hk9999 (by decide)) (xn1 (xne_k hk9999d hk9999a (by decide)) (xn1 (xne_k hk9999d hk9999b (by decide)) (xn1 (xne_k hk9999d hk9999c (by decide)) xn0)))))) (hF22.2.1 _ (xn1 (xne_k hk9999c hk9999 (by decide)) (xn1 (xne_k hk9999c hk9999a (by decide)) (xn1 (xne_k hk9999c hk9999b (by decide)) xn0)))) ((hF22.2.1 _ (xn1 (xne_k hk9999e hk9999 (by decide)) (xn1 (xne_k hk9999e hk9999a (by decide)) (xn1 (xne_k hk9999e hk9999b (by decide)) xn0)))).trans (hF1.2.1 _ (xn1 (xne_k hk9999e hk9999 (by decide)) (xn1 (xne_k hk9999e hk9999a (by decide)) (xn1 (xne_k hk9999e hk9999b (by decide)) (xn1 (xne_k hk9999e hk9999c (by decide)) xn0)))))) (hF22.1 _ _ (xnj (by decide) (xnj (by decide) xn0))) (hF22.1 _ _ (xnj (by decide) (xnj (by decide) xn0))))) ms_X11_copy km_X11_309 rfl rfl ⟨Nat.le_of_ble_eq_true rfl, Nat.le_of_ble_eq_true rfl⟩ hK (fun _ => XP.blind) (fun U hU hW => XP.at hK hz hS hT hU hW) rfl hl.1 (Nat.le_of_ble_eq_true rfl) dX11_wouldTell_49 ⟨Nat.le_of_ble_eq_true rfl, Nat.le_of_ble_eq_true rfl⟩) hS ?_
        rintro G49 H locs ⟨hF49, oq49⟩ hT hS
        refine lv_iload_n hx hb dX11_wouldTell_52 rfl (lv_at hl 0 rfl) ?_
        exact x_ri hx hb hr hlk hQ (Nat.le_of_ble_eq_true rfl) (Nat.le_of_ble_eq_true rfl) hS dX11_wouldTell_53 G49 ⟨_, rfl, (XFr.call (XFr.call (XFr.call XFr.rf hF1 (xm1 0 rfl (xm1 1 rfl (xm1 2 rfl (xm1 3 rfl xm0)))) (xm1 0 rfl (xm1 1 rfl (xm1 2 rfl (xm1 3 rfl xm0)))) xm0) hF22 (xm1 0 rfl (xm1 1 rfl xm0)) (xm1 0 rfl (xm1 1 rfl (xm1 2 rfl xm0))) xm0) hF49 xm0 (xm1 4 rfl xm0) xm0), (by rw [((by decide) : Int32.toInt (-5) = (-5 : Int))] <;> exact (v_X11_wouldTell_53_17 (K := K) (F := F) a G G1 G22 r1 x1 x22 ha oq1 oq1b oq1c oq1e oq22 oq22a oq22b c5 (xzi hz14) c17 t22 c26)), (v_X11_wouldTell_53_18 (F := F) a G G1 G22 G49 oq49 (hF1.2.1 _ (xn1 (xne_k hk9999e hk9999 (by decide)) (xn1 (xne_k hk9999e hk9999a (by decide)) (xn1 (xne_k hk9999e hk9999b (by decide)) (xn1 (xne_k hk9999e hk9999c (by decide)) xn0))))) ((hF22.2.1 _ (xn1 (xne_k hk9999e hk9999 (by decide)) (xn1 (xne_k hk9999e hk9999a (by decide)) (xn1 (xne_k hk9999e hk9999b (by decide)) xn0)))).trans (hF1.2.1 _ (xn1 (xne_k hk9999e hk9999 (by decide)) (xn1 (xne_k hk9999e hk9999a (by decide)) (xn1 (xne_k hk9999e hk9999b (by decide)) (xn1 (xne_k hk9999e hk9999c (by decide)) xn0))))))), (v_X11_wouldTell_53_19 (F := F) a G G1 G22 G49 hA oq49 (hF1.2.1 _ (xn1 (xne_k hk9999e hk9999 (by decide)) (xn1 (xne_k hk9999e hk9999a (by decide)) (xn1 (xne_k hk9999e hk9999b (by decide)) (xn1 (xne_k hk9999e hk9999c (by decide)) xn0))))) ((hF22.2.1 _ (xn1 (xne_k hk9999e hk9999 (by decide)) (xn1 (xne_k hk9999e hk9999a (by decide)) (xn1 (xne_k hk9999e hk9999b (by decide)) xn0)))).trans (hF1.2.1 _ (xn1 (xne_k hk9999e hk9999 (by decide)) (xn1 (xne_k hk9999e hk9999a (by decide)) (xn1 (xne_k hk9999e hk9999b (by decide)) (xn1 (xne_k hk9999e hk9999c (by decide)) xn0)))))))⟩ hT
  · refine lv_bipush (v := (-5)) hx hb dX11_wouldTell_8 (by decide) ?_
    refine lv_goto (tgt := 38) hx hb dX11_wouldTell_10 (by decide) ?_
    refine lv_istore_n (lv' := [(1, .int (-5)), (0, .ref a)]) hx hb dX11_wouldTell_38 rfl hl (by decide) rfl (fun ls hl => ?_)
    refine lv_aload_n hx hb dX11_wouldTell_39 rfl (lv_at hl 1 rfl) ?_
    refine gX11_4 S hK hT ha kf_X11_21 dX11_wouldTell_40 (fun _ _ => ?_)
    refine lv_iconst (v := 0) hx hb dX11_wouldTell_43 (by decide) ?_
    refine lv_aload_n hx hb dX11_wouldTell_44 rfl (lv_at hl 1 rfl) ?_
    refine gX11_1 S hK hT ha kf_X11_9 dX11_wouldTell_45 (fun _ _ => ?_)
    refine lv_iconst (v := 0) hx hb dX11_wouldTell_48 (by decide) ?_
    refine x_cv0 (x_runS (As := [.ref (F a 4), .int 0, .ref (F a 1), .int 0]) (rest := []) S (c_X11_copy l E K F G1 (F a 4) 0 (F a 1) 0 (XO.b hk9999e (by decide)) (XO.a hk9999d (by decide)) (v_X11_wouldTell_49_20 (K := K) (F := F) a G G1 r1 x1 ha hk9999 hj9999 hk9999a hj9999a hk9999b hj9999b hk9999c hj9999c hk9999d hj9999d hk9999e hj9999e hk9999f hj9999f hk9999g hj9999g hF1 hR hM hA h1 oq1 oq1a oq1b oq1c oq1d oq1e c5 (hF1.2.1 _ (xn1 (xne_k hk9999d hk9999 (by decide)) (xn1 (xne_k hk9999d hk9999a (by decide)) (xn1 (xne_k hk9999d hk9999b (by decide)) (xn1 (xne_k hk9999d hk9999c (by decide)) xn0))))) (hF1.2.1 _ (xn1 (xne_k hk9999e hk9999 (by decide)) (xn1 (xne_k hk9999e hk9999a (by decide)) (xn1 (xne_k hk9999e hk9999b (by decide)) (xn1 (xne_k hk9999e hk9999c (by decide)) xn0))))))) ms_X11_copy km_X11_309 rfl rfl ⟨Nat.le_of_ble_eq_true rfl, Nat.le_of_ble_eq_true rfl⟩ hK (fun _ => XP.blind) (fun U hU hW => XP.at hK hz hS hT hU hW) rfl hl.1 (Nat.le_of_ble_eq_true rfl) dX11_wouldTell_49 ⟨Nat.le_of_ble_eq_true rfl, Nat.le_of_ble_eq_true rfl⟩) hS ?_
    rintro G49 H locs ⟨hF49, oq49⟩ hT hS
    refine lv_iload_n hx hb dX11_wouldTell_52 rfl (lv_at hl 0 rfl) ?_
    exact x_ri hx hb hr hlk hQ (Nat.le_of_ble_eq_true rfl) (Nat.le_of_ble_eq_true rfl) hS dX11_wouldTell_53 G49 ⟨_, rfl, (XFr.call (XFr.call XFr.rf hF1 (xm1 0 rfl (xm1 1 rfl (xm1 2 rfl (xm1 3 rfl xm0)))) (xm1 0 rfl (xm1 1 rfl (xm1 2 rfl (xm1 3 rfl xm0)))) xm0) hF49 xm0 (xm1 4 rfl xm0) xm0), (by rw [((by decide) : Int32.toInt (-5) = (-5 : Int))] <;> exact (v_X11_wouldTell_53_21 (K := K) (F := F) a G G1 r1 x1 ha oq1 oq1b oq1c oq1e c5)), (v_X11_wouldTell_53_22 (F := F) a G G1 G49 oq49 (hF1.2.1 _ (xn1 (xne_k hk9999e hk9999 (by decide)) (xn1 (xne_k hk9999e hk9999a (by decide)) (xn1 (xne_k hk9999e hk9999b (by decide)) (xn1 (xne_k hk9999e hk9999c (by decide)) xn0)))))), (v_X11_wouldTell_53_23 (F := F) a G G1 G49 hA oq49 (hF1.2.1 _ (xn1 (xne_k hk9999e hk9999 (by decide)) (xn1 (xne_k hk9999e hk9999a (by decide)) (xn1 (xne_k hk9999e hk9999b (by decide)) (xn1 (xne_k hk9999e hk9999c (by decide)) xn0))))))⟩ hT

theorem z_X11_wouldSet_1 (a0 : Int) (a1 : Int) (a2 : Int) (a3 : Int) (a4 : Int) (a5 : Int) (h0 : 0 ≤ a0) (h1 : a0 < 3) (h2 : 0 ≤ a1) (h3 : a1 < 30) (h4 : 0 ≤ a2) (h5 : a2 < 3) (h6 : 0 ≤ a0 ∧ a0 ≤ 2 ∧ 0 ≤ a1 ∧ a1 ≤ 29 → a3 = 4 * (30 * a0 + a1)) (h7 : a4 = a3 + (1 : Int) ∨ a3 + (1 : Int) < -2147483648 ∨ 2147483648 ≤ a3 + (1 : Int)) (h8 : a5 = a4 + a2 ∨ a4 + a2 < -2147483648 ∨ 2147483648 ≤ a4 + a2) : 0 ≤ a5 ∧ a5 < ((360 : Nat) : Int) := by omega
abbrev rm_X11_wouldSet : Room := { frames := 8, cells := 0, slots := 0, locals := 187 }
set_option maxHeartbeats 4000000 in
set_option maxRecDepth 100000 in
theorem c_X11_wouldSet (l : Launch) (E : XE) (K : Nat → Nat) (F : Nat → Nat → Nat) (G : XG) (a : Nat) (p0 : Int32) (p1 : Int32) (p2 : Int32) (p3 : Int32) (ha : K a = 13) (hR : RV (G.2.1 (F a 10))) (hM : RM (G.2.1 (F a 1)) (0)) : Met l yX11_wouldSet (xw yX11_wouldSet cX11_wouldSet 6 (some .int)) rm_X11_wouldSet (va_Pc [.ref a, .int p0, .int p1, .int p2, .int p3] (XP E K F G)) (XQ E (fun v (u : XG) => ∃ r : Int32, v = .int r ∧ XFr [(a, 16), (a, 19), (a, 45), (a, 46), (a, 0)] [F a 15, F a 17, F a 18, F a 11, F a 1, F a 4, F a 12] [] G u ∧ (mw (u.2.1 (F a 1)) 0 = mw (G.2.1 (F a 1)) 0) ∧ (RM (u.2.1 (F a 1)) 0) ∧ ((whyS (mw (G.2.1 (F a 1)) 0) p0.toInt p1.toInt p2.toInt p3.toInt ≠ 0 ∧ r.toInt = whyS (mw (G.2.1 (F a 1)) 0) p0.toInt p1.toInt p2.toInt p3.toInt) ∨ (whyS (mw (G.2.1 (F a 1)) 0) p0.toInt p1.toInt p2.toInt p3.toInt = 0 ∧ AnsM ((G.1 a 6).toInt) r.toInt (G.2.1 (F a 10)) (mw (G.2.1 (F a 1)) 0) (rset (mw (G.2.1 (F a 1)) 0) (90 * p0.toInt + 30 * p2.toInt + p1.toInt) p3.toInt)))) (fun u H => TW E K F u H)) 0 0 (xA E) := by
  refine x_enter (by decide) (Nat.le_of_ble_eq_true rfl) ?_
  intro p e s m args below meth c Q S hr hlk hnm hQ hP ls hl
  obtain ⟨hz, hK, hT⟩ := hP
  obtain ⟨hx, hb, -, -, -⟩ := id S
  obtain ⟨H, hT, hS, hgo⟩ : ∃ H : Heap, TW E K F G H ∧ va_S (xA E) s.heap H [] ∧ H = s.heap := ⟨_, hT, va_S.rf, rfl⟩
  rw [← hgo]
  have hl : lv_has ls 6 [(0, .ref a), (1, .int p0), (2, .int p1), (3, .int p2), (4, .int p3)] := hl
  obtain ⟨hk9999, hj9999⟩ := fkX11_15 hT ha
  obtain ⟨hk9999a, hj9999a⟩ := fkX11_17 hT ha
  obtain ⟨hk9999b, hj9999b⟩ := fkX11_18 hT ha
  obtain ⟨hk9999c, hj9999c⟩ := fkX11_11 hT ha
  obtain ⟨hk9999d, hj9999d⟩ := fkX11_1 hT ha
  obtain ⟨hk9999e, hj9999e⟩ := fkX11_4 hT ha
  obtain ⟨hk9999f, hj9999f⟩ := fkX11_12 hT ha
  obtain ⟨hk9999g, hj9999g⟩ := fkX11_10 hT ha
  refine lv_aload_n hx hb dX11_wouldSet_0 rfl (lv_at hl 0 rfl) ?_
  refine lv_iconst (v := 0) hx hb dX11_wouldSet_1 (by decide) ?_
  refine pX11_0 (v := 0) S hK hT hS ha kf_X11_134 dX11_wouldSet_2 (fun H locs hT hS => ?_)
  obtain ⟨G2, hG2⟩ : ∃ GG : XG, GG = dput G a 0 0 := ⟨_, rfl⟩
  rw [← hG2] at hT
  refine lv_aload_n hx hb dX11_wouldSet_5 rfl (lv_at hl 0 rfl) ?_
  refine lv_iload_n hx hb dX11_wouldSet_6 rfl (lv_at hl 1 rfl) ?_
  refine lv_iload_n hx hb dX11_wouldSet_7 rfl (lv_at hl 2 rfl) ?_
  refine lv_iload_n hx hb dX11_wouldSet_8 rfl (lv_at hl 3 rfl) ?_
  refine lv_iload hx hb dX11_wouldSet_9 (lv_at hl 4 rfl) ?_
  refine x_clp (x_runV (b := a) (As := [.int p0, .int p1, .int p2, .int p3]) (rest := []) S (c_X11_whyNotSet l E K F G2 H a p0 p1 p2 p3 ha (v_X11_wouldSet_11_1 (F := F) a G2 G hM (ld_c hG2))) mv_X11_whyNotSet km_X11_359 rfl rfl ⟨Nat.le_of_ble_eq_true rfl, Nat.le_of_ble_eq_true rfl⟩ (rc_13 hK hT ha) hK (fun _ => XPh.blind) (fun U hU hW => XPh.at hK hz hS hT hU hW) rfl hl.1 (Nat.le_of_ble_eq_true rfl) dX11_wouldSet_11 ⟨Nat.le_of_ble_eq_true rfl, Nat.le_of_ble_eq_true rfl⟩) hS ?_
  rintro _ _ locs ⟨x11, rfl, oq11⟩ hS
  have oq11 : x11.toInt = whyS (mw (G.2.1 (F a 1)) 0) p0.toInt p1.toInt p2.toInt p3.toInt := by simp only [(show G2.2.1 (F a 1) = G.2.1 (F a 1) from (ld_c hG2))] at oq11; exact oq11
  refine lv_istore (lv' := [(5, .int x11), (0, .ref a), (1, .int p0), (2, .int p1), (3, .int p2), (4, .int p3)]) hx hb dX11_wouldSet_14 hl (by decide) rfl (fun ls hl => ?_)
  refine lv_iload hx hb dX11_wouldSet_16 (lv_at hl 0 rfl) ?_
  refine xi_zeq (tgt := 24) hx hb (rfl : Int32.toInt x11 = x11.toInt) dX11_wouldSet_18 (by decide) (fun c18 => ?_) (fun c18 => ?_)
  · have z24 : 0 ≤ p0.toInt ∧ p0.toInt < 3 ∧ 0 ≤ p1.toInt ∧ p1.toInt < 30 ∧ 0 ≤ p2.toInt ∧ p2.toInt < 3 ∧ (p3.toInt = -1000 ∨ (-99 ≤ p3.toInt ∧ p3.toInt ≤ 99)) := (whyS_0 (oq11.symm.trans c18)).1
    refine lv_aload_n hx hb dX11_wouldSet_24 rfl (lv_at hl 1 rfl) ?_
    refine x_cv0 (x_runV (b := a) (As := []) (rest := []) S (c_X11_start l E K F G2 a ha (v_X11_wouldSet_25_2 (F := F) a G2 G hR (ld_c hG2)) (v_X11_wouldSet_25_3 (F := F) a G2 G hM (ld_c hG2))) mv_X11_start km_X11_350 rfl rfl ⟨Nat.le_of_ble_eq_true rfl, Nat.le_of_ble_eq_true rfl⟩ (rc_13 hK hT ha) hK (fun _ => XP.blind) (fun U hU hW => XP.at hK hz hS hT hU hW) rfl hl.1 (Nat.le_of_ble_eq_true rfl) dX11_wouldSet_25 ⟨Nat.le_of_ble_eq_true rfl, Nat.le_of_ble_eq_true rfl⟩) hS ?_
    rintro G25 H locs ⟨hF25, oq25, oq25a, oq25b⟩ hT hS
    have oq25 : mw (G25.2.1 (F a 4)) 0 = mw (G.2.1 (F a 1)) 0 := by simp only [(show G2.2.1 (F a 1) = G.2.1 (F a 1) from (ld_c hG2))] at oq25; exact oq25
    have oq25b : LSt (G.2.1 (F a 10)) (G25.2.1 (F a 12)) (mw (G.2.1 (F a 1)) 0) 12 := by simp only [(show G2.2.1 (F a 10) = G.2.1 (F a 10) from (ld_c hG2)), (show G2.2.1 (F a 1) = G.2.1 (F a 1) from (ld_c hG2))] at oq25b; exact oq25b
    refine lv_aload_n hx hb dX11_wouldSet_28 rfl (lv_at hl 1 rfl) ?_
    refine gX11_1 S hK hT ha kf_X11_9 dX11_wouldSet_29 (fun _ _ => ?_)
    refine lv_iload_n hx hb dX11_wouldSet_32 rfl (lv_at hl 2 rfl) ?_
    refine lv_iload_n hx hb dX11_wouldSet_33 rfl (lv_at hl 3 rfl) ?_
    refine x_clp (x_runS (As := [.int p0, .int p1]) (rest := [.ref (F a 1)]) S (c_X11_at l E K F G25 H p0 p1) ms_X11_at km_X11_156 rfl rfl ⟨Nat.le_of_ble_eq_true rfl, Nat.le_of_ble_eq_true rfl⟩ hK (fun _ => XPh.blind) (fun U hU hW => XPh.at hK hz hS hT hU hW) rfl hl.1 (Nat.le_of_ble_eq_true rfl) dX11_wouldSet_34 ⟨Nat.le_of_ble_eq_true rfl, Nat.le_of_ble_eq_true rfl⟩) hS ?_
    rintro _ _ locs ⟨x34, rfl, t34⟩ hS
    have t34 : 0 ≤ p0.toInt ∧ p0.toInt ≤ 2 ∧ 0 ≤ p1.toInt ∧ p1.toInt ≤ 29 → x34.toInt = 4 * (30 * p0.toInt + p1.toInt) := t34
    refine lv_iconst (v := 1) hx hb dX11_wouldSet_37 (by decide) ?_
    refine xi_iadd hx hb (rfl : Int32.toInt x34 = x34.toInt) ((by decide) : Int32.toInt 1 = (1 : Int)) dX11_wouldSet_38 (fun x38 t38 => ?_)
    refine lv_iload_n hx hb dX11_wouldSet_39 rfl (lv_at hl 4 rfl) ?_
    refine xi_iadd hx hb (rfl : Int32.toInt x38 = x38.toInt) (rfl : Int32.toInt p2 = p2.toInt) dX11_wouldSet_40 (fun x40 t40 => ?_)
    refine lv_iload hx hb dX11_wouldSet_41 (lv_at hl 5 rfl) ?_
    refine as_0 (x := p3) S hK hT hS hk9999d ar_30 aw_30 (by decide) (z_X11_wouldSet_1 p0.toInt p1.toInt p2.toInt x34.toInt x38.toInt x40.toInt (z24).1 (z24).2.1 (z24).2.2.1 (z24).2.2.2.1 (z24).2.2.2.2.1 (z24).2.2.2.2.2.1 t34 t38 t40) dX11_wouldSet_43 (fun H locs hT hS => ?_)
    obtain ⟨G43, hG43⟩ : ∃ GG : XG, GG = cput G25 (F a 1) x40.toNatClampNeg p3 := ⟨_, rfl⟩
    rw [← hG43] at hT
    refine lv_aload_n hx hb dX11_wouldSet_44 rfl (lv_at hl 1 rfl) ?_
    refine x_cl0 (x_runV (b := a) (As := []) (rest := []) S (c_X11_wouldTell l E K F G43 a (mw (G.2.1 (F a 1)) 0) ha (v_X11_wouldSet_45_4 (F := F) a G G43 hR ((lc_c hG43 (xne_k hk9999g hk9999d (by decide))).trans ((hF25.2.1 _ (xn1 (xne_k hk9999g hk9999e (by decide)) (xn1 (xne_k hk9999g hk9999f (by decide)) xn0))).trans (ld_c hG2)))) (v_X11_wouldSet_45_5 (F := F) G43 G25 a x40 p3 G p0 p1 p2 x34 x38 hG43 hM z24 t34 t38 t40 ((hF25.2.1 _ (xn1 (xne_k hk9999d hk9999e (by decide)) (xn1 (xne_k hk9999d hk9999f (by decide)) xn0))).trans (ld_c hG2))) (v_X11_wouldSet_45_6 (F := F) G25 a G43 oq25a (lc_c hG43 (xne_k hk9999e hk9999d (by decide)))) (v_X11_wouldSet_45_7 (F := F) G a G25 G43 oq25b ((lc_c hG43 (xne_k hk9999g hk9999d (by decide))).trans ((hF25.2.1 _ (xn1 (xne_k hk9999g hk9999e (by decide)) (xn1 (xne_k hk9999g hk9999f (by decide)) xn0))).trans (ld_c hG2))) (lc_c hG43 (xne_k hk9999f hk9999d (by decide))))) mv_X11_wouldTell km_X11_389 rfl rfl ⟨Nat.le_of_ble_eq_true rfl, Nat.le_of_ble_eq_true rfl⟩ (rc_13 hK hT ha) hK (fun _ => XP.blind) (fun U hU hW => XP.at hK hz hS hT hU hW) rfl hl.1 (Nat.le_of_ble_eq_true rfl) dX11_wouldSet_45 ⟨Nat.le_of_ble_eq_true rfl, Nat.le_of_ble_eq_true rfl⟩) hS ?_
    rintro _ G45 H locs ⟨x45, rfl, hF45, oq45, oq45a, oq45b⟩ hT hS
    have oq45 : AnsM ((G.1 a 6).toInt) x45.toInt (G.2.1 (F a 10)) (mw (G.2.1 (F a 1)) 0) (mw (G43.2.1 (F a 1)) 0) := by simp only [(show G43.1 a 6 = G.1 a 6 from ((lc_d hG43).trans ((hF25.1 _ _ xn0).trans (ld_j hG2 (by decide))))), (show G43.2.1 (F a 10) = G.2.1 (F a 10) from ((lc_c hG43 (xne_k hk9999g hk9999d (by decide))).trans ((hF25.2.1 _ (xn1 (xne_k hk9999g hk9999e (by decide)) (xn1 (xne_k hk9999g hk9999f (by decide)) xn0))).trans (ld_c hG2))))] at oq45; exact oq45
    have oq45a : mw (G45.2.1 (F a 1)) 0 = mw (G25.2.1 (F a 4)) 0 := by simp only [(show G43.2.1 (F a 4) = G25.2.1 (F a 4) from (lc_c hG43 (xne_k hk9999e hk9999d (by decide))))] at oq45a; exact oq45a
    exact x_ri hx hb hr hlk hQ (Nat.le_of_ble_eq_true rfl) (Nat.le_of_ble_eq_true rfl) hS dX11_wouldSet_48 G45 ⟨_, rfl, (XFr.call (by rw [hG43]; exact XFr.cput (XFr.call (by rw [hG2]; exact XFr.dput XFr.rf (List.mem_of_getElem? (i := 4) rfl)) hF25 xm0 (xm1 5 rfl (xm1 6 rfl xm0)) xm0) (List.mem_of_getElem? (i := 4) rfl)) hF45 (xm1 0 rfl (xm1 1 rfl (xm1 2 rfl (xm1 3 rfl xm0)))) (xm1 0 rfl (xm1 1 rfl (xm1 2 rfl (xm1 3 rfl (xm1 4 rfl xm0))))) xm0), (v_X11_wouldSet_48_8 (F := F) G25 a G G45 oq25 oq45a), (v_X11_wouldSet_48_9 (F := F) G45 a oq45b), (v_X11_wouldSet_48_10 (K := K) (F := F) a G G25 G43 x40 p3 x11 p0 p1 p2 x45 x34 x38 ha hG43 hM oq11 oq45 c18 z24 t34 t38 t40 ((hF25.2.1 _ (xn1 (xne_k hk9999d hk9999e (by decide)) (xn1 (xne_k hk9999d hk9999f (by decide)) xn0))).trans (ld_c hG2)))⟩ hT
  · refine lv_iload hx hb dX11_wouldSet_21 (lv_at hl 0 rfl) ?_
    exact x_ri hx hb hr hlk hQ (Nat.le_of_ble_eq_true rfl) (Nat.le_of_ble_eq_true rfl) hS dX11_wouldSet_23 G2 ⟨_, rfl, (by rw [hG2]; exact XFr.dput XFr.rf (List.mem_of_getElem? (i := 4) rfl)), (v_X11_wouldSet_23_11 (F := F) G2 a G (ld_c hG2)), (v_X11_wouldSet_23_12 (F := F) G a G2 hM (ld_c hG2)), (v_X11_wouldSet_23_13 (K := K) (F := F) a G x11 p0 p1 p2 p3 ha oq11 c18)⟩ hT

theorem z_X11_depth_1 (a0 : Int) (a1 : Int) (a2 : Int) (h0 : (a1 = 1 ∧ 0 ≤ a0 ∧ a0 ≤ 11 ∧ a2 ≠ -1) ∨ (a1 = 0 ∧ (¬ (0 ≤ a0 ∧ a0 ≤ 11) ∨ a2 = -1))) (h1 : ¬ (a1 = 0)) : 0 ≤ a0 ∧ a0 ≤ 11 := by omega
theorem z_X11_depth_4 (a0 : Int) (h0 : 0 ≤ a0 ∧ a0 ≤ 31) : ¬ (100 - a0 < ((0 : Nat) : Int)) := by omega
theorem z_X11_depth_7 (a0 : Int) (a1 : Int) (a2 : Int) (a3 : Int) (a4 : Int) (a5 : Int) (h0 : 0 ≤ a4 ∧ a4 ≤ 2) (h1 : 0 ≤ a5 ∧ a5 ≤ 2) (h2 : 0 ≤ a0 ∧ a0 < 30) (h3 : 0 ≤ a4 ∧ a4 ≤ 2 ∧ 0 ≤ a0 ∧ a0 ≤ 29 → a1 = 4 * (30 * a4 + a0)) (h4 : a2 = a1 + (1 : Int) ∨ a1 + (1 : Int) < -2147483648 ∨ 2147483648 ≤ a1 + (1 : Int)) (h5 : a3 = a2 + a5 ∨ a2 + a5 < -2147483648 ∨ 2147483648 ≤ a2 + a5) : 0 ≤ a3 ∧ a3 < ((360 : Nat) : Int) := by omega
theorem z_X11_depth_8 (a0 : Int) (a1 : Int) (a2 : Int) (a3 : Int) (a4 : Int) (a5 : Int) (h0 : 0 ≤ a4 ∧ a4 ≤ 2) (h1 : 0 ≤ a5 ∧ a5 ≤ 2) (h2 : 0 ≤ a0 ∧ a0 < 30) (h3 : 0 ≤ a4 ∧ a4 ≤ 2 ∧ 0 ≤ a0 ∧ a0 ≤ 29 → a1 = 4 * (30 * a4 + a0)) (h4 : a2 = a1 + (1 : Int) ∨ a1 + (1 : Int) < -2147483648 ∨ 2147483648 ≤ a1 + (1 : Int)) (h5 : a3 = a2 + a5 ∨ a2 + a5 < -2147483648 ∨ 2147483648 ≤ a2 + a5) : a3 = 4 * (30 * a4 + a0) + 1 + a5 := by omega
theorem z_X11_depth_9 (a0 : Int) (a1 : Int) (a2 : Int) (h0 : 0 ≤ a1 ∧ a1 ≤ 2) (h1 : 0 ≤ a2 ∧ a2 ≤ 2) (h2 : 0 ≤ a0 ∧ a0 < 30) : (0 ≤ a1 ∧ a1 < 3) ∧ (0 ≤ a0 ∧ a0 < 30) ∧ (0 ≤ a2 ∧ a2 < 3) := by omega
theorem z_X11_depth_12 (a0 : Int) (a1 : Int) (h0 : 0 ≤ a0 ∧ a0 ≤ 31) (h1 : a1 = (a0 + 1) ∨ (a0 + 1) < -2147483648 ∨ 2147483648 ≤ (a0 + 1)) : a1 = (a0 + 1) := by omega
theorem z_X11_depth_13 (a0 : Int) (h0 : 0 ≤ a0 ∧ a0 ≤ 31) (h1 : ¬ ((30 : Int) < a0)) : 0 ≤ (a0 + 1) ∧ (a0 + 1) ≤ 31 := by omega
theorem z_X11_depth_14 (a0 : Int) (a1 : Int) (a2 : Int) (a3 : Int) (h0 : (a0 = 1 ∧ a3 ≠ -2000) ∨ (a0 = 0 ∧ a3 = -2000)) (h1 : ¬ (0 ≤ a2 ∧ a2 < 3 ∧ 0 ≤ a1 ∧ a1 < 30) → a3 = -2000) (h2 : a0 ≠ 0) : 0 ≤ a1 ∧ a1 < 30 := by omega
theorem z_X11_depth_15 (a0 : Int) (a1 : Int) (h0 : (a0 = 1 ∧ a1 ≠ -2000) ∨ (a0 = 0 ∧ a1 = -2000)) (h1 : a0 ≠ 0) : a1 ≠ -2000 := by omega
theorem z_X11_depth_16 (a0 : Int) (a1 : Nat) (h0 : 100 - a0 < ((a1 + 1 : Nat) : Int)) : 100 - (a0 + 1) < ((a1 : Nat) : Int) := by omega
theorem z_X11_depth_17 (a0 : Int) (a1 : Int) (a2 : Int) (a3 : Int) (h0 : (a1 = 1 ∧ a3 ≠ -2000) ∨ (a1 = 0 ∧ a3 = -2000)) (h1 : a1 ≠ 0) (h2 : ¬ (0 ≤ a2 ∧ a2 < 3 ∧ 0 ≤ a0 ∧ a0 < 30) → a3 = -2000) : 0 ≤ a0 ∧ a0 < 30 := by omega
abbrev rm_X11_depth : Room := { frames := 3, cells := 0, slots := 0, locals := 67 }
set_option maxHeartbeats 4000000 in
set_option maxRecDepth 100000 in
theorem c_X11_depth (l : Launch) (E : XE) (K : Nat → Nat) (F : Nat → Nat → Nat) (G : XG) (a : Nat) (p0 : Int32) (p1 : Int32) (ha : K a = 13) (hR : RV (G.2.1 (F a 10))) (hM : RM (G.2.1 (F a 1)) (0)) : Met l yX11_depth (xw yX11_depth cX11_depth 6 (some .int)) rm_X11_depth (va_Pc [.ref a, .int p0, .int p1] (XP E K F G)) (XQ E (fun v (u : XG) => ∃ r : Int32, v = .int r ∧ XFr [(a, 0)] [] [] G u ∧ ((¬ (0 ≤ p0.toInt ∧ p0.toInt ≤ 11 ∧ aI (G.2.1 (F a 10)) (10 * p0.toInt + 0) ≠ -1) ∧ r.toInt = -1) ∨ ((0 ≤ p0.toInt ∧ p0.toInt ≤ 11 ∧ aI (G.2.1 (F a 10)) (10 * p0.toInt + 0) ≠ -1) ∧ r.toInt = dpS (mw (G.2.1 (F a 1)) 0) (aI (G.2.1 (F a 10)) (10 * p0.toInt + 0)) (aI (G.2.1 (F a 10)) (10 * p0.toInt + 1)) (aI (G.2.1 (F a 10)) (10 * p0.toInt + 2)) p1.toInt))) (fun u H => TW E K F u H)) 0 0 (xA E) := by
  refine x_enter (by decide) (Nat.le_of_ble_eq_true rfl) ?_
  intro p e s m args below meth c Q S hr hlk hnm hQ hP ls hl
  obtain ⟨hz, hK, hT⟩ := hP
  obtain ⟨hx, hb, -, -, -⟩ := id S
  obtain ⟨H, hT, hS, hgo⟩ : ∃ H : Heap, TW E K F G H ∧ va_S (xA E) s.heap H [] ∧ H = s.heap := ⟨_, hT, va_S.rf, rfl⟩
  rw [← hgo]
  have hl : lv_has ls 6 [(0, .ref a), (1, .int p0), (2, .int p1)] := hl
  obtain ⟨hk9999, hj9999⟩ := fkX11_10 hT ha
  obtain ⟨hk9999a, hj9999a⟩ := fkX11_1 hT ha
  refine lv_aload_n hx hb dX11_depth_0 rfl (lv_at hl 0 rfl) ?_
  refine lv_iconst (v := 0) hx hb dX11_depth_1 (by decide) ?_
  refine pX11_0 (v := 0) S hK hT hS ha kf_X11_134 dX11_depth_2 (fun H locs hT hS => ?_)
  obtain ⟨G2, hG2⟩ : ∃ GG : XG, GG = dput G a 0 0 := ⟨_, rfl⟩
  rw [← hG2] at hT
  refine lv_aload_n hx hb dX11_depth_5 rfl (lv_at hl 0 rfl) ?_
  refine lv_iload_n hx hb dX11_depth_6 rfl (lv_at hl 1 rfl) ?_
  refine x_clp (x_runV (b := a) (As := [.int p0]) (rest := []) S (c_X11_isRule l E K F G2 H a p0 ha) mv_X11_isRule km_X11_162 rfl rfl ⟨Nat.le_of_ble_eq_true rfl, Nat.le_of_ble_eq_true rfl⟩ (rc_13 hK hT ha) hK (fun _ => XPh.blind) (fun U hU hW => XPh.at hK hz hS hT hU hW) rfl hl.1 (Nat.le_of_ble_eq_true rfl) dX11_depth_7 ⟨Nat.le_of_ble_eq_true rfl, Nat.le_of_ble_eq_true rfl⟩) hS ?_
  rintro _ _ locs ⟨x7, rfl, b7, t7⟩ hS
  have t7 : (x7.toInt = 1 ∧ 0 ≤ p0.toInt ∧ p0.toInt ≤ 11 ∧ (aI (G.2.1 (F a 10)) (10 * p0.toInt + 0)) ≠ -1) ∨ (x7.toInt = 0 ∧ (¬ (0 ≤ p0.toInt ∧ p0.toInt ≤ 11) ∨ (aI (G.2.1 (F a 10)) (10 * p0.toInt + 0)) = -1)) := by rw [(show G2.2.1 (F a 10) = G.2.1 (F a 10) from (ld_c hG2))] at t7; exact t7
  refine xi_zeq (tgt := 37) hx hb (rfl : Int32.toInt x7 = x7.toInt) dX11_depth_10 (by decide) (fun c10 => ?_) (fun c10 => ?_)
  · refine lv_iconst (v := (-1)) hx hb dX11_depth_37 (by decide) ?_
    exact x_ri hx hb hr hlk hQ (Nat.le_of_ble_eq_true rfl) (Nat.le_of_ble_eq_true rfl) hS dX11_depth_38 G2 ⟨_, rfl, (by rw [hG2]; exact XFr.dput XFr.rf (List.mem_of_getElem? (i := 0) rfl)), (by rw [((by decide) : Int32.toInt (-1) = (-1 : Int))] <;> exact (v_X11_depth_38_1 (K := K) (F := F) a G x7 p0 p1 ha t7 c10))⟩ hT
  · have z13 : (-1 ≤ (aI (G.2.1 (F a 10)) (10 * p0.toInt + 0)) ∧ (aI (G.2.1 (F a 10)) (10 * p0.toInt + 0)) ≤ 5) ∧ (0 ≤ (aI (G.2.1 (F a 10)) (10 * p0.toInt + 1)) ∧ (aI (G.2.1 (F a 10)) (10 * p0.toInt + 1)) ≤ 2) ∧ (0 ≤ (aI (G.2.1 (F a 10)) (10 * p0.toInt + 2)) ∧ (aI (G.2.1 (F a 10)) (10 * p0.toInt + 2)) ≤ 2) ∧ (-1 ≤ (aI (G.2.1 (F a 10)) (10 * p0.toInt + 3)) ∧ (aI (G.2.1 (F a 10)) (10 * p0.toInt + 3)) ≤ 2) ∧ ((aI (G.2.1 (F a 10)) (10 * p0.toInt + 0)) = 1 ∨ (aI (G.2.1 (F a 10)) (10 * p0.toInt + 0)) = 3 ∨ (aI (G.2.1 (F a 10)) (10 * p0.toInt + 0)) = 4 → 0 ≤ (aI (G.2.1 (F a 10)) (10 * p0.toInt + 3))) := RV.row hR (z_X11_depth_1 p0.toInt x7.toInt (aI (G.2.1 (F a 10)) (10 * p0.toInt + 0)) t7 c10)
    refine lv_aload_n hx hb dX11_depth_13 rfl (lv_at hl 0 rfl) ?_
    refine lv_iload_n hx hb dX11_depth_14 rfl (lv_at hl 1 rfl) ?_
    refine lv_iconst (v := 0) hx hb dX11_depth_15 (by decide) ?_
    refine x_clp (x_runV (b := a) (As := [.int p0, .int 0]) (rest := []) S (c_X11_of l E K F G2 H a p0 0 ha (z_X11_depth_1 p0.toInt x7.toInt (aI (G.2.1 (F a 10)) (10 * p0.toInt + 0)) t7 c10) (by decide)) mv_X11_of km_X11_165 rfl rfl ⟨Nat.le_of_ble_eq_true rfl, Nat.le_of_ble_eq_true rfl⟩ (rc_13 hK hT ha) hK (fun _ => XPh.blind) (fun U hU hW => XPh.at hK hz hS hT hU hW) rfl hl.1 (Nat.le_of_ble_eq_true rfl) dX11_depth_16 ⟨Nat.le_of_ble_eq_true rfl, Nat.le_of_ble_eq_true rfl⟩) hS ?_
    rintro _ _ locs ⟨x16, rfl, t16⟩ hS
    have t16 : x16.toInt = (aI (G.2.1 (F a 10)) (10 * p0.toInt + 0)) := by rw [(show G2.2.1 (F a 10) = G.2.1 (F a 10) from (ld_c hG2))] at t16; exact t16
    refine lv_iconst (v := 5) hx hb dX11_depth_19 (by decide) ?_
    refine xi_cne (tgt := 37) hx hb (t16 : Int32.toInt x16 = (aI (G.2.1 (F a 10)) (10 * p0.toInt + 0))) ((by decide) : Int32.toInt 5 = (5 : Int)) dX11_depth_20 (by decide) (fun c20 => ?_) (fun c20 => ?_)
    · refine lv_iconst (v := (-1)) hx hb dX11_depth_37 (by decide) ?_
      exact x_ri hx hb hr hlk hQ (Nat.le_of_ble_eq_true rfl) (Nat.le_of_ble_eq_true rfl) hS dX11_depth_38 G2 ⟨_, rfl, (by rw [hG2]; exact XFr.dput XFr.rf (List.mem_of_getElem? (i := 0) rfl)), (by rw [((by decide) : Int32.toInt (-1) = (-1 : Int))] <;> exact (v_X11_depth_38_2 (K := K) (F := F) a G p0 x7 p1 ha t7 c10 z13 c20))⟩ hT
    · refine lv_aload_n hx hb dX11_depth_23 rfl (lv_at hl 0 rfl) ?_
      refine lv_aload_n hx hb dX11_depth_24 rfl (lv_at hl 0 rfl) ?_
      refine lv_iload_n hx hb dX11_depth_25 rfl (lv_at hl 1 rfl) ?_
      refine lv_iconst (v := 1) hx hb dX11_depth_26 (by decide) ?_
      refine x_clp (x_runV (b := a) (As := [.int p0, .int 1]) (rest := [.ref a]) S (c_X11_of l E K F G2 H a p0 1 ha (z_X11_depth_1 p0.toInt x7.toInt (aI (G.2.1 (F a 10)) (10 * p0.toInt + 0)) t7 c10) (by decide)) mv_X11_of km_X11_165 rfl rfl ⟨Nat.le_of_ble_eq_true rfl, Nat.le_of_ble_eq_true rfl⟩ (rc_13 hK hT ha) hK (fun _ => XPh.blind) (fun U hU hW => XPh.at hK hz hS hT hU hW) rfl hl.1 (Nat.le_of_ble_eq_true rfl) dX11_depth_27 ⟨Nat.le_of_ble_eq_true rfl, Nat.le_of_ble_eq_true rfl⟩) hS ?_
      rintro _ _ locs ⟨x27, rfl, t27⟩ hS
      have t27 : x27.toInt = (aI (G.2.1 (F a 10)) (10 * p0.toInt + 1)) := by rw [(show G2.2.1 (F a 10) = G.2.1 (F a 10) from (ld_c hG2))] at t27; exact t27
      refine lv_iload_n hx hb dX11_depth_30 rfl (lv_at hl 2 rfl) ?_
      refine x_clp (x_runV (b := a) (As := [.int x27, .int p1]) (rest := []) S (c_X11_isRow l E K F G2 H a x27 p1 ha (v_X11_depth_31_3 (F := F) a G2 G hM (ld_c hG2))) mv_X11_isRow km_X11_346 rfl rfl ⟨Nat.le_of_ble_eq_true rfl, Nat.le_of_ble_eq_true rfl⟩ (rc_13 hK hT ha) hK (fun _ => XPh.blind) (fun U hU hW => XPh.at hK hz hS hT hU hW) rfl hl.1 (Nat.le_of_ble_eq_true rfl) dX11_depth_31 ⟨Nat.le_of_ble_eq_true rfl, Nat.le_of_ble_eq_true rfl⟩) hS ?_
      rintro _ _ locs ⟨x31, rfl, b31, t31⟩ hS
      have t31 : (x31.toInt = 1 ∧ (cel (mw (G.2.1 (F a 1)) 0) (aI (G.2.1 (F a 10)) (10 * p0.toInt + 1)) (p1.toInt) 0) ≠ -2000) ∨ (x31.toInt = 0 ∧ (cel (mw (G.2.1 (F a 1)) 0) (aI (G.2.1 (F a 10)) (10 * p0.toInt + 1)) (p1.toInt) 0) = -2000) := by rw [(t27 : Int32.toInt x27 = (aI (G.2.1 (F a 10)) (10 * p0.toInt + 1)))] at t31; rw [(show G2.2.1 (F a 1) = G.2.1 (F a 1) from (ld_c hG2))] at t31; exact t31
      refine xi_zne (tgt := 39) hx hb (rfl : Int32.toInt x31 = x31.toInt) dX11_depth_34 (by decide) (fun c34 => ?_) (fun c34 => ?_)
      · have z39 : ¬ (0 ≤ (aI (G.2.1 (F a 10)) (10 * p0.toInt + 1)) ∧ (aI (G.2.1 (F a 10)) (10 * p0.toInt + 1)) < 3 ∧ 0 ≤ p1.toInt ∧ p1.toInt < 30) → (cel (mw (G.2.1 (F a 1)) 0) (aI (G.2.1 (F a 10)) (10 * p0.toInt + 1)) (p1.toInt) 0) = -2000 := fun h9 => cel_out (by omega)
        refine lv_iconst (v := 0) hx hb dX11_depth_39 (by decide) ?_
        refine lv_istore_n (lv' := [(3, .int 0), (0, .ref a), (1, .int p0), (2, .int p1)]) hx hb dX11_depth_40 rfl hl (by decide) rfl (fun ls hl => ?_)
        refine lv_iload_n hx hb dX11_depth_41 rfl (lv_at hl 3 rfl) ?_
        refine lv_istore (lv' := [(4, .int p1), (3, .int 0), (0, .ref a), (1, .int p0), (2, .int p1)]) hx hb dX11_depth_42 hl (by decide) rfl (fun ls hl => ?_)
        have L44 : ∀ (N44 : Nat) (l3_44 : Int32) (l4_44 : Int32) (H : Heap) (locs : List Loc) (ls : Array Slot), dpF (mw (G.2.1 (F a 1)) 0) (aI (G.2.1 (F a 10)) (10 * p0.toInt + 1)) (aI (G.2.1 (F a 10)) (10 * p0.toInt + 2)) 31 0 (p1.toInt) = dpF (mw (G.2.1 (F a 1)) 0) (aI (G.2.1 (F a 10)) (10 * p0.toInt + 1)) (aI (G.2.1 (F a 10)) (10 * p0.toInt + 2)) (31 - l3_44.toInt).toNat (l3_44.toInt) (l4_44.toInt) → 0 ≤ l3_44.toInt ∧ l3_44.toInt ≤ 31 → 0 ≤ l4_44.toInt ∧ l4_44.toInt < 30 → (cel (mw (G.2.1 (F a 1)) 0) (aI (G.2.1 (F a 10)) (10 * p0.toInt + 1)) (l4_44.toInt) 0) ≠ -2000 → 100 - l3_44.toInt < ((N44 : Nat) : Int) → TW E K F G2 H → va_S (xA E) s.heap H locs → lv_has ls 6 [(0, .ref a), (1, .int p0), (3, .int l3_44), (4, .int l4_44)] → W p l e rm_X11_depth s m args below meth c H locs 0 0 Q (F0 m 44 ls []) := by
          intro N44
          induction N44 with
          | zero =>
            intro l3_44 l4_44 H locs ls dp I44_0 I44_1 I44_2 hm44
            exact absurd hm44 (z_X11_depth_4 l3_44.toInt I44_0)
          | succ N44 ih44 =>
            intro l3_44 l4_44 H locs ls dp I44_0 I44_1 I44_2 hm44 hT hS hl
            refine lv_iload_n hx hb dX11_depth_44 rfl (lv_at hl 2 rfl) ?_
            refine lv_bipush (v := 30) hx hb dX11_depth_45 (by decide) ?_
            refine xi_cgt (tgt := 104) hx hb (rfl : Int32.toInt l3_44 = l3_44.toInt) ((by decide) : Int32.toInt 30 = (30 : Int)) dX11_depth_47 (by decide) (fun c47 => ?_) (fun c47 => ?_)
            · refine lv_bipush (v := (-2)) hx hb dX11_depth_104 (by decide) ?_
              exact x_ri hx hb hr hlk hQ (Nat.le_of_ble_eq_true rfl) (Nat.le_of_ble_eq_true rfl) hS dX11_depth_106 G2 ⟨_, rfl, (by rw [hG2]; exact XFr.dput XFr.rf (List.mem_of_getElem? (i := 0) rfl)), (by rw [((by decide) : Int32.toInt (-2) = (-2 : Int))] <;> exact (v_X11_depth_106_4 (K := K) (F := F) a G p0 p1 l3_44 l4_44 x7 x31 N44 ha dp t7 c10 z13 c20 t31 c34 z39 I44_0 I44_1 I44_2 hm44 c47))⟩ hT
            · refine lv_aload_n hx hb dX11_depth_50 rfl (lv_at hl 0 rfl) ?_
              refine gX11_1 S hK hT ha kf_X11_9 dX11_depth_51 (fun _ _ => ?_)
              refine lv_aload_n hx hb dX11_depth_54 rfl (lv_at hl 0 rfl) ?_
              refine lv_iload_n hx hb dX11_depth_55 rfl (lv_at hl 1 rfl) ?_
              refine lv_iconst (v := 1) hx hb dX11_depth_56 (by decide) ?_
              refine x_clp (x_runV (b := a) (As := [.int p0, .int 1]) (rest := [.ref (F a 1)]) S (c_X11_of l E K F G2 H a p0 1 ha (z_X11_depth_1 p0.toInt x7.toInt (aI (G.2.1 (F a 10)) (10 * p0.toInt + 0)) t7 c10) (by decide)) mv_X11_of km_X11_165 rfl rfl ⟨Nat.le_of_ble_eq_true rfl, Nat.le_of_ble_eq_true rfl⟩ (rc_13 hK hT ha) hK (fun _ => XPh.blind) (fun U hU hW => XPh.at hK hz hS hT hU hW) rfl hl.1 (Nat.le_of_ble_eq_true rfl) dX11_depth_57 ⟨Nat.le_of_ble_eq_true rfl, Nat.le_of_ble_eq_true rfl⟩) hS ?_
              rintro _ _ locs ⟨x57, rfl, t57⟩ hS
              have t57 : x57.toInt = (aI (G.2.1 (F a 10)) (10 * p0.toInt + 1)) := by rw [(show G2.2.1 (F a 10) = G.2.1 (F a 10) from (ld_c hG2))] at t57; exact t57
              refine lv_iload hx hb dX11_depth_60 (lv_at hl 3 rfl) ?_
              refine x_clp (x_runS (As := [.int x57, .int l4_44]) (rest := [.ref (F a 1)]) S (c_X11_at l E K F G2 H x57 l4_44) ms_X11_at km_X11_156 rfl rfl ⟨Nat.le_of_ble_eq_true rfl, Nat.le_of_ble_eq_true rfl⟩ hK (fun _ => XPh.blind) (fun U hU hW => XPh.at hK hz hS hT hU hW) rfl hl.1 (Nat.le_of_ble_eq_true rfl) dX11_depth_62 ⟨Nat.le_of_ble_eq_true rfl, Nat.le_of_ble_eq_true rfl⟩) hS ?_
              rintro _ _ locs ⟨x62, rfl, t62⟩ hS
              have t62 : 0 ≤ (aI (G.2.1 (F a 10)) (10 * p0.toInt + 1)) ∧ (aI (G.2.1 (F a 10)) (10 * p0.toInt + 1)) ≤ 2 ∧ 0 ≤ l4_44.toInt ∧ l4_44.toInt ≤ 29 → x62.toInt = 4 * (30 * (aI (G.2.1 (F a 10)) (10 * p0.toInt + 1)) + l4_44.toInt) := by rw [(t57 : Int32.toInt x57 = (aI (G.2.1 (F a 10)) (10 * p0.toInt + 1)))] at t62; exact t62
              refine lv_iconst (v := 1) hx hb dX11_depth_65 (by decide) ?_
              refine xi_iadd hx hb (rfl : Int32.toInt x62 = x62.toInt) ((by decide) : Int32.toInt 1 = (1 : Int)) dX11_depth_66 (fun x66 t66 => ?_)
              refine lv_aload_n hx hb dX11_depth_67 rfl (lv_at hl 0 rfl) ?_
              refine lv_iload_n hx hb dX11_depth_68 rfl (lv_at hl 1 rfl) ?_
              refine lv_iconst (v := 2) hx hb dX11_depth_69 (by decide) ?_
              refine x_clp (x_runV (b := a) (As := [.int p0, .int 2]) (rest := [.int x66, .ref (F a 1)]) S (c_X11_of l E K F G2 H a p0 2 ha (z_X11_depth_1 p0.toInt x7.toInt (aI (G.2.1 (F a 10)) (10 * p0.toInt + 0)) t7 c10) (by decide)) mv_X11_of km_X11_165 rfl rfl ⟨Nat.le_of_ble_eq_true rfl, Nat.le_of_ble_eq_true rfl⟩ (rc_13 hK hT ha) hK (fun _ => XPh.blind) (fun U hU hW => XPh.at hK hz hS hT hU hW) rfl hl.1 (Nat.le_of_ble_eq_true rfl) dX11_depth_70 ⟨Nat.le_of_ble_eq_true rfl, Nat.le_of_ble_eq_true rfl⟩) hS ?_
              rintro _ _ locs ⟨x70, rfl, t70⟩ hS
              have t70 : x70.toInt = (aI (G.2.1 (F a 10)) (10 * p0.toInt + 2)) := by rw [(show G2.2.1 (F a 10) = G.2.1 (F a 10) from (ld_c hG2))] at t70; exact t70
              refine xi_iadd hx hb (rfl : Int32.toInt x66 = x66.toInt) (t70 : Int32.toInt x70 = (aI (G.2.1 (F a 10)) (10 * p0.toInt + 2))) dX11_depth_73 (fun x73 t73 => ?_)
              refine al_0 S hK hT hk9999a ar_30 (by decide) (z_X11_depth_7 l4_44.toInt x62.toInt x66.toInt x73.toInt (aI (G.2.1 (F a 10)) (10 * p0.toInt + 1)) (aI (G.2.1 (F a 10)) (10 * p0.toInt + 2)) (z13).2.1 (z13).2.2.1 I44_1 t62 t66 t73) dX11_depth_74 (fun x74 hv74 o74 => ?_)
              have hv74 : x74.toInt = (aI (G.2.1 (F a 1)) (4 * (30 * (aI (G.2.1 (F a 10)) (10 * p0.toInt + 1)) + l4_44.toInt) + 1 + (aI (G.2.1 (F a 10)) (10 * p0.toInt + 2)))) := hv74.trans (by rw [((rfl : Int32.toInt x73 = x73.toInt).trans (z_X11_depth_8 l4_44.toInt x62.toInt x66.toInt x73.toInt (aI (G.2.1 (F a 10)) (10 * p0.toInt + 1)) (aI (G.2.1 (F a 10)) (10 * p0.toInt + 2)) (z13).2.1 (z13).2.2.1 I44_1 t62 t66 t73)), ((ld_c hG2) : G2.2.1 (F a 1) = G.2.1 (F a 1))])
              refine lv_istore (lv' := [(5, .int x74), (0, .ref a), (1, .int p0), (3, .int l3_44), (4, .int l4_44)]) hx hb dX11_depth_75 hl (by decide) rfl (fun ls hl => ?_)
              have z77 : (aI (G.2.1 (F a 1)) (4 * (30 * (aI (G.2.1 (F a 10)) (10 * p0.toInt + 1)) + l4_44.toInt) + 1 + (aI (G.2.1 (F a 10)) (10 * p0.toInt + 2)))) = (cel (mw (G.2.1 (F a 1)) 0) (aI (G.2.1 (F a 10)) (10 * p0.toInt + 1)) (l4_44.toInt) (aI (G.2.1 (F a 10)) (10 * p0.toInt + 2))) := hM.cel0 (z_X11_depth_9 l4_44.toInt (aI (G.2.1 (F a 10)) (10 * p0.toInt + 1)) (aI (G.2.1 (F a 10)) (10 * p0.toInt + 2)) (z13).2.1 (z13).2.2.1 I44_1) (I44_2)
              refine lv_aload_n hx hb dX11_depth_77 rfl (lv_at hl 1 rfl) ?_
              refine lv_aload_n hx hb dX11_depth_78 rfl (lv_at hl 1 rfl) ?_
              refine lv_iload_n hx hb dX11_depth_79 rfl (lv_at hl 2 rfl) ?_
              refine lv_iconst (v := 1) hx hb dX11_depth_80 (by decide) ?_
              refine x_clp (x_runV (b := a) (As := [.int p0, .int 1]) (rest := [.ref a]) S (c_X11_of l E K F G2 H a p0 1 ha (z_X11_depth_1 p0.toInt x7.toInt (aI (G.2.1 (F a 10)) (10 * p0.toInt + 0)) t7 c10) (by decide)) mv_X11_of km_X11_165 rfl rfl ⟨Nat.le_of_ble_eq_true rfl, Nat.le_of_ble_eq_true rfl⟩ (rc_13 hK hT ha) hK (fun _ => XPh.blind) (fun U hU hW => XPh.at hK hz hS hT hU hW) rfl hl.1 (Nat.le_of_ble_eq_true rfl) dX11_depth_81 ⟨Nat.le_of_ble_eq_true rfl, Nat.le_of_ble_eq_true rfl⟩) hS ?_
              rintro _ _ locs ⟨x81, rfl, t81⟩ hS
              have t81 : x81.toInt = (aI (G.2.1 (F a 10)) (10 * p0.toInt + 1)) := by rw [(show G2.2.1 (F a 10) = G.2.1 (F a 10) from (ld_c hG2))] at t81; exact t81
              refine lv_iload hx hb dX11_depth_84 (lv_at hl 0 rfl) ?_
              refine x_clp (x_runV (b := a) (As := [.int x81, .int x74]) (rest := []) S (c_X11_isRow l E K F G2 H a x81 x74 ha (v_X11_depth_86_5 (F := F) a G2 G hM (ld_c hG2))) mv_X11_isRow km_X11_346 rfl rfl ⟨Nat.le_of_ble_eq_true rfl, Nat.le_of_ble_eq_true rfl⟩ (rc_13 hK hT ha) hK (fun _ => XPh.blind) (fun U hU hW => XPh.at hK hz hS hT hU hW) rfl hl.1 (Nat.le_of_ble_eq_true rfl) dX11_depth_86 ⟨Nat.le_of_ble_eq_true rfl, Nat.le_of_ble_eq_true rfl⟩) hS ?_
              rintro _ _ locs ⟨x86, rfl, b86, t86⟩ hS
              have t86 : (x86.toInt = 1 ∧ (cel (mw (G.2.1 (F a 1)) 0) (aI (G.2.1 (F a 10)) (10 * p0.toInt + 1)) (aI (G.2.1 (F a 1)) (4 * (30 * (aI (G.2.1 (F a 10)) (10 * p0.toInt + 1)) + l4_44.toInt) + 1 + (aI (G.2.1 (F a 10)) (10 * p0.toInt + 2)))) 0) ≠ -2000) ∨ (x86.toInt = 0 ∧ (cel (mw (G.2.1 (F a 1)) 0) (aI (G.2.1 (F a 10)) (10 * p0.toInt + 1)) (aI (G.2.1 (F a 1)) (4 * (30 * (aI (G.2.1 (F a 10)) (10 * p0.toInt + 1)) + l4_44.toInt) + 1 + (aI (G.2.1 (F a 10)) (10 * p0.toInt + 2)))) 0) = -2000) := by rw [(t81 : Int32.toInt x81 = (aI (G.2.1 (F a 10)) (10 * p0.toInt + 1)))] at t86; rw [(hv74 : Int32.toInt x74 = (aI (G.2.1 (F a 1)) (4 * (30 * (aI (G.2.1 (F a 10)) (10 * p0.toInt + 1)) + l4_44.toInt) + 1 + (aI (G.2.1 (F a 10)) (10 * p0.toInt + 2)))))] at t86; rw [(show G2.2.1 (F a 1) = G.2.1 (F a 1) from (ld_c hG2))] at t86; exact t86
              have z89 : ¬ (0 ≤ (aI (G.2.1 (F a 10)) (10 * p0.toInt + 1)) ∧ (aI (G.2.1 (F a 10)) (10 * p0.toInt + 1)) < 3 ∧ 0 ≤ (aI (G.2.1 (F a 1)) (4 * (30 * (aI (G.2.1 (F a 10)) (10 * p0.toInt + 1)) + l4_44.toInt) + 1 + (aI (G.2.1 (F a 10)) (10 * p0.toInt + 2)))) ∧ (aI (G.2.1 (F a 1)) (4 * (30 * (aI (G.2.1 (F a 10)) (10 * p0.toInt + 1)) + l4_44.toInt) + 1 + (aI (G.2.1 (F a 10)) (10 * p0.toInt + 2)))) < 30) → (cel (mw (G.2.1 (F a 1)) 0) (aI (G.2.1 (F a 10)) (10 * p0.toInt + 1)) (aI (G.2.1 (F a 1)) (4 * (30 * (aI (G.2.1 (F a 10)) (10 * p0.toInt + 1)) + l4_44.toInt) + 1 + (aI (G.2.1 (F a 10)) (10 * p0.toInt + 2)))) 0) = -2000 := fun h9 => cel_out (by omega)
              refine xi_zne (tgt := 94) hx hb (rfl : Int32.toInt x86 = x86.toInt) dX11_depth_89 (by decide) (fun c89 => ?_) (fun c89 => ?_)
              · refine xi_iinc (n := 1) (lv' := fun z9 => [(3, .int z9), (5, .int x74), (0, .ref a), (1, .int p0), (4, .int l4_44)]) (k := 3) hx hb (rfl : Int32.toInt l3_44 = l3_44.toInt) (by decide) dX11_depth_94 hl rfl (by decide) (fun _ => rfl) (fun x94 ls t94 hl => ?_)
                have e94 : x94.toInt = (l3_44.toInt + 1) := (z_X11_depth_12 l3_44.toInt x94.toInt I44_0 t94)
                have hl : lv_has ls 6 [(3, .int x94), (5, .int x74), (0, .ref a), (1, .int p0), (4, .int l4_44)] := hl
                refine lv_iload hx hb dX11_depth_97 (lv_at hl 1 rfl) ?_
                refine lv_istore (lv' := [(4, .int x74), (3, .int x94), (5, .int x74), (0, .ref a), (1, .int p0)]) hx hb dX11_depth_99 hl (by decide) rfl (fun ls hl => ?_)
                refine lv_goto (tgt := 44) hx hb dX11_depth_101 (by decide) ?_
                exact ih44 x94 x74 _ _ _ (by rw [(e94 : Int32.toInt x94 = (l3_44.toInt + 1)), (hv74 : Int32.toInt x74 = (aI (G.2.1 (F a 1)) (4 * (30 * (aI (G.2.1 (F a 10)) (10 * p0.toInt + 1)) + l4_44.toInt) + 1 + (aI (G.2.1 (F a 10)) (10 * p0.toInt + 2)))))] <;> exact (v_X11_depth_101_6 (K := K) (F := F) a G p0 p1 l3_44 l4_44 x7 x31 N44 x62 x86 ha dp t7 c10 z13 c20 t31 c34 z39 I44_0 I44_1 I44_2 hm44 c47 t62 z77 t86 z89 c89)) (by rw [(e94 : Int32.toInt x94 = (l3_44.toInt + 1))] <;> exact (z_X11_depth_13 l3_44.toInt I44_0 c47)) (by rw [(hv74 : Int32.toInt x74 = (aI (G.2.1 (F a 1)) (4 * (30 * (aI (G.2.1 (F a 10)) (10 * p0.toInt + 1)) + l4_44.toInt) + 1 + (aI (G.2.1 (F a 10)) (10 * p0.toInt + 2)))))] <;> exact (z_X11_depth_14 x86.toInt (aI (G.2.1 (F a 1)) (4 * (30 * (aI (G.2.1 (F a 10)) (10 * p0.toInt + 1)) + l4_44.toInt) + 1 + (aI (G.2.1 (F a 10)) (10 * p0.toInt + 2)))) (aI (G.2.1 (F a 10)) (10 * p0.toInt + 1)) (cel (mw (G.2.1 (F a 1)) 0) (aI (G.2.1 (F a 10)) (10 * p0.toInt + 1)) (aI (G.2.1 (F a 1)) (4 * (30 * (aI (G.2.1 (F a 10)) (10 * p0.toInt + 1)) + l4_44.toInt) + 1 + (aI (G.2.1 (F a 10)) (10 * p0.toInt + 2)))) 0) t86 z89 c89)) (by rw [(hv74 : Int32.toInt x74 = (aI (G.2.1 (F a 1)) (4 * (30 * (aI (G.2.1 (F a 10)) (10 * p0.toInt + 1)) + l4_44.toInt) + 1 + (aI (G.2.1 (F a 10)) (10 * p0.toInt + 2)))))] <;> exact (z_X11_depth_15 x86.toInt (cel (mw (G.2.1 (F a 1)) 0) (aI (G.2.1 (F a 10)) (10 * p0.toInt + 1)) (aI (G.2.1 (F a 1)) (4 * (30 * (aI (G.2.1 (F a 10)) (10 * p0.toInt + 1)) + l4_44.toInt) + 1 + (aI (G.2.1 (F a 10)) (10 * p0.toInt + 2)))) 0) t86 c89)) (by rw [(e94 : Int32.toInt x94 = (l3_44.toInt + 1))] <;> exact (z_X11_depth_16 l3_44.toInt N44 hm44)) hT hS (lv_sub hl [3, 4, 1, 0] rfl)
              · refine lv_iload_n hx hb dX11_depth_92 rfl (lv_at hl 3 rfl) ?_
                exact x_ri hx hb hr hlk hQ (Nat.le_of_ble_eq_true rfl) (Nat.le_of_ble_eq_true rfl) hS dX11_depth_93 G2 ⟨_, rfl, (by rw [hG2]; exact XFr.dput XFr.rf (List.mem_of_getElem? (i := 0) rfl)), (v_X11_depth_93_7 (K := K) (F := F) a G p0 p1 l3_44 l4_44 x7 x31 N44 x62 x86 ha dp t7 c10 z13 c20 t31 c34 z39 I44_0 I44_1 I44_2 hm44 c47 t62 z77 t86 z89 c89)⟩ hT
        exact L44 4294967297 0 p1 _ _ _ (v_X11_depth_42_8 (F := F) a G p0 p1) (by decide) (z_X11_depth_17 p1.toInt x31.toInt (aI (G.2.1 (F a 10)) (10 * p0.toInt + 1)) (cel (mw (G.2.1 (F a 1)) 0) (aI (G.2.1 (F a 10)) (10 * p0.toInt + 1)) (p1.toInt) 0) t31 c34 z39) (z_X11_depth_15 x31.toInt (cel (mw (G.2.1 (F a 1)) 0) (aI (G.2.1 (F a 10)) (10 * p0.toInt + 1)) (p1.toInt) 0) t31 c34) (by decide) hT hS (lv_sub hl [2, 3, 1, 0] rfl)
      · refine lv_iconst (v := (-1)) hx hb dX11_depth_37 (by decide) ?_
        exact x_ri hx hb hr hlk hQ (Nat.le_of_ble_eq_true rfl) (Nat.le_of_ble_eq_true rfl) hS dX11_depth_38 G2 ⟨_, rfl, (by rw [hG2]; exact XFr.dput XFr.rf (List.mem_of_getElem? (i := 0) rfl)), (by rw [((by decide) : Int32.toInt (-1) = (-1 : Int))] <;> exact (v_X11_depth_38_9 (K := K) (F := F) a G p0 x7 x31 p1 ha t7 c10 z13 c20 t31 c34))⟩ hT

theorem z_X11_leansOn_1 (a0 : Int) (h0 : 0 ≤ a0 ∧ a0 ≤ 12) : ¬ (100 - a0 < ((0 : Nat) : Int)) := by omega
theorem z_X11_leansOn_2 (a0 : Int) (a1 : Int) (h0 : 0 ≤ a0 ∧ a0 ≤ 12) (h1 : a1 = (a0 + 1) ∨ (a0 + 1) < -2147483648 ∨ 2147483648 ≤ (a0 + 1)) : a1 = (a0 + 1) := by omega
theorem z_X11_leansOn_3 (a0 : Int) (h0 : 0 ≤ a0 ∧ a0 ≤ 12) (h1 : ¬ ((12 : Int) ≤ a0)) : 0 ≤ (a0 + 1) ∧ (a0 + 1) ≤ 12 := by omega
theorem z_X11_leansOn_5 (a0 : Int) (h0 : 0 ≤ a0 ∧ a0 ≤ 12) (h1 : ¬ ((12 : Int) ≤ a0)) : 0 ≤ a0 ∧ a0 ≤ 11 := by omega
theorem z_X11_leansOn_10 (a0 : Int) (a1 : Int) (a2 : Int) (a3 : Int) (a4 : Int) (a5 : Int) (h0 : 0 ≤ a0 ∧ a0 < 3 ∧ 0 ≤ a1 ∧ a1 < 30) (h1 : 0 ≤ a5 ∧ a5 ≤ 2) (h2 : 0 ≤ a0 ∧ a0 ≤ 2 ∧ 0 ≤ a1 ∧ a1 ≤ 29 → a2 = 4 * (30 * a0 + a1)) (h3 : a3 = a2 + (1 : Int) ∨ a2 + (1 : Int) < -2147483648 ∨ 2147483648 ≤ a2 + (1 : Int)) (h4 : a4 = a3 + a5 ∨ a3 + a5 < -2147483648 ∨ 2147483648 ≤ a3 + a5) : 0 ≤ a4 ∧ a4 < ((360 : Nat) : Int) := by omega
theorem z_X11_leansOn_11 (a0 : Int) (a1 : Int) (a2 : Int) (a3 : Int) (a4 : Int) (a5 : Int) (h0 : 0 ≤ a0 ∧ a0 < 3 ∧ 0 ≤ a1 ∧ a1 < 30) (h1 : 0 ≤ a5 ∧ a5 ≤ 2) (h2 : 0 ≤ a0 ∧ a0 ≤ 2 ∧ 0 ≤ a1 ∧ a1 ≤ 29 → a2 = 4 * (30 * a0 + a1)) (h3 : a3 = a2 + (1 : Int) ∨ a2 + (1 : Int) < -2147483648 ∨ 2147483648 ≤ a2 + (1 : Int)) (h4 : a4 = a3 + a5 ∨ a3 + a5 < -2147483648 ∨ 2147483648 ≤ a3 + a5) : a4 = 4 * (30 * a0 + a1) + 1 + a5 := by omega
abbrev rm_X11_leansOn : Room := { frames := 3, cells := 0, slots := 0, locals := 67 }
set_option maxHeartbeats 4000000 in
set_option maxRecDepth 100000 in
theorem c_X11_leansOn (l : Launch) (E : XE) (K : Nat → Nat) (F : Nat → Nat → Nat) (G : XG) (h0 : Heap) (a : Nat) (p0 : Int32) (p1 : Int32) (p2 : Int32) (p3 : Int32) (ha : K a = 13) (e0 : 0 ≤ p0.toInt ∧ p0.toInt < 3 ∧ 0 ≤ p1.toInt ∧ p1.toInt < 30) (e1 : 0 ≤ p3.toInt ∧ p3.toInt < 30) (hR : RV (G.2.1 (F a 10))) (hM : RM (G.2.1 (F a 1)) (0)) : Met l yX11_leansOn (xw yX11_leansOn cX11_leansOn 7 (some .boolean)) rm_X11_leansOn (va_Pc [.ref a, .int p0, .int p1, .int p2, .int p3] (XPh E K F G h0)) (XQ E (fun v (u : Unit) => ∃ r : Int32, v = .int r ∧ (r = 0 ∨ r = 1) ∧ ((r.toInt = 1 ∧ lnM (G.2.1 (F a 10)) (mw (G.2.1 (F a 1)) 0) 12 p0.toInt p1.toInt p2.toInt p3.toInt) ∨ (r.toInt = 0 ∧ ¬ lnM (G.2.1 (F a 10)) (mw (G.2.1 (F a 1)) 0) 12 p0.toInt p1.toInt p2.toInt p3.toInt))) (fun _ H => H = h0)) 0 0 (xA E) := by
  refine x_enter (by decide) (Nat.le_of_ble_eq_true rfl) ?_
  intro p e s m args below meth c Q S hr hlk hnm hQ hP ls hl
  obtain ⟨⟨hz, hK, hT⟩, hh⟩ := hP
  obtain ⟨hx, hb, -, -, -⟩ := id S
  have hS : va_S (xA E) s.heap s.heap [] := va_S.rf
  have hl : lv_has ls 7 [(0, .ref a), (1, .int p0), (2, .int p1), (3, .int p2), (4, .int p3)] := hl
  obtain ⟨hk9999, hj9999⟩ := fkX11_10 hT ha
  obtain ⟨hk9999a, hj9999a⟩ := fkX11_1 hT ha
  refine lv_iconst (v := 0) hx hb dX11_leansOn_0 (by decide) ?_
  refine lv_istore (lv' := [(5, .int 0), (0, .ref a), (1, .int p0), (2, .int p1), (3, .int p2), (4, .int p3)]) hx hb dX11_leansOn_1 hl (by decide) rfl (fun ls hl => ?_)
  refine lv_iconst (v := 0) hx hb dX11_leansOn_3 (by decide) ?_
  refine lv_istore (lv' := [(6, .int 0), (5, .int 0), (0, .ref a), (1, .int p0), (2, .int p1), (3, .int p2), (4, .int p3)]) hx hb dX11_leansOn_4 hl (by decide) rfl (fun ls hl => ?_)
  have L6 : ∀ (N6 : Nat) (l5_6 : Int32) (l6_6 : Int32) (locs : List Loc) (ls : Array Slot), ((l5_6.toInt = 1 ∧ lnR (G.2.1 (F a 10)) (G.2.1 (F a 1)) l6_6.toInt p0.toInt p1.toInt p2.toInt p3.toInt) ∨ (l5_6.toInt = 0 ∧ ¬ lnR (G.2.1 (F a 10)) (G.2.1 (F a 1)) l6_6.toInt p0.toInt p1.toInt p2.toInt p3.toInt)) → 0 ≤ l6_6.toInt ∧ l6_6.toInt ≤ 12 → 100 - l6_6.toInt < ((N6 : Nat) : Int) → TW E K F G s.heap → va_S (xA E) s.heap s.heap locs → lv_has ls 7 [(0, .ref a), (1, .int p0), (2, .int p1), (3, .int p2), (4, .int p3), (5, .int l5_6), (6, .int l6_6)] → W p l e rm_X11_leansOn s m args below meth c s.heap locs 0 0 Q (F0 m 6 ls []) := by
    intro N6
    induction N6 with
    | zero =>
      intro l5_6 l6_6 locs ls pl I6_0 hm6
      exact absurd hm6 (z_X11_leansOn_1 l6_6.toInt I6_0)
    | succ N6 ih6 =>
      intro l5_6 l6_6 locs ls pl I6_0 hm6 hT hS hl
      refine lv_iload hx hb dX11_leansOn_6 (lv_at hl 6 rfl) ?_
      refine lv_bipush (v := 12) hx hb dX11_leansOn_8 (by decide) ?_
      refine xi_cge (tgt := 98) hx hb (rfl : Int32.toInt l6_6 = l6_6.toInt) ((by decide) : Int32.toInt 12 = (12 : Int)) dX11_leansOn_10 (by decide) (fun c10 => ?_) (fun c10 => ?_)
      · refine lv_iload hx hb dX11_leansOn_98 (lv_at hl 5 rfl) ?_
        refine xi_zeq (tgt := 116) hx hb (rfl : Int32.toInt l5_6 = l5_6.toInt) dX11_leansOn_100 (by decide) (fun c100 => ?_) (fun c100 => ?_)
        · refine lv_iconst (v := 0) hx hb dX11_leansOn_116 (by decide) ?_
          exact x_rz hx hb hr (xnz (Or.inl rfl)) hlk hQ (Nat.le_of_ble_eq_true rfl) (Nat.le_of_ble_eq_true rfl) hS dX11_leansOn_117 () ⟨_, rfl, (Or.inl rfl), (v_X11_leansOn_117_1 (K := K) (F := F) a G l5_6 l6_6 p0 p1 p2 p3 N6 ha hR hM pl e0 e1 I6_0 hm6 c10 c100)⟩ hh
        · refine lv_aload_n hx hb dX11_leansOn_103 rfl (lv_at hl 0 rfl) ?_
          refine lv_iload_n hx hb dX11_leansOn_104 rfl (lv_at hl 1 rfl) ?_
          refine lv_iload_n hx hb dX11_leansOn_105 rfl (lv_at hl 2 rfl) ?_
          refine x_clp (x_runV (b := a) (As := [.int p0, .int p1]) (rest := []) S (c_X11_isRow l E K F G s.heap a p0 p1 ha (v_X11_leansOn_106_2 (K := K) (F := F) a G l5_6 l6_6 p0 p1 p2 p3 N6 ha hk9999 hj9999 hk9999a hj9999a hR hM pl e0 e1 I6_0 hm6 c10 c100)) mv_X11_isRow km_X11_346 rfl rfl ⟨Nat.le_of_ble_eq_true rfl, Nat.le_of_ble_eq_true rfl⟩ (rc_13 hK hT ha) hK (fun _ => XPh.blind) (fun U hU hW => XPh.at hK hz hS hT hU hW) rfl hl.1 (Nat.le_of_ble_eq_true rfl) dX11_leansOn_106 ⟨Nat.le_of_ble_eq_true rfl, Nat.le_of_ble_eq_true rfl⟩) hS ?_
          rintro _ _ locs ⟨x106, rfl, b106, t106⟩ hS
          have t106 : (x106.toInt = 1 ∧ (cel (mw (G.2.1 (F a 1)) 0) (p0.toInt) (p1.toInt) 0) ≠ -2000) ∨ (x106.toInt = 0 ∧ (cel (mw (G.2.1 (F a 1)) 0) (p0.toInt) (p1.toInt) 0) = -2000) := t106
          refine xi_zeq (tgt := 116) hx hb (rfl : Int32.toInt x106 = x106.toInt) dX11_leansOn_109 (by decide) (fun c109 => ?_) (fun c109 => ?_)
          · refine lv_iconst (v := 0) hx hb dX11_leansOn_116 (by decide) ?_
            exact x_rz hx hb hr (xnz (Or.inl rfl)) hlk hQ (Nat.le_of_ble_eq_true rfl) (Nat.le_of_ble_eq_true rfl) hS dX11_leansOn_117 () ⟨_, rfl, (Or.inl rfl), (v_X11_leansOn_117_3 (K := K) (F := F) a G l5_6 l6_6 p0 p1 p2 p3 N6 x106 ha hR hM pl e0 e1 I6_0 hm6 c10 c100 t106 c109)⟩ hh
          · refine lv_iconst (v := 1) hx hb dX11_leansOn_112 (by decide) ?_
            refine lv_goto (tgt := 117) hx hb dX11_leansOn_113 (by decide) ?_
            exact x_rz hx hb hr (xnz (Or.inr rfl)) hlk hQ (Nat.le_of_ble_eq_true rfl) (Nat.le_of_ble_eq_true rfl) hS dX11_leansOn_117 () ⟨_, rfl, (Or.inr rfl), (v_X11_leansOn_117_4 (K := K) (F := F) a G l5_6 l6_6 p0 p1 p2 p3 N6 x106 ha hR hM pl e0 e1 I6_0 hm6 c10 c100 t106 c109)⟩ hh
      · refine lv_iload hx hb dX11_leansOn_13 (lv_at hl 5 rfl) ?_
        have J90 : ∀ (k_90 : Int32) (locs : List Loc) (ls : Array Slot), ((k_90.toInt = 1 ∧ lnR (G.2.1 (F a 10)) (G.2.1 (F a 1)) (l6_6.toInt + 1) p0.toInt p1.toInt p2.toInt p3.toInt) ∨ (k_90.toInt = 0 ∧ ¬ lnR (G.2.1 (F a 10)) (G.2.1 (F a 1)) (l6_6.toInt + 1) p0.toInt p1.toInt p2.toInt p3.toInt)) → TW E K F G s.heap → va_S (xA E) s.heap s.heap locs → lv_has ls 7 [(0, .ref a), (1, .int p0), (2, .int p1), (3, .int p2), (4, .int p3), (6, .int l6_6)] → W p l e rm_X11_leansOn s m args below meth c s.heap locs 0 0 Q (F0 m 90 ls [.int k_90]) := by
          intro k_90 locs ls pj hT hS hl
          refine lv_istore (lv' := [(5, .int k_90), (0, .ref a), (1, .int p0), (2, .int p1), (3, .int p2), (4, .int p3), (6, .int l6_6)]) hx hb dX11_leansOn_90 hl (by decide) rfl (fun ls hl => ?_)
          refine xi_iinc (n := 1) (lv' := fun z9 => [(6, .int z9), (5, .int k_90), (0, .ref a), (1, .int p0), (2, .int p1), (3, .int p2), (4, .int p3)]) (k := 6) hx hb (rfl : Int32.toInt l6_6 = l6_6.toInt) (by decide) dX11_leansOn_92 hl rfl (by decide) (fun _ => rfl) (fun x92 ls t92 hl => ?_)
          have e92 : x92.toInt = (l6_6.toInt + 1) := (z_X11_leansOn_2 l6_6.toInt x92.toInt I6_0 t92)
          have hl : lv_has ls 7 [(6, .int x92), (5, .int k_90), (0, .ref a), (1, .int p0), (2, .int p1), (3, .int p2), (4, .int p3)] := hl
          refine lv_goto (tgt := 6) hx hb dX11_leansOn_95 (by decide) ?_
          exact ih6 k_90 x92 _ _ (by rw [(e92 : Int32.toInt x92 = (l6_6.toInt + 1))] <;> exact (v_X11_leansOn_95_5 (F := F) a G l6_6 p0 p1 p2 p3 k_90 pj)) (by rw [(e92 : Int32.toInt x92 = (l6_6.toInt + 1))] <;> exact (z_X11_leansOn_3 l6_6.toInt I6_0 c10)) (by rw [(e92 : Int32.toInt x92 = (l6_6.toInt + 1))] <;> exact (z_X11_depth_16 l6_6.toInt N6 hm6)) hT hS (lv_sub hl [2, 3, 4, 5, 6, 1, 0] rfl)
        refine xi_zne (tgt := 85) hx hb (rfl : Int32.toInt l5_6 = l5_6.toInt) dX11_leansOn_15 (by decide) (fun c15 => ?_) (fun c15 => ?_)
        · refine lv_iconst (v := 1) hx hb dX11_leansOn_85 (by decide) ?_
          refine lv_goto (tgt := 90) hx hb dX11_leansOn_86 (by decide) ?_
          exact J90 1 _ _ (v_X11_leansOn_86_6 (K := K) (F := F) a G l5_6 l6_6 p0 p1 p2 p3 N6 ha pl e0 e1 I6_0 hm6 c10 c15) hT hS (lv_sub hl [0, 1, 2, 3, 4, 6] rfl)
        · refine lv_aload_n hx hb dX11_leansOn_18 rfl (lv_at hl 0 rfl) ?_
          refine lv_iload hx hb dX11_leansOn_19 (lv_at hl 6 rfl) ?_
          refine x_clp (x_runV (b := a) (As := [.int l6_6]) (rest := []) S (c_X11_isRule l E K F G s.heap a l6_6 ha) mv_X11_isRule km_X11_162 rfl rfl ⟨Nat.le_of_ble_eq_true rfl, Nat.le_of_ble_eq_true rfl⟩ (rc_13 hK hT ha) hK (fun _ => XPh.blind) (fun U hU hW => XPh.at hK hz hS hT hU hW) rfl hl.1 (Nat.le_of_ble_eq_true rfl) dX11_leansOn_21 ⟨Nat.le_of_ble_eq_true rfl, Nat.le_of_ble_eq_true rfl⟩) hS ?_
          rintro _ _ locs ⟨x21, rfl, b21, t21⟩ hS
          have t21 : (x21.toInt = 1 ∧ 0 ≤ l6_6.toInt ∧ l6_6.toInt ≤ 11 ∧ (aI (G.2.1 (F a 10)) (10 * l6_6.toInt + 0)) ≠ -1) ∨ (x21.toInt = 0 ∧ (¬ (0 ≤ l6_6.toInt ∧ l6_6.toInt ≤ 11) ∨ (aI (G.2.1 (F a 10)) (10 * l6_6.toInt + 0)) = -1)) := t21
          refine xi_zeq (tgt := 89) hx hb (rfl : Int32.toInt x21 = x21.toInt) dX11_leansOn_24 (by decide) (fun c24 => ?_) (fun c24 => ?_)
          · refine lv_iconst (v := 0) hx hb dX11_leansOn_89 (by decide) ?_
            exact J90 0 _ _ (v_X11_leansOn_89_7 (K := K) (F := F) a G l5_6 l6_6 p0 p1 p2 p3 N6 x21 ha pl e0 e1 I6_0 hm6 c10 c15 t21 c24) hT hS (lv_sub hl [0, 1, 2, 3, 4, 6] rfl)
          · have z27 : (-1 ≤ (aI (G.2.1 (F a 10)) (10 * l6_6.toInt + 0)) ∧ (aI (G.2.1 (F a 10)) (10 * l6_6.toInt + 0)) ≤ 5) ∧ (0 ≤ (aI (G.2.1 (F a 10)) (10 * l6_6.toInt + 1)) ∧ (aI (G.2.1 (F a 10)) (10 * l6_6.toInt + 1)) ≤ 2) ∧ (0 ≤ (aI (G.2.1 (F a 10)) (10 * l6_6.toInt + 2)) ∧ (aI (G.2.1 (F a 10)) (10 * l6_6.toInt + 2)) ≤ 2) ∧ (-1 ≤ (aI (G.2.1 (F a 10)) (10 * l6_6.toInt + 3)) ∧ (aI (G.2.1 (F a 10)) (10 * l6_6.toInt + 3)) ≤ 2) ∧ ((aI (G.2.1 (F a 10)) (10 * l6_6.toInt + 0)) = 1 ∨ (aI (G.2.1 (F a 10)) (10 * l6_6.toInt + 0)) = 3 ∨ (aI (G.2.1 (F a 10)) (10 * l6_6.toInt + 0)) = 4 → 0 ≤ (aI (G.2.1 (F a 10)) (10 * l6_6.toInt + 3))) := RV.row hR (z_X11_leansOn_5 l6_6.toInt I6_0 c10)
            refine lv_aload_n hx hb dX11_leansOn_27 rfl (lv_at hl 0 rfl) ?_
            refine lv_iload hx hb dX11_leansOn_28 (lv_at hl 6 rfl) ?_
            refine lv_iconst (v := 0) hx hb dX11_leansOn_30 (by decide) ?_
            refine x_clp (x_runV (b := a) (As := [.int l6_6, .int 0]) (rest := []) S (c_X11_of l E K F G s.heap a l6_6 0 ha (z_X11_leansOn_5 l6_6.toInt I6_0 c10) (by decide)) mv_X11_of km_X11_165 rfl rfl ⟨Nat.le_of_ble_eq_true rfl, Nat.le_of_ble_eq_true rfl⟩ (rc_13 hK hT ha) hK (fun _ => XPh.blind) (fun U hU hW => XPh.at hK hz hS hT hU hW) rfl hl.1 (Nat.le_of_ble_eq_true rfl) dX11_leansOn_31 ⟨Nat.le_of_ble_eq_true rfl, Nat.le_of_ble_eq_true rfl⟩) hS ?_
            rintro _ _ locs ⟨x31, rfl, t31⟩ hS
            have t31 : x31.toInt = (aI (G.2.1 (F a 10)) (10 * l6_6.toInt + 0)) := t31
            refine lv_iconst (v := 1) hx hb dX11_leansOn_34 (by decide) ?_
            refine xi_cne (tgt := 89) hx hb (t31 : Int32.toInt x31 = (aI (G.2.1 (F a 10)) (10 * l6_6.toInt + 0))) ((by decide) : Int32.toInt 1 = (1 : Int)) dX11_leansOn_35 (by decide) (fun c35 => ?_) (fun c35 => ?_)
            · refine lv_iconst (v := 0) hx hb dX11_leansOn_89 (by decide) ?_
              exact J90 0 _ _ (v_X11_leansOn_89_8 (K := K) (F := F) a G l5_6 l6_6 p0 p1 p2 p3 N6 x21 ha pl e0 e1 I6_0 hm6 c10 c15 t21 c24 z27 c35) hT hS (lv_sub hl [0, 1, 2, 3, 4, 6] rfl)
            · refine lv_aload_n hx hb dX11_leansOn_38 rfl (lv_at hl 0 rfl) ?_
              refine lv_iload hx hb dX11_leansOn_39 (lv_at hl 6 rfl) ?_
              refine lv_iconst (v := 3) hx hb dX11_leansOn_41 (by decide) ?_
              refine x_clp (x_runV (b := a) (As := [.int l6_6, .int 3]) (rest := []) S (c_X11_of l E K F G s.heap a l6_6 3 ha (z_X11_leansOn_5 l6_6.toInt I6_0 c10) (by decide)) mv_X11_of km_X11_165 rfl rfl ⟨Nat.le_of_ble_eq_true rfl, Nat.le_of_ble_eq_true rfl⟩ (rc_13 hK hT ha) hK (fun _ => XPh.blind) (fun U hU hW => XPh.at hK hz hS hT hU hW) rfl hl.1 (Nat.le_of_ble_eq_true rfl) dX11_leansOn_42 ⟨Nat.le_of_ble_eq_true rfl, Nat.le_of_ble_eq_true rfl⟩) hS ?_
              rintro _ _ locs ⟨x42, rfl, t42⟩ hS
              have t42 : x42.toInt = (aI (G.2.1 (F a 10)) (10 * l6_6.toInt + 3)) := t42
              refine lv_iload_n hx hb dX11_leansOn_45 rfl (lv_at hl 3 rfl) ?_
              refine xi_cne (tgt := 89) hx hb (t42 : Int32.toInt x42 = (aI (G.2.1 (F a 10)) (10 * l6_6.toInt + 3))) (rfl : Int32.toInt p2 = p2.toInt) dX11_leansOn_46 (by decide) (fun c46 => ?_) (fun c46 => ?_)
              · refine lv_iconst (v := 0) hx hb dX11_leansOn_89 (by decide) ?_
                exact J90 0 _ _ (v_X11_leansOn_89_9 (K := K) (F := F) a G l5_6 l6_6 p0 p1 p2 p3 N6 x21 ha pl e0 e1 I6_0 hm6 c10 c15 t21 c24 z27 c35 c46) hT hS (lv_sub hl [0, 1, 2, 3, 4, 6] rfl)
              · refine lv_aload_n hx hb dX11_leansOn_49 rfl (lv_at hl 0 rfl) ?_
                refine lv_iload hx hb dX11_leansOn_50 (lv_at hl 6 rfl) ?_
                refine lv_iconst (v := 1) hx hb dX11_leansOn_52 (by decide) ?_
                refine x_clp (x_runV (b := a) (As := [.int l6_6, .int 1]) (rest := []) S (c_X11_of l E K F G s.heap a l6_6 1 ha (z_X11_leansOn_5 l6_6.toInt I6_0 c10) (by decide)) mv_X11_of km_X11_165 rfl rfl ⟨Nat.le_of_ble_eq_true rfl, Nat.le_of_ble_eq_true rfl⟩ (rc_13 hK hT ha) hK (fun _ => XPh.blind) (fun U hU hW => XPh.at hK hz hS hT hU hW) rfl hl.1 (Nat.le_of_ble_eq_true rfl) dX11_leansOn_53 ⟨Nat.le_of_ble_eq_true rfl, Nat.le_of_ble_eq_true rfl⟩) hS ?_
                rintro _ _ locs ⟨x53, rfl, t53⟩ hS
                have t53 : x53.toInt = (aI (G.2.1 (F a 10)) (10 * l6_6.toInt + 1)) := t53
                refine lv_iload_n hx hb dX11_leansOn_56 rfl (lv_at hl 1 rfl) ?_
                refine xi_cne (tgt := 89) hx hb (t53 : Int32.toInt x53 = (aI (G.2.1 (F a 10)) (10 * l6_6.toInt + 1))) (rfl : Int32.toInt p0 = p0.toInt) dX11_leansOn_57 (by decide) (fun c57 => ?_) (fun c57 => ?_)
                · refine lv_iconst (v := 0) hx hb dX11_leansOn_89 (by decide) ?_
                  exact J90 0 _ _ (v_X11_leansOn_89_10 (K := K) (F := F) a G l5_6 l6_6 p0 p1 p2 p3 N6 x21 ha pl e0 e1 I6_0 hm6 c10 c15 t21 c24 z27 c35 c46 c57) hT hS (lv_sub hl [0, 1, 2, 3, 4, 6] rfl)
                · refine lv_aload_n hx hb dX11_leansOn_60 rfl (lv_at hl 0 rfl) ?_
                  refine gX11_1 S hK hT ha kf_X11_9 dX11_leansOn_61 (fun _ _ => ?_)
                  refine lv_iload_n hx hb dX11_leansOn_64 rfl (lv_at hl 1 rfl) ?_
                  refine lv_iload_n hx hb dX11_leansOn_65 rfl (lv_at hl 2 rfl) ?_
                  refine x_clp (x_runS (As := [.int p0, .int p1]) (rest := [.ref (F a 1)]) S (c_X11_at l E K F G s.heap p0 p1) ms_X11_at km_X11_156 rfl rfl ⟨Nat.le_of_ble_eq_true rfl, Nat.le_of_ble_eq_true rfl⟩ hK (fun _ => XPh.blind) (fun U hU hW => XPh.at hK hz hS hT hU hW) rfl hl.1 (Nat.le_of_ble_eq_true rfl) dX11_leansOn_66 ⟨Nat.le_of_ble_eq_true rfl, Nat.le_of_ble_eq_true rfl⟩) hS ?_
                  rintro _ _ locs ⟨x66, rfl, t66⟩ hS
                  have t66 : 0 ≤ p0.toInt ∧ p0.toInt ≤ 2 ∧ 0 ≤ p1.toInt ∧ p1.toInt ≤ 29 → x66.toInt = 4 * (30 * p0.toInt + p1.toInt) := t66
                  refine lv_iconst (v := 1) hx hb dX11_leansOn_69 (by decide) ?_
                  refine xi_iadd hx hb (rfl : Int32.toInt x66 = x66.toInt) ((by decide) : Int32.toInt 1 = (1 : Int)) dX11_leansOn_70 (fun x70 t70 => ?_)
                  refine lv_aload_n hx hb dX11_leansOn_71 rfl (lv_at hl 0 rfl) ?_
                  refine lv_iload hx hb dX11_leansOn_72 (lv_at hl 6 rfl) ?_
                  refine lv_iconst (v := 2) hx hb dX11_leansOn_74 (by decide) ?_
                  refine x_clp (x_runV (b := a) (As := [.int l6_6, .int 2]) (rest := [.int x70, .ref (F a 1)]) S (c_X11_of l E K F G s.heap a l6_6 2 ha (z_X11_leansOn_5 l6_6.toInt I6_0 c10) (by decide)) mv_X11_of km_X11_165 rfl rfl ⟨Nat.le_of_ble_eq_true rfl, Nat.le_of_ble_eq_true rfl⟩ (rc_13 hK hT ha) hK (fun _ => XPh.blind) (fun U hU hW => XPh.at hK hz hS hT hU hW) rfl hl.1 (Nat.le_of_ble_eq_true rfl) dX11_leansOn_75 ⟨Nat.le_of_ble_eq_true rfl, Nat.le_of_ble_eq_true rfl⟩) hS ?_
                  rintro _ _ locs ⟨x75, rfl, t75⟩ hS
                  have t75 : x75.toInt = (aI (G.2.1 (F a 10)) (10 * l6_6.toInt + 2)) := t75
                  refine xi_iadd hx hb (rfl : Int32.toInt x70 = x70.toInt) (t75 : Int32.toInt x75 = (aI (G.2.1 (F a 10)) (10 * l6_6.toInt + 2))) dX11_leansOn_78 (fun x78 t78 => ?_)
                  refine al_0 S hK hT hk9999a ar_30 (by decide) (z_X11_leansOn_10 p0.toInt p1.toInt x66.toInt x70.toInt x78.toInt (aI (G.2.1 (F a 10)) (10 * l6_6.toInt + 2)) e0 (z27).2.2.1 t66 t70 t78) dX11_leansOn_79 (fun x79 hv79 o79 => ?_)
                  have hv79 : x79.toInt = (aI (G.2.1 (F a 1)) (4 * (30 * p0.toInt + p1.toInt) + 1 + (aI (G.2.1 (F a 10)) (10 * l6_6.toInt + 2)))) := hv79.trans (by rw [((rfl : Int32.toInt x78 = x78.toInt).trans (z_X11_leansOn_11 p0.toInt p1.toInt x66.toInt x70.toInt x78.toInt (aI (G.2.1 (F a 10)) (10 * l6_6.toInt + 2)) e0 (z27).2.2.1 t66 t70 t78))])
                  refine lv_iload hx hb dX11_leansOn_80 (lv_at hl 4 rfl) ?_
                  refine xi_cne (tgt := 89) hx hb (hv79 : Int32.toInt x79 = (aI (G.2.1 (F a 1)) (4 * (30 * p0.toInt + p1.toInt) + 1 + (aI (G.2.1 (F a 10)) (10 * l6_6.toInt + 2))))) (rfl : Int32.toInt p3 = p3.toInt) dX11_leansOn_82 (by decide) (fun c82 => ?_) (fun c82 => ?_)
                  · refine lv_iconst (v := 0) hx hb dX11_leansOn_89 (by decide) ?_
                    exact J90 0 _ _ (v_X11_leansOn_89_11 (K := K) (F := F) a G l5_6 l6_6 p0 p1 p2 p3 N6 x21 x66 ha pl e0 e1 I6_0 hm6 c10 c15 t21 c24 z27 c35 c46 c57 t66 c82) hT hS (lv_sub hl [0, 1, 2, 3, 4, 6] rfl)
                  · refine lv_iconst (v := 1) hx hb dX11_leansOn_85 (by decide) ?_
                    refine lv_goto (tgt := 90) hx hb dX11_leansOn_86 (by decide) ?_
                    exact J90 1 _ _ (v_X11_leansOn_86_12 (K := K) (F := F) a G l5_6 l6_6 p0 p1 p2 p3 N6 x21 x66 ha pl e0 e1 I6_0 hm6 c10 c15 t21 c24 z27 c35 c46 c57 t66 c82) hT hS (lv_sub hl [0, 1, 2, 3, 4, 6] rfl)
  exact L6 4294967297 0 0 _ _ (v_X11_leansOn_4_13 (K := K) (F := F) a G p0 p1 p3 p2 ha e0 e1) (by decide) (by decide) hT hS (lv_sub hl [2, 3, 4, 5, 6, 1, 0] rfl)
theorem v_X11_fresh_24_1 {K : Nat → Nat} {F : Nat → Nat → Nat} (a : Nat) (G : XG) (p0 : Int32) (x7 : Int32) (p1 : Int32)
    (ha : K a = 13)
    (m0 : 0 ≤ ((G.1 a 7).toInt) ∧ ((G.1 a 7).toInt) ≤ 8)
    (t7 : (((G.1 a 6).toInt) ≠ 0 ∧ 0 ≤ p0.toInt ∧ p0.toInt ≤ ((G.1 a 7).toInt) - 1 ∧ x7.toInt = 1) ∨ (¬ (((G.1 a 6).toInt) ≠ 0 ∧ 0 ≤ p0.toInt ∧ p0.toInt ≤ ((G.1 a 7).toInt) - 1) ∧ x7.toInt = 0))
    (c10 : x7.toInt = 0) :
    ((¬ (((G.1 a 6).toInt) ≠ 0 ∧ 0 ≤ p0.toInt ∧ p0.toInt ≤ ((G.1 a 7).toInt) - 1) ∨ p1.toInt < 0 ∨ 1 < p1.toInt) ∧ (-1 : Int) = -1) ∨ ((((G.1 a 6).toInt) ≠ 0 ∧ 0 ≤ p0.toInt ∧ p0.toInt ≤ ((G.1 a 7).toInt) - 1) ∧ (0 ≤ p1.toInt ∧ p1.toInt ≤ 1) ∧ (-1 : Int) = frA (G.2.1 (F a 10)) (mw (G.2.1 (F a 1)) 0) (mw (G.2.1 (F a 2)) 0) (mw (G.2.1 (F a 3)) (360 * p0.toInt)) p1.toInt 12) := by
  exact Or.inl ⟨by omega, rfl⟩
theorem v_X11_fresh_26_2 {F : Nat → Nat → Nat} (a : Nat) (G2 : XG) (G : XG)
    (hR : RV (G.2.1 (F a 10)))
    (c_G2_F_a_10 : G2.2.1 (F a 10) = G.2.1 (F a 10)) :
    RV (G2.2.1 (F a 10)) := by simp only [c_G2_F_a_10]; assumption
theorem v_X11_fresh_26_3 {F : Nat → Nat → Nat} (a : Nat) (G2 : XG) (G : XG)
    (hM : RM (G.2.1 (F a 1)) (0))
    (hB : RM (G.2.1 (F a 2)) 0)
    (c_G2_F_a_1 : G2.2.1 (F a 1) = G.2.1 (F a 1)) :
    RM (G2.2.1 (F a 1)) (0) := by simp only [c_G2_F_a_1]; assumption
theorem v_X11_fresh_26_4 {F : Nat → Nat → Nat} (a : Nat) (G2 : XG) (G : XG)
    (hM : RM (G.2.1 (F a 1)) (0))
    (hB : RM (G.2.1 (F a 2)) 0)
    (c_G2_F_a_2 : G2.2.1 (F a 2) = G.2.1 (F a 2)) :
    RM (G2.2.1 (F a 2)) 0 := by simp only [c_G2_F_a_2]; assumption
theorem v_X11_fresh_43_5 {F : Nat → Nat → Nat} (a : Nat) (G : XG) (G26 : XG)
    (hR : RV (G.2.1 (F a 10)))
    (c_G26_F_a_10 : G26.2.1 (F a 10) = G.2.1 (F a 10)) :
    RV (G26.2.1 (F a 10)) := by simp only [c_G26_F_a_10]; assumption
theorem v_X11_fresh_43_6 {F : Nat → Nat → Nat} (G : XG) (a : Nat) (p0 : Int32) (x7 : Int32) (G26 : XG)
    (hmk : ∀ m : Int, 0 ≤ m → m < ((G.1 a 7).toInt) → RM (G.2.1 (F a 3)) (360 * m))
    (m0 : 0 ≤ ((G.1 a 7).toInt) ∧ ((G.1 a 7).toInt) ≤ 8)
    (t7 : (((G.1 a 6).toInt) ≠ 0 ∧ 0 ≤ p0.toInt ∧ p0.toInt ≤ ((G.1 a 7).toInt) - 1 ∧ x7.toInt = 1) ∨ (¬ (((G.1 a 6).toInt) ≠ 0 ∧ 0 ≤ p0.toInt ∧ p0.toInt ≤ ((G.1 a 7).toInt) - 1) ∧ x7.toInt = 0))
    (c10 : ¬ (x7.toInt = 0))
    (c_G26_F_a_3 : G26.2.1 (F a 3) = G.2.1 (F a 3)) :
    RM (G26.2.1 (F a 3)) ((360 : Int) * p0.toInt) := by
  rw [c_G26_F_a_3]; exact hmk p0.toInt (by omega) (by omega)
theorem v_X11_fresh_208_7 {K : Nat → Nat} {F : Nat → Nat → Nat} (a : Nat) (G2 : XG) (G : XG) (G26 : XG) (G43 : XG) (p0 : Int32) (x7 : Int32) (x17 : Int32) (p1 : Int32) (l4_51 : Int32) (l3_51 : Int32) (N51 : Nat)
    (ha : K a = 13)
    (oq26a : ((G.1 a 6).toInt) ≠ 0 → LSt (G.2.1 (F a 10)) (G26.2.1 (F a 11)) (mw (G.2.1 (F a 1)) 0) 12 ∧ LSt (G.2.1 (F a 10)) (G26.2.1 (F a 13)) (mw (G.2.1 (F a 2)) 0) 12)
    (oq26b : G26.2.2.2 = G2.2.2.2)
    (oq43a : G43.2.2.2 = G26.2.2.2)
    (m0 : 0 ≤ ((G.1 a 7).toInt) ∧ ((G.1 a 7).toInt) ≤ 8)
    (t7 : (((G.1 a 6).toInt) ≠ 0 ∧ 0 ≤ p0.toInt ∧ p0.toInt ≤ ((G.1 a 7).toInt) - 1 ∧ x7.toInt = 1) ∨ (¬ (((G.1 a 6).toInt) ≠ 0 ∧ 0 ≤ p0.toInt ∧ p0.toInt ≤ ((G.1 a 7).toInt) - 1) ∧ x7.toInt = 0))
    (c10 : ¬ (x7.toInt = 0))
    (t17 : (x17.toInt = 1 ∧ (0 : Int) ≤ p1.toInt ∧ p1.toInt ≤ (1 : Int)) ∨ (x17.toInt = 0 ∧ (p1.toInt < (0 : Int) ∨ (1 : Int) < p1.toInt)))
    (c20 : x17.toInt ≠ 0)
    (t26 : 0 ≤ ((G26.1 a 19).toInt) ∧ ((G26.1 a 19).toInt) ≤ 2388)
    (z48 : (frA (G.2.1 (F a 10)) (mw (G.2.1 (F a 1)) 0) (mw (G.2.1 (F a 2)) 0) (mw (G.2.1 (F a 3)) (360 * p0.toInt)) p1.toInt 0) = 0)
    (I51_0 : 0 ≤ l4_51.toInt ∧ l4_51.toInt ≤ 12)
    (I51_1 : l3_51.toInt = (frA (G.2.1 (F a 10)) (mw (G.2.1 (F a 1)) 0) (mw (G.2.1 (F a 2)) 0) (mw (G.2.1 (F a 3)) (360 * p0.toInt)) p1.toInt (l4_51.toInt)))
    (I51_2 : 0 ≤ l3_51.toInt ∧ l3_51.toInt ≤ 199 * l4_51.toInt)
    (hm51 : 100 - l4_51.toInt < (((N51) + 1 : Nat) : Int))
    (z53 : l4_51.toInt = 12 → (frA (G.2.1 (F a 10)) (mw (G.2.1 (F a 1)) 0) (mw (G.2.1 (F a 2)) 0) (mw (G.2.1 (F a 3)) (360 * p0.toInt)) p1.toInt (l4_51.toInt)) = (frA (G.2.1 (F a 10)) (mw (G.2.1 (F a 1)) 0) (mw (G.2.1 (F a 2)) 0) (mw (G.2.1 (F a 3)) (360 * p0.toInt)) p1.toInt 12))
    (c55 : (12 : Int) ≤ l4_51.toInt) :
    ((¬ (((G.1 a 6).toInt) ≠ 0 ∧ 0 ≤ p0.toInt ∧ p0.toInt ≤ ((G.1 a 7).toInt) - 1) ∨ p1.toInt < 0 ∨ 1 < p1.toInt) ∧ l3_51.toInt = -1) ∨ ((((G.1 a 6).toInt) ≠ 0 ∧ 0 ≤ p0.toInt ∧ p0.toInt ≤ ((G.1 a 7).toInt) - 1) ∧ (0 ≤ p1.toInt ∧ p1.toInt ≤ 1) ∧ l3_51.toInt = frA (G.2.1 (F a 10)) (mw (G.2.1 (F a 1)) 0) (mw (G.2.1 (F a 2)) 0) (mw (G.2.1 (F a 3)) (360 * p0.toInt)) p1.toInt 12) := by
  exact Or.inr ⟨by omega, by omega, by omega⟩
theorem v_X11_fresh_24_8 {K : Nat → Nat} {F : Nat → Nat → Nat} (a : Nat) (G : XG) (p0 : Int32) (x7 : Int32) (x17 : Int32) (p1 : Int32)
    (ha : K a = 13)
    (m0 : 0 ≤ ((G.1 a 7).toInt) ∧ ((G.1 a 7).toInt) ≤ 8)
    (t7 : (((G.1 a 6).toInt) ≠ 0 ∧ 0 ≤ p0.toInt ∧ p0.toInt ≤ ((G.1 a 7).toInt) - 1 ∧ x7.toInt = 1) ∨ (¬ (((G.1 a 6).toInt) ≠ 0 ∧ 0 ≤ p0.toInt ∧ p0.toInt ≤ ((G.1 a 7).toInt) - 1) ∧ x7.toInt = 0))
    (c10 : ¬ (x7.toInt = 0))
    (t17 : (x17.toInt = 1 ∧ (0 : Int) ≤ p1.toInt ∧ p1.toInt ≤ (1 : Int)) ∨ (x17.toInt = 0 ∧ (p1.toInt < (0 : Int) ∨ (1 : Int) < p1.toInt)))
    (c20 : ¬ (x17.toInt ≠ 0)) :
    ((¬ (((G.1 a 6).toInt) ≠ 0 ∧ 0 ≤ p0.toInt ∧ p0.toInt ≤ ((G.1 a 7).toInt) - 1) ∨ p1.toInt < 0 ∨ 1 < p1.toInt) ∧ (-1 : Int) = -1) ∨ ((((G.1 a 6).toInt) ≠ 0 ∧ 0 ≤ p0.toInt ∧ p0.toInt ≤ ((G.1 a 7).toInt) - 1) ∧ (0 ≤ p1.toInt ∧ p1.toInt ≤ 1) ∧ (-1 : Int) = frA (G.2.1 (F a 10)) (mw (G.2.1 (F a 1)) 0) (mw (G.2.1 (F a 2)) 0) (mw (G.2.1 (F a 3)) (360 * p0.toInt)) p1.toInt 12) := by
  exact Or.inl ⟨by omega, rfl⟩
theorem z_X11_fresh_1 (a0 : Int) (a1 : Int) (a2 : Int) (a3 : Int) (a4 : Int) (h0 : 0 ≤ a4 ∧ a4 ≤ 8) (h1 : (a3 ≠ 0 ∧ 0 ≤ a0 ∧ a0 ≤ a4 - 1 ∧ a2 = 1) ∨ (¬ (a3 ≠ 0 ∧ 0 ≤ a0 ∧ a0 ≤ a4 - 1) ∧ a2 = 0)) (h2 : ¬ (a2 = 0)) (h3 : a1 = ((360 : Int) * a0) ∨ ((360 : Int) * a0) < -2147483648 ∨ 2147483648 ≤ ((360 : Int) * a0)) : a1 = ((360 : Int) * a0) := by omega
theorem z_X11_fresh_2 (a0 : Int) (a1 : Int) (a2 : Int) (a3 : Int) (h0 : 0 ≤ a3 ∧ a3 ≤ 8) (h1 : (a2 ≠ 0 ∧ 0 ≤ a0 ∧ a0 ≤ a3 - 1 ∧ a1 = 1) ∨ (¬ (a2 ≠ 0 ∧ 0 ≤ a0 ∧ a0 ≤ a3 - 1) ∧ a1 = 0)) (h2 : ¬ (a1 = 0)) : 0 ≤ ((360 : Int) * a0) ∧ ((360 : Int) * a0) ≤ 2520 := by omega
theorem z_X11_fresh_3 (a0 : Int) (h0 : 0 ≤ a0 ∧ a0 ≤ 12) : ¬ (100 - a0 < ((0 : Nat) : Int)) := by omega
theorem z_X11_fresh_4 (a0 : Int) (h0 : 0 ≤ a0 ∧ a0 ≤ 12) : 0 ≤ a0 := by omega
theorem z_X11_fresh_5 (a0 : Int) (a1 : Int) (h0 : 0 ≤ a0 ∧ a0 ≤ 12) (h1 : a1 = (a0 + 1) ∨ (a0 + 1) < -2147483648 ∨ 2147483648 ≤ (a0 + 1)) : a1 = (a0 + 1) := by omega
theorem z_X11_fresh_6 (a0 : Int) (h0 : 0 ≤ a0 ∧ a0 ≤ 12) (h1 : ¬ ((12 : Int) ≤ a0)) : 0 ≤ (a0 + 1) ∧ (a0 + 1) ≤ 12 := by omega
theorem z_X11_fresh_7 (a0 : Int) (a1 : Int) (a2 : Int) (a3 : Int) (a4 : Int) (a5 : Int) (a6 : Int) (a7 : Int) (h0 : 0 ≤ a1 ∧ a1 ≤ 12) (h1 : a0 = a6) (h2 : ¬ ((12 : Int) ≤ a1)) (h3 : a5 = a6 + a7) (h4 : ¬ (a3 ≠ -1 ∧ a4 = 1) → a7 = 0) (h5 : (a2 = 1 ∧ 0 ≤ a1 ∧ a1 ≤ 11 ∧ a3 ≠ -1) ∨ (a2 = 0 ∧ (¬ (0 ≤ a1 ∧ a1 ≤ 11) ∨ a3 = -1))) (h6 : a2 = 0) : a0 = a5 := by omega
theorem z_X11_fresh_8 (a0 : Int) (a1 : Int) (h0 : 0 ≤ a0 ∧ a0 ≤ 199 * a1) : 0 ≤ a0 ∧ a0 ≤ 199 * (a1 + 1) := by omega
theorem z_X11_fresh_9 (a0 : Int) (a1 : Nat) (h0 : 100 - a0 < ((a1 + 1 : Nat) : Int)) : 100 - (a0 + 1) < ((a1 : Nat) : Int) := by omega
theorem z_X11_fresh_10 (a0 : Int) (h0 : 0 ≤ a0 ∧ a0 ≤ 12) (h1 : ¬ ((12 : Int) ≤ a0)) : 0 ≤ a0 ∧ a0 ≤ 11 := by omega
theorem z_X11_fresh_13 (a0 : Int) (a1 : Int) (a2 : Int) (a3 : Int) (a4 : Int) (a5 : Int) (h0 : a0 = a4) (h1 : a3 = a4 + a5) (h2 : ¬ (a1 ≠ -1 ∧ a2 = 1) → a5 = 0) (h3 : a2 ≠ (1 : Int)) : a0 = a3 := by omega
theorem z_X11_fresh_18 (a0 : Int) (h0 : -2147483648 ≤ a0 ∧ a0 < 2147483648) : ¬ (2147483648 - a0 < ((0 : Nat) : Int)) := by omega
theorem z_X11_fresh_22 (a0 : Int) (a1 : Int) (a2 : Int) (a3 : Int) (a4 : Int) (a5 : Int) (a6 : Int) (a7 : Int) (a8 : Int) (a9 : Int) (a10 : Int) (a11 : Int) (a12 : Int) (h0 : a6 = a7 + a8) (h1 : a4 ≠ -1 ∧ a5 = 1 → a8 = a12) (h2 : (a3 = 1 ∧ 0 ≤ a1 ∧ a1 ≤ 11 ∧ a4 ≠ -1) ∨ (a3 = 0 ∧ (¬ (0 ≤ a1 ∧ a1 ≤ 11) ∨ a4 = -1))) (h3 : ¬ (a3 = 0)) (h4 : ¬ (a5 ≠ (1 : Int))) (h5 : a9 ≤ a2 ∧ a2 ≤ a10 + 1) (h6 : a0 = a7 + a11) (h7 : a2 = a10 + 1 → a11 = a12) (h8 : a10 < a2) : a0 = a6 := by omega
theorem z_X11_fresh_23 (a0 : Int) (a1 : Int) (a2 : Int) (a3 : Int) (a4 : Int) (a5 : Int) (h0 : ((a3 = 2 ∨ a3 = 4 ∨ a3 = 5) ∧ a4 = 0 ∧ a5 = 29) ∨ (¬ (a3 = 2 ∨ a3 = 4 ∨ a3 = 5) ∧ a4 = -99 ∧ a5 = 99)) (h1 : a4 ≤ a2 ∧ a2 ≤ a5 + 1) (h2 : 0 ≤ a0 ∧ a0 ≤ 199 * a1 + (a2 - a4)) : 0 ≤ a0 ∧ a0 ≤ 199 * (a1 + 1) := by omega
theorem z_X11_fresh_25 (a0 : Int) (a1 : Int) (a2 : Int) (h0 : a1 ≤ a0 ∧ a0 ≤ a2 + 1) : a1 ≤ a0 := by omega
theorem z_X11_fresh_26 (a0 : Int) (a1 : Int) (a2 : Int) (a3 : Int) (h0 : (a2 ≠ 0 ∧ 0 ≤ a0 ∧ a0 ≤ a3 - 1 ∧ a1 = 1) ∨ (¬ (a2 ≠ 0 ∧ 0 ≤ a0 ∧ a0 ≤ a3 - 1) ∧ a1 = 0)) (h1 : ¬ (a1 = 0)) : a2 ≠ 0 := by omega
theorem z_X11_fresh_28 (a0 : Int) (h0 : ¬ ((12 : Int) ≤ a0)) : a0 < 12 := by omega
theorem z_X11_fresh_29 (a0 : Int) (a1 : Int) (a2 : Int) (h0 : (a1 = 1 ∧ 0 ≤ a0 ∧ a0 ≤ 11 ∧ a2 ≠ -1) ∨ (a1 = 0 ∧ (¬ (0 ≤ a0 ∧ a0 ≤ 11) ∨ a2 = -1))) (h1 : ¬ (a1 = 0)) : a2 ≠ -1 := by omega
theorem z_X11_fresh_30 (a0 : Int) (a1 : Int) (a2 : Int) (h0 : a1 ≤ a0 ∧ a0 ≤ a2 + 1) (h1 : ¬ (a2 < a0)) : a1 ≤ a0 ∧ a0 ≤ a2 := by omega
theorem z_X11_fresh_40 (a0 : Int) (a1 : Int) (a2 : Int) (a3 : Int) (a4 : Int) (h0 : 0 ≤ a0 ∧ a0 ≤ 12) (h1 : ¬ ((12 : Int) ≤ a0)) (h2 : ((a2 = 2 ∨ a2 = 4 ∨ a2 = 5) ∧ a3 = 0 ∧ a4 = 29) ∨ (¬ (a2 = 2 ∨ a2 = 4 ∨ a2 = 5) ∧ a3 = -99 ∧ a4 = 99)) (h3 : a3 ≤ a1 ∧ a1 ≤ a4 + 1) (h4 : ¬ (a4 < a1)) : 0 ≤ a0 ∧ a0 ≤ 11 ∧ -99 ≤ a1 ∧ a1 ≤ 99 := by omega
theorem z_X11_fresh_41 (a0 : Int) (a1 : Int) (a2 : Int) (a3 : Int) (a4 : Int) (a5 : Int) (h0 : 0 ≤ a0 ∧ a0 ≤ 199 * a1) (h1 : ¬ ((12 : Int) ≤ a1)) (h2 : ((a3 = 2 ∨ a3 = 4 ∨ a3 = 5) ∧ a4 = 0 ∧ a5 = 29) ∨ (¬ (a3 = 2 ∨ a3 = 4 ∨ a3 = 5) ∧ a4 = -99 ∧ a5 = 99)) (h3 : a4 ≤ a2 ∧ a2 ≤ a5 + 1) (h4 : ¬ (a5 < a2)) : 0 ≤ 199 * a1 + a2 + 99 ∧ 199 * a1 + a2 + 99 < ((2388 : Nat) : Int) := by omega
theorem z_X11_fresh_45 (a0 : Int) (a1 : Int) (a2 : Int) (a3 : Int) (a4 : Int) (h0 : ((a2 = 2 ∨ a2 = 4 ∨ a2 = 5) ∧ a3 = 0 ∧ a4 = 29) ∨ (¬ (a2 = 2 ∨ a2 = 4 ∨ a2 = 5) ∧ a3 = -99 ∧ a4 = 99)) (h1 : ¬ (a4 < a0)) (h2 : a1 = (a0 + 1) ∨ (a0 + 1) < -2147483648 ∨ 2147483648 ≤ (a0 + 1)) (h3 : -2147483648 ≤ a0 ∧ a0 < 2147483648) : a1 = (a0 + 1) := by omega
theorem z_X11_fresh_46 (a0 : Int) (a1 : Int) (a2 : Int) (h0 : a1 ≤ a0 ∧ a0 ≤ a2 + 1) (h1 : ¬ (a2 < a0)) : a1 ≤ (a0 + 1) ∧ (a0 + 1) ≤ a2 + 1 := by omega
theorem z_X11_fresh_47 (a0 : Int) (a1 : Int) (a2 : Int) (a3 : Int) (a4 : Int) (a5 : Int) (a6 : Int) (a7 : Int) (a8 : Int) (a9 : Int) (a10 : Int) (a11 : Int) (h0 : a0 = a5 + a8) (h1 : a7 = a8 + a6) (h2 : a1 ≠ 0 → (a9 = a10 ∧ a11 ≠ a10 → a6 = 1) ∧ (¬ (a9 = a10 ∧ a11 ≠ a10) → a6 = 0)) (h3 : a3 = a10) (h4 : a4 = a11) (h5 : a1 ≠ 0) (h6 : a4 = a3) (h7 : a2 = a0 + (0 : Int) ∨ a0 + (0 : Int) < -2147483648 ∨ 2147483648 ≤ a0 + (0 : Int)) (h8 : -2147483648 ≤ a0 ∧ a0 < 2147483648) : a2 = a5 + a7 := by omega
theorem z_X11_fresh_48 (a0 : Int) (a1 : Int) (a2 : Int) (a3 : Int) (a4 : Int) (h0 : 0 ≤ a0 ∧ a0 ≤ 199 * a1 + (a2 - a4)) (h1 : a3 = a0 + (0 : Int) ∨ a0 + (0 : Int) < -2147483648 ∨ 2147483648 ≤ a0 + (0 : Int)) (h2 : -2147483648 ≤ a0 ∧ a0 < 2147483648) : 0 ≤ a3 ∧ a3 ≤ 199 * a1 + ((a2 + 1) - a4) := by omega
theorem z_X11_fresh_49 (a0 : Int) (a1 : Nat) (h0 : 2147483648 - a0 < ((a1 + 1 : Nat) : Int)) : 2147483648 - (a0 + 1) < ((a1 : Nat) : Int) := by omega
theorem z_X11_fresh_52 (a0 : Int) (a1 : Int) (a2 : Int) (a3 : Int) (a4 : Int) (a5 : Int) (a6 : Int) (a7 : Int) (a8 : Int) (a9 : Int) (a10 : Int) (a11 : Int) (a12 : Int) (a13 : Int) (a14 : Int) (a15 : Int) (a16 : Int) (a17 : Int) (h0 : ¬ ((12 : Int) ≤ a1)) (h1 : ((a5 = 2 ∨ a5 = 4 ∨ a5 = 5) ∧ a11 = 0 ∧ a12 = 29) ∨ (¬ (a5 = 2 ∨ a5 = 4 ∨ a5 = 5) ∧ a11 = -99 ∧ a12 = 99)) (h2 : a0 = a9 + a14) (h3 : 0 ≤ a0 ∧ a0 ≤ 199 * a1 + (a2 - a11)) (h4 : ¬ (a12 < a2)) (h5 : a13 = a14 + a10) (h6 : a3 ≠ 0 → (a15 = a16 ∧ a17 ≠ a16 → a10 = 1) ∧ (¬ (a15 = a16 ∧ a17 ≠ a16) → a10 = 0)) (h7 : a6 = a15) (h8 : a7 = a16) (h9 : a8 = a17) (h10 : a6 = a7) (h11 : a3 ≠ 0) (h12 : ¬ (a8 = a7)) (h13 : a4 = a0 + (1 : Int) ∨ a0 + (1 : Int) < -2147483648 ∨ 2147483648 ≤ a0 + (1 : Int)) : a4 = a9 + a13 := by omega
theorem z_X11_fresh_53 (a0 : Int) (a1 : Int) (a2 : Int) (a3 : Int) (a4 : Int) (a5 : Int) (a6 : Int) (h0 : ¬ ((12 : Int) ≤ a1)) (h1 : ((a4 = 2 ∨ a4 = 4 ∨ a4 = 5) ∧ a5 = 0 ∧ a6 = 29) ∨ (¬ (a4 = 2 ∨ a4 = 4 ∨ a4 = 5) ∧ a5 = -99 ∧ a6 = 99)) (h2 : 0 ≤ a0 ∧ a0 ≤ 199 * a1 + (a2 - a5)) (h3 : ¬ (a6 < a2)) (h4 : a3 = a0 + (1 : Int) ∨ a0 + (1 : Int) < -2147483648 ∨ 2147483648 ≤ a0 + (1 : Int)) : 0 ≤ a3 ∧ a3 ≤ 199 * a1 + ((a2 + 1) - a5) := by omega
theorem z_X11_fresh_57 (a0 : Int) (a1 : Int) (a2 : Int) (a3 : Int) (a4 : Int) (a5 : Int) (a6 : Int) (a7 : Int) (a8 : Int) (a9 : Int) (a10 : Int) (a11 : Int) (h0 : a0 = a5 + a8) (h1 : a7 = a8 + a6) (h2 : a1 = 0 → (a9 ≠ a10 ∧ a9 ≠ a11 → a6 = 1) ∧ (¬ (a9 ≠ a10 ∧ a9 ≠ a11) → a6 = 0)) (h3 : a3 = a9) (h4 : a4 = a10) (h5 : a3 = a4) (h6 : ¬ (a1 ≠ 0)) (h7 : a2 = a0 + (0 : Int) ∨ a0 + (0 : Int) < -2147483648 ∨ 2147483648 ≤ a0 + (0 : Int)) (h8 : -2147483648 ≤ a0 ∧ a0 < 2147483648) : a2 = a5 + a7 := by omega
theorem z_X11_fresh_62 (a0 : Int) (a1 : Int) (a2 : Int) (a3 : Int) (a4 : Int) (a5 : Int) (a6 : Int) (a7 : Int) (a8 : Int) (a9 : Int) (a10 : Int) (a11 : Int) (h0 : a0 = a5 + a8) (h1 : a7 = a8 + a6) (h2 : a1 ≠ 0 → (a9 = a10 ∧ a11 ≠ a10 → a6 = 1) ∧ (¬ (a9 = a10 ∧ a11 ≠ a10) → a6 = 0)) (h3 : a3 = a9) (h4 : a4 = a10) (h5 : ¬ (a3 = a4)) (h6 : a1 ≠ 0) (h7 : a2 = a0 + (0 : Int) ∨ a0 + (0 : Int) < -2147483648 ∨ 2147483648 ≤ a0 + (0 : Int)) (h8 : -2147483648 ≤ a0 ∧ a0 < 2147483648) : a2 = a5 + a7 := by omega
theorem z_X11_fresh_69 (a0 : Int) (a1 : Int) (a2 : Int) (a3 : Int) (a4 : Int) (a5 : Int) (a6 : Int) (a7 : Int) (a8 : Int) (a9 : Int) (a10 : Int) (a11 : Int) (h0 : a0 = a5 + a8) (h1 : a7 = a8 + a6) (h2 : a1 = 0 → (a9 ≠ a10 ∧ a9 ≠ a11 → a6 = 1) ∧ (¬ (a9 ≠ a10 ∧ a9 ≠ a11) → a6 = 0)) (h3 : a3 = a9) (h4 : a4 = a11) (h5 : ¬ (a1 ≠ 0)) (h6 : a3 = a4) (h7 : a2 = a0 + (0 : Int) ∨ a0 + (0 : Int) < -2147483648 ∨ 2147483648 ≤ a0 + (0 : Int)) (h8 : -2147483648 ≤ a0 ∧ a0 < 2147483648) : a2 = a5 + a7 := by omega
theorem z_X11_fresh_74 (a0 : Int) (a1 : Int) (a2 : Int) (a3 : Int) (a4 : Int) (a5 : Int) (a6 : Int) (a7 : Int) (a8 : Int) (a9 : Int) (a10 : Int) (a11 : Int) (a12 : Int) (a13 : Int) (a14 : Int) (a15 : Int) (a16 : Int) (a17 : Int) (h0 : ¬ ((12 : Int) ≤ a1)) (h1 : ((a5 = 2 ∨ a5 = 4 ∨ a5 = 5) ∧ a11 = 0 ∧ a12 = 29) ∨ (¬ (a5 = 2 ∨ a5 = 4 ∨ a5 = 5) ∧ a11 = -99 ∧ a12 = 99)) (h2 : a0 = a9 + a14) (h3 : 0 ≤ a0 ∧ a0 ≤ 199 * a1 + (a2 - a11)) (h4 : ¬ (a12 < a2)) (h5 : a13 = a14 + a10) (h6 : a3 = 0 → (a15 ≠ a16 ∧ a15 ≠ a17 → a10 = 1) ∧ (¬ (a15 ≠ a16 ∧ a15 ≠ a17) → a10 = 0)) (h7 : a6 = a15) (h8 : a7 = a16) (h9 : a8 = a17) (h10 : ¬ (a6 = a7)) (h11 : ¬ (a3 ≠ 0)) (h12 : ¬ (a6 = a8)) (h13 : a4 = a0 + (1 : Int) ∨ a0 + (1 : Int) < -2147483648 ∨ 2147483648 ≤ a0 + (1 : Int)) : a4 = a9 + a13 := by omega
theorem z_X11_fresh_77 (a0 : Int) (a1 : Int) (a2 : Int) (h0 : ((a0 = 2 ∨ a0 = 4 ∨ a0 = 5) ∧ a1 = 0 ∧ a2 = 29) ∨ (¬ (a0 = 2 ∨ a0 = 4 ∨ a0 = 5) ∧ a1 = -99 ∧ a2 = 99)) : a1 ≤ a1 ∧ a1 ≤ a2 + 1 := by omega
theorem z_X11_fresh_78 (a0 : Int) (a1 : Int) (a2 : Int) (h0 : a0 = a1) (h1 : a2 = 0) : a0 = a1 + a2 := by omega
theorem z_X11_fresh_79 (a0 : Int) (a1 : Int) (a2 : Int) (h0 : 0 ≤ a0 ∧ a0 ≤ 199 * a1) : 0 ≤ a0 ∧ a0 ≤ 199 * a1 + (a2 - a2) := by omega
theorem z_X11_fresh_80 (a0 : Int) (a1 : Int) (a2 : Int) (h0 : ((a0 = 2 ∨ a0 = 4 ∨ a0 = 5) ∧ a1 = 0 ∧ a2 = 29) ∨ (¬ (a0 = 2 ∨ a0 = 4 ∨ a0 = 5) ∧ a1 = -99 ∧ a2 = 99)) : 2147483648 - a1 < ((4294967297 : Nat) : Int) := by omega
theorem z_X11_fresh_81 (a0 : Int) (h0 : a0 = 0) : (0 : Int) = a0 := by omega
abbrev rm_X11_fresh : Room := { frames := 5, cells := 0, slots := 0, locals := 122 }
set_option maxHeartbeats 4000000 in
set_option maxRecDepth 100000 in
theorem c_X11_fresh (l : Launch) (E : XE) (K : Nat → Nat) (F : Nat → Nat → Nat) (G : XG) (a : Nat) (p0 : Int32) (p1 : Int32) (ha : K a = 13) (m0 : 0 ≤ ((G.1 a 7).toInt) ∧ ((G.1 a 7).toInt) ≤ 8) (hR : RV (G.2.1 (F a 10))) (hM : RM (G.2.1 (F a 1)) (0)) (hB : RM (G.2.1 (F a 2)) 0) (hmk : ∀ m : Int, 0 ≤ m → m < ((G.1 a 7).toInt) → RM (G.2.1 (F a 3)) (360 * m)) : Met l yX11_fresh (xw yX11_fresh cX11_fresh 8 (some .int)) rm_X11_fresh (va_Pc [.ref a, .int p0, .int p1] (XP E K F G)) (XQ E (fun v (u : XG) => ∃ r : Int32, v = .int r ∧ XFr [(a, 0), (a, 16), (a, 19)] [F a 15, F a 17, F a 18, F a 11, F a 13, F a 14] [] G u ∧ (((¬ (((G.1 a 6).toInt) ≠ 0 ∧ 0 ≤ p0.toInt ∧ p0.toInt ≤ ((G.1 a 7).toInt) - 1) ∨ p1.toInt < 0 ∨ 1 < p1.toInt) ∧ r.toInt = -1) ∨ ((((G.1 a 6).toInt) ≠ 0 ∧ 0 ≤ p0.toInt ∧ p0.toInt ≤ ((G.1 a 7).toInt) - 1) ∧ (0 ≤ p1.toInt ∧ p1.toInt ≤ 1) ∧ r.toInt = frA (G.2.1 (F a 10)) (mw (G.2.1 (F a 1)) 0) (mw (G.2.1 (F a 2)) 0) (mw (G.2.1 (F a 3)) (360 * p0.toInt)) p1.toInt 12))) (fun u H => TW E K F u H)) 0 0 (xA E) := by
  refine x_enter (by decide) (Nat.le_of_ble_eq_true rfl) ?_
  intro p e s m args below meth c Q S hr hlk hnm hQ hP ls hl
  obtain ⟨hz, hK, hT⟩ := hP
  obtain ⟨hx, hb, -, -, -⟩ := id S
  obtain ⟨H, hT, hS, hgo⟩ : ∃ H : Heap, TW E K F G H ∧ va_S (xA E) s.heap H [] ∧ H = s.heap := ⟨_, hT, va_S.rf, rfl⟩
  rw [← hgo]
  have hl : lv_has ls 8 [(0, .ref a), (1, .int p0), (2, .int p1)] := hl
  obtain ⟨hk9999, hj9999⟩ := fkX11_15 hT ha
  obtain ⟨hk9999a, hj9999a⟩ := fkX11_17 hT ha
  obtain ⟨hk9999b, hj9999b⟩ := fkX11_18 hT ha
  obtain ⟨hk9999c, hj9999c⟩ := fkX11_11 hT ha
  obtain ⟨hk9999d, hj9999d⟩ := fkX11_13 hT ha
  obtain ⟨hk9999e, hj9999e⟩ := fkX11_14 hT ha
  obtain ⟨hk9999f, hj9999f⟩ := fkX11_10 hT ha
  obtain ⟨hk9999g, hj9999g⟩ := fkX11_3 hT ha
  obtain ⟨hk9999h, hj9999h⟩ := fkX11_1 hT ha
  obtain ⟨hk9999i, hj9999i⟩ := fkX11_2 hT ha
  refine lv_aload_n hx hb dX11_fresh_0 rfl (lv_at hl 0 rfl) ?_
  refine lv_iconst (v := 0) hx hb dX11_fresh_1 (by decide) ?_
  refine pX11_0 (v := 0) S hK hT hS ha kf_X11_134 dX11_fresh_2 (fun H locs hT hS => ?_)
  obtain ⟨G2, hG2⟩ : ∃ GG : XG, GG = dput G a 0 0 := ⟨_, rfl⟩
  rw [← hG2] at hT
  refine lv_aload_n hx hb dX11_fresh_5 rfl (lv_at hl 0 rfl) ?_
  refine lv_iload_n hx hb dX11_fresh_6 rfl (lv_at hl 1 rfl) ?_
  refine x_clp (x_runV (b := a) (As := [.int p0]) (rest := []) S (c_X11_isMark l E K F G2 H a p0 ha) mv_X11_isMark km_X11_382 rfl rfl ⟨Nat.le_of_ble_eq_true rfl, Nat.le_of_ble_eq_true rfl⟩ (rc_13 hK hT ha) hK (fun _ => XPh.blind) (fun U hU hW => XPh.at hK hz hS hT hU hW) rfl hl.1 (Nat.le_of_ble_eq_true rfl) dX11_fresh_7 ⟨Nat.le_of_ble_eq_true rfl, Nat.le_of_ble_eq_true rfl⟩) hS ?_
  rintro _ _ locs ⟨x7, rfl, b7, t7⟩ hS
  have t7 : (((G.1 a 6).toInt) ≠ 0 ∧ 0 ≤ p0.toInt ∧ p0.toInt ≤ ((G.1 a 7).toInt) - 1 ∧ x7.toInt = 1) ∨ (¬ (((G.1 a 6).toInt) ≠ 0 ∧ 0 ≤ p0.toInt ∧ p0.toInt ≤ ((G.1 a 7).toInt) - 1) ∧ x7.toInt = 0) := by rw [(show (G2.1 a 6).toInt = ((G.1 a 6).toInt) from (congrArg Int32.toInt (ld_j hG2 (by decide))).trans (rfl : Int32.toInt (G.1 a 6) = ((G.1 a 6).toInt)))] at t7; rw [(show (G2.1 a 7).toInt = ((G.1 a 7).toInt) from (congrArg Int32.toInt (ld_j hG2 (by decide))).trans (rfl : Int32.toInt (G.1 a 7) = ((G.1 a 7).toInt)))] at t7; exact t7
  refine xi_zeq (tgt := 23) hx hb (rfl : Int32.toInt x7 = x7.toInt) dX11_fresh_10 (by decide) (fun c10 => ?_) (fun c10 => ?_)
  · refine lv_iconst (v := (-1)) hx hb dX11_fresh_23 (by decide) ?_
    exact x_ri hx hb hr hlk hQ (Nat.le_of_ble_eq_true rfl) (Nat.le_of_ble_eq_true rfl) hS dX11_fresh_24 G2 ⟨_, rfl, (by rw [hG2]; exact XFr.dput XFr.rf (List.mem_of_getElem? (i := 0) rfl)), (by rw [((by decide) : Int32.toInt (-1) = (-1 : Int))] <;> exact (v_X11_fresh_24_1 (K := K) (F := F) a G p0 x7 p1 ha m0 t7 c10))⟩ hT
  · refine lv_iload_n hx hb dX11_fresh_13 rfl (lv_at hl 2 rfl) ?_
    refine lv_i2l (v := p1.toInt64) hx hb dX11_fresh_14 rfl ?_
    refine lv_lconst (v := (0 : Int64)) hx hb dX11_fresh_15 (by decide) ?_
    refine lv_lconst (v := (1 : Int64)) hx hb dX11_fresh_16 (by decide) ?_
    refine x_clp (x_runS (As := [.long p1.toInt64, .long (0 : Int64), .long (1 : Int64)]) (rest := []) S (c_X11_in l E K F G2 H p1.toInt64 p1.toInt (0 : Int64) (0 : Int) (1 : Int64) (1 : Int) (xl_i2l (rfl : Int32.toInt p1 = p1.toInt)) (by decide) (by decide)) ms_X11_in km_X11_139 rfl rfl ⟨Nat.le_of_ble_eq_true rfl, Nat.le_of_ble_eq_true rfl⟩ hK (fun _ => XPh.blind) (fun U hU hW => XPh.at hK hz hS hT hU hW) rfl hl.1 (Nat.le_of_ble_eq_true rfl) dX11_fresh_17 ⟨Nat.le_of_ble_eq_true rfl, Nat.le_of_ble_eq_true rfl⟩) hS ?_
    rintro _ _ locs ⟨x17, rfl, b17, t17⟩ hS
    have t17 : (x17.toInt = 1 ∧ (0 : Int) ≤ p1.toInt ∧ p1.toInt ≤ (1 : Int)) ∨ (x17.toInt = 0 ∧ (p1.toInt < (0 : Int) ∨ (1 : Int) < p1.toInt)) := t17
    refine xi_zne (tgt := 25) hx hb (rfl : Int32.toInt x17 = x17.toInt) dX11_fresh_20 (by decide) (fun c20 => ?_) (fun c20 => ?_)
    · refine lv_aload_n hx hb dX11_fresh_25 rfl (lv_at hl 0 rfl) ?_
      refine x_cv0 (x_runV (b := a) (As := []) (rest := []) S (c_X11_findQueue l E K F G2 a ha (v_X11_fresh_26_2 (F := F) a G2 G hR (ld_c hG2)) (v_X11_fresh_26_3 (F := F) a G2 G hM hB (ld_c hG2)) (v_X11_fresh_26_4 (F := F) a G2 G hM hB (ld_c hG2))) mv_X11_findQueue km_X11_218 rfl rfl ⟨Nat.le_of_ble_eq_true rfl, Nat.le_of_ble_eq_true rfl⟩ (rc_13 hK hT ha) hK (fun _ => XP.blind) (fun U hU hW => XP.at hK hz hS hT hU hW) rfl hl.1 (Nat.le_of_ble_eq_true rfl) dX11_fresh_26 ⟨Nat.le_of_ble_eq_true rfl, Nat.le_of_ble_eq_true rfl⟩) hS ?_
      rintro G26 H locs ⟨hF26, t26, oq26, oq26a, oq26b⟩ hT hS
      have t26 : 0 ≤ ((G26.1 a 19).toInt) ∧ ((G26.1 a 19).toInt) ≤ 2388 := t26
      have oq26 : pL G26 F a = if ((G.1 a 6).toInt) = 0 then [] else fuO (G.2.1 (F a 10)) (mw (G.2.1 (F a 1)) 0) (mw (G.2.1 (F a 2)) 0) 1 := by simp only [(show G2.1 a 6 = G.1 a 6 from (ld_j hG2 (by decide))), (show G2.2.1 (F a 10) = G.2.1 (F a 10) from (ld_c hG2)), (show G2.2.1 (F a 1) = G.2.1 (F a 1) from (ld_c hG2)), (show G2.2.1 (F a 2) = G.2.1 (F a 2) from (ld_c hG2))] at oq26; exact oq26
      have oq26a : ((G.1 a 6).toInt) ≠ 0 → LSt (G.2.1 (F a 10)) (G26.2.1 (F a 11)) (mw (G.2.1 (F a 1)) 0) 12 ∧ LSt (G.2.1 (F a 10)) (G26.2.1 (F a 13)) (mw (G.2.1 (F a 2)) 0) 12 := by simp only [(show G2.1 a 6 = G.1 a 6 from (ld_j hG2 (by decide))), (show G2.2.1 (F a 10) = G.2.1 (F a 10) from (ld_c hG2)), (show G2.2.1 (F a 1) = G.2.1 (F a 1) from (ld_c hG2)), (show G2.2.1 (F a 2) = G.2.1 (F a 2) from (ld_c hG2))] at oq26a; exact oq26a
      refine lv_aload_n hx hb dX11_fresh_29 rfl (lv_at hl 0 rfl) ?_
      refine lv_aload_n hx hb dX11_fresh_30 rfl (lv_at hl 0 rfl) ?_
      refine gX11_14 S hK hT ha kf_X11_45 dX11_fresh_31 (fun _ _ => ?_)
      refine lv_aload_n hx hb dX11_fresh_34 rfl (lv_at hl 0 rfl) ?_
      refine gX11_3 S hK hT ha kf_X11_18 dX11_fresh_35 (fun _ _ => ?_)
      refine lv_sipush (v := 360) hx hb dX11_fresh_38 (by decide) ?_
      refine lv_iload_n hx hb dX11_fresh_41 rfl (lv_at hl 1 rfl) ?_
      refine xi_imul hx hb ((by decide) : Int32.toInt 360 = (360 : Int)) (rfl : Int32.toInt p0 = p0.toInt) dX11_fresh_42 (fun x42 t42 => ?_)
      have e42 : x42.toInt = ((360 : Int) * p0.toInt) := (z_X11_fresh_1 p0.toInt x42.toInt x7.toInt ((G.1 a 6).toInt) ((G.1 a 7).toInt) m0 t7 c10 t42)
      refine x_cv0 (x_runV (b := a) (As := [.ref (F a 14), .ref (F a 3), .int x42]) (rest := []) S (c_X11_layStates l E K F G26 a (F a 14) (F a 3) x42 ha hk9999e (XO.c hk9999g (by rw [(e42 : Int32.toInt x42 = ((360 : Int) * p0.toInt))] <;> exact (z_X11_fresh_2 p0.toInt x7.toInt ((G.1 a 6).toInt) ((G.1 a 7).toInt) m0 t7 c10))) (v_X11_fresh_43_5 (F := F) a G G26 hR ((hF26.2.1 _ (xn1 (xne_k hk9999f hk9999 (by decide)) (xn1 (xne_k hk9999f hk9999a (by decide)) (xn1 (xne_k hk9999f hk9999b (by decide)) (xn1 (xne_k hk9999f hk9999c (by decide)) (xn1 (xne_k hk9999f hk9999d (by decide)) xn0)))))).trans (ld_c hG2))) (by rw [(e42 : Int32.toInt x42 = ((360 : Int) * p0.toInt))] <;> exact (v_X11_fresh_43_6 (F := F) G a p0 x7 G26 hmk m0 t7 c10 ((hF26.2.1 _ (xn1 (xne_k hk9999g hk9999 (by decide)) (xn1 (xne_k hk9999g hk9999a (by decide)) (xn1 (xne_k hk9999g hk9999b (by decide)) (xn1 (xne_k hk9999g hk9999c (by decide)) (xn1 (xne_k hk9999g hk9999d (by decide)) xn0)))))).trans (ld_c hG2))))) mv_X11_layStates km_X11_210 rfl rfl ⟨Nat.le_of_ble_eq_true rfl, Nat.le_of_ble_eq_true rfl⟩ (rc_13 hK hT ha) hK (fun _ => XP.blind) (fun U hU hW => XP.at hK hz hS hT hU hW) rfl hl.1 (Nat.le_of_ble_eq_true rfl) dX11_fresh_43 ⟨Nat.le_of_ble_eq_true rfl, Nat.le_of_ble_eq_true rfl⟩) hS ?_
      rintro G43 H locs ⟨hF43, oq43, oq43a⟩ hT hS
      have oq43 : LSt (G.2.1 (F a 10)) (G43.2.1 (F a 14)) (mw (G.2.1 (F a 3)) ((360 : Int) * p0.toInt)) 12 := by simp only [(e42 : Int32.toInt x42 = ((360 : Int) * p0.toInt)), (show G26.2.1 (F a 10) = G.2.1 (F a 10) from ((hF26.2.1 _ (xn1 (xne_k hk9999f hk9999 (by decide)) (xn1 (xne_k hk9999f hk9999a (by decide)) (xn1 (xne_k hk9999f hk9999b (by decide)) (xn1 (xne_k hk9999f hk9999c (by decide)) (xn1 (xne_k hk9999f hk9999d (by decide)) xn0)))))).trans (ld_c hG2))), (show G26.2.1 (F a 3) = G.2.1 (F a 3) from ((hF26.2.1 _ (xn1 (xne_k hk9999g hk9999 (by decide)) (xn1 (xne_k hk9999g hk9999a (by decide)) (xn1 (xne_k hk9999g hk9999b (by decide)) (xn1 (xne_k hk9999g hk9999c (by decide)) (xn1 (xne_k hk9999g hk9999d (by decide)) xn0)))))).trans (ld_c hG2)))] at oq43; exact oq43
      refine lv_iconst (v := 0) hx hb dX11_fresh_46 (by decide) ?_
      refine lv_istore_n (lv' := [(3, .int 0), (0, .ref a), (1, .int p0), (2, .int p1)]) hx hb dX11_fresh_47 rfl hl (by decide) rfl (fun ls hl => ?_)
      have z48 : (frA (G.2.1 (F a 10)) (mw (G.2.1 (F a 1)) 0) (mw (G.2.1 (F a 2)) 0) (mw (G.2.1 (F a 3)) (360 * p0.toInt)) p1.toInt 0) = 0 := frA_0 _ _ _ _ _
      refine lv_iconst (v := 0) hx hb dX11_fresh_48 (by decide) ?_
      refine lv_istore (lv' := [(4, .int 0), (3, .int 0), (0, .ref a), (1, .int p0), (2, .int p1)]) hx hb dX11_fresh_49 hl (by decide) rfl (fun ls hl => ?_)
      have L51 : ∀ (N51 : Nat) (l3_51 : Int32) (l4_51 : Int32) (H : Heap) (locs : List Loc) (ls : Array Slot), 0 ≤ l4_51.toInt ∧ l4_51.toInt ≤ 12 → l3_51.toInt = (frA (G.2.1 (F a 10)) (mw (G.2.1 (F a 1)) 0) (mw (G.2.1 (F a 2)) 0) (mw (G.2.1 (F a 3)) (360 * p0.toInt)) p1.toInt (l4_51.toInt)) → 0 ≤ l3_51.toInt ∧ l3_51.toInt ≤ 199 * l4_51.toInt → 100 - l4_51.toInt < ((N51 : Nat) : Int) → TW E K F G43 H → va_S (xA E) s.heap H locs → lv_has ls 8 [(0, .ref a), (2, .int p1), (3, .int l3_51), (4, .int l4_51)] → W p l e rm_X11_fresh s m args below meth c H locs 0 0 Q (F0 m 51 ls []) := by
        intro N51
        induction N51 with
        | zero =>
          intro l3_51 l4_51 H locs ls I51_0 I51_1 I51_2 hm51
          exact absurd hm51 (z_X11_fresh_3 l4_51.toInt I51_0)
        | succ N51 ih51 =>
          intro l3_51 l4_51 H locs ls I51_0 I51_1 I51_2 hm51 hT hS hl
          refine lv_iload hx hb dX11_fresh_51 (lv_at hl 3 rfl) ?_
          have z53 : l4_51.toInt = 12 → (frA (G.2.1 (F a 10)) (mw (G.2.1 (F a 1)) 0) (mw (G.2.1 (F a 2)) 0) (mw (G.2.1 (F a 3)) (360 * p0.toInt)) p1.toInt (l4_51.toInt)) = (frA (G.2.1 (F a 10)) (mw (G.2.1 (F a 1)) 0) (mw (G.2.1 (F a 2)) 0) (mw (G.2.1 (F a 3)) (360 * p0.toInt)) p1.toInt 12) := fun h9 => by rw [h9]
          refine lv_bipush (v := 12) hx hb dX11_fresh_53 (by decide) ?_
          refine xi_cge (tgt := 207) hx hb (rfl : Int32.toInt l4_51 = l4_51.toInt) ((by decide) : Int32.toInt 12 = (12 : Int)) dX11_fresh_55 (by decide) (fun c55 => ?_) (fun c55 => ?_)
          · refine lv_iload_n hx hb dX11_fresh_207 rfl (lv_at hl 2 rfl) ?_
            exact x_ri hx hb hr hlk hQ (Nat.le_of_ble_eq_true rfl) (Nat.le_of_ble_eq_true rfl) hS dX11_fresh_208 G43 ⟨_, rfl, (XFr.call (XFr.call (by rw [hG2]; exact XFr.dput XFr.rf (List.mem_of_getElem? (i := 0) rfl)) hF26 (xm1 1 rfl (xm1 2 rfl xm0)) (xm1 0 rfl (xm1 1 rfl (xm1 2 rfl (xm1 3 rfl (xm1 4 rfl xm0))))) xm0) hF43 xm0 (xm1 5 rfl xm0) xm0), (v_X11_fresh_208_7 (K := K) (F := F) a G2 G G26 G43 p0 x7 x17 p1 l4_51 l3_51 N51 ha oq26a oq26b oq43a m0 t7 c10 t17 c20 t26 z48 I51_0 I51_1 I51_2 hm51 z53 c55)⟩ hT
          · have z58 : (frA (G.2.1 (F a 10)) (mw (G.2.1 (F a 1)) 0) (mw (G.2.1 (F a 2)) 0) (mw (G.2.1 (F a 3)) (360 * p0.toInt)) p1.toInt (l4_51.toInt + 1)) = (frA (G.2.1 (F a 10)) (mw (G.2.1 (F a 1)) 0) (mw (G.2.1 (F a 2)) 0) (mw (G.2.1 (F a 3)) (360 * p0.toInt)) p1.toInt (l4_51.toInt)) + (frQ (G.2.1 (F a 10)) (mw (G.2.1 (F a 1)) 0) (mw (G.2.1 (F a 2)) 0) (mw (G.2.1 (F a 3)) (360 * p0.toInt)) p1.toInt (l4_51.toInt)) := frA_s (z_X11_fresh_4 l4_51.toInt I51_0)
            have z58a : ((aI (G.2.1 (F a 10)) (10 * l4_51.toInt + 0)) ≠ -1 ∧ (aI (G.2.1 (F a 10)) (10 * l4_51.toInt + 6)) = 1 → (frQ (G.2.1 (F a 10)) (mw (G.2.1 (F a 1)) 0) (mw (G.2.1 (F a 2)) 0) (mw (G.2.1 (F a 3)) (360 * p0.toInt)) p1.toInt (l4_51.toInt)) = (smS (frI (G.2.1 (F a 10)) (mw (G.2.1 (F a 1)) 0) (mw (G.2.1 (F a 2)) 0) (mw (G.2.1 (F a 3)) (360 * p0.toInt)) p1.toInt (l4_51.toInt)) (sF (aI (G.2.1 (F a 10)) (10 * l4_51.toInt + 0))) (sL (aI (G.2.1 (F a 10)) (10 * l4_51.toInt + 0)) + 1))) ∧ (¬ ((aI (G.2.1 (F a 10)) (10 * l4_51.toInt + 0)) ≠ -1 ∧ (aI (G.2.1 (F a 10)) (10 * l4_51.toInt + 6)) = 1) → (frQ (G.2.1 (F a 10)) (mw (G.2.1 (F a 1)) 0) (mw (G.2.1 (F a 2)) 0) (mw (G.2.1 (F a 3)) (360 * p0.toInt)) p1.toInt (l4_51.toInt)) = 0) := frQ_st _ _ _ _ _ _
            refine lv_aload_n hx hb dX11_fresh_58 rfl (lv_at hl 0 rfl) ?_
            refine lv_iload hx hb dX11_fresh_59 (lv_at hl 3 rfl) ?_
            refine x_clp (x_runV (b := a) (As := [.int l4_51]) (rest := []) S (c_X11_isRule l E K F G43 H a l4_51 ha) mv_X11_isRule km_X11_162 rfl rfl ⟨Nat.le_of_ble_eq_true rfl, Nat.le_of_ble_eq_true rfl⟩ (rc_13 hK hT ha) hK (fun _ => XPh.blind) (fun U hU hW => XPh.at hK hz hS hT hU hW) rfl hl.1 (Nat.le_of_ble_eq_true rfl) dX11_fresh_61 ⟨Nat.le_of_ble_eq_true rfl, Nat.le_of_ble_eq_true rfl⟩) hS ?_
            rintro _ _ locs ⟨x61, rfl, b61, t61⟩ hS
            have t61 : (x61.toInt = 1 ∧ 0 ≤ l4_51.toInt ∧ l4_51.toInt ≤ 11 ∧ (aI (G.2.1 (F a 10)) (10 * l4_51.toInt + 0)) ≠ -1) ∨ (x61.toInt = 0 ∧ (¬ (0 ≤ l4_51.toInt ∧ l4_51.toInt ≤ 11) ∨ (aI (G.2.1 (F a 10)) (10 * l4_51.toInt + 0)) = -1)) := by rw [(show G43.2.1 (F a 10) = G.2.1 (F a 10) from ((hF43.2.1 _ (xn1 (xne_k hk9999f hk9999e (by decide)) xn0)).trans ((hF26.2.1 _ (xn1 (xne_k hk9999f hk9999 (by decide)) (xn1 (xne_k hk9999f hk9999a (by decide)) (xn1 (xne_k hk9999f hk9999b (by decide)) (xn1 (xne_k hk9999f hk9999c (by decide)) (xn1 (xne_k hk9999f hk9999d (by decide)) xn0)))))).trans (ld_c hG2))))] at t61; exact t61
            refine xi_zeq (tgt := 201) hx hb (rfl : Int32.toInt x61 = x61.toInt) dX11_fresh_64 (by decide) (fun c64 => ?_) (fun c64 => ?_)
            · refine xi_iinc (n := 1) (lv' := fun z9 => [(4, .int z9), (0, .ref a), (2, .int p1), (3, .int l3_51)]) (k := 3) hx hb (rfl : Int32.toInt l4_51 = l4_51.toInt) (by decide) dX11_fresh_201 hl rfl (by decide) (fun _ => rfl) (fun x201 ls t201 hl => ?_)
              have e201 : x201.toInt = (l4_51.toInt + 1) := (z_X11_fresh_5 l4_51.toInt x201.toInt I51_0 t201)
              have hl : lv_has ls 8 [(4, .int x201), (0, .ref a), (2, .int p1), (3, .int l3_51)] := hl
              refine lv_goto (tgt := 51) hx hb dX11_fresh_204 (by decide) ?_
              exact ih51 l3_51 x201 _ _ _ (by rw [(e201 : Int32.toInt x201 = (l4_51.toInt + 1))] <;> exact (z_X11_fresh_6 l4_51.toInt I51_0 c55)) (by rw [(e201 : Int32.toInt x201 = (l4_51.toInt + 1))] <;> exact (z_X11_fresh_7 l3_51.toInt l4_51.toInt x61.toInt (aI (G.2.1 (F a 10)) (10 * l4_51.toInt + 0)) (aI (G.2.1 (F a 10)) (10 * l4_51.toInt + 6)) (frA (G.2.1 (F a 10)) (mw (G.2.1 (F a 1)) 0) (mw (G.2.1 (F a 2)) 0) (mw (G.2.1 (F a 3)) (360 * p0.toInt)) p1.toInt (l4_51.toInt + 1)) (frA (G.2.1 (F a 10)) (mw (G.2.1 (F a 1)) 0) (mw (G.2.1 (F a 2)) 0) (mw (G.2.1 (F a 3)) (360 * p0.toInt)) p1.toInt (l4_51.toInt)) (frQ (G.2.1 (F a 10)) (mw (G.2.1 (F a 1)) 0) (mw (G.2.1 (F a 2)) 0) (mw (G.2.1 (F a 3)) (360 * p0.toInt)) p1.toInt (l4_51.toInt)) I51_0 I51_1 c55 z58 (z58a).2 t61 c64)) (by rw [(e201 : Int32.toInt x201 = (l4_51.toInt + 1))] <;> exact (z_X11_fresh_8 l3_51.toInt l4_51.toInt I51_2)) (by rw [(e201 : Int32.toInt x201 = (l4_51.toInt + 1))] <;> exact (z_X11_fresh_9 l4_51.toInt N51 hm51)) hT hS (lv_sub hl [1, 2, 3, 0] rfl)
            · refine lv_aload_n hx hb dX11_fresh_67 rfl (lv_at hl 0 rfl) ?_
              refine lv_iload hx hb dX11_fresh_68 (lv_at hl 3 rfl) ?_
              refine lv_bipush (v := 6) hx hb dX11_fresh_70 (by decide) ?_
              refine x_clp (x_runV (b := a) (As := [.int l4_51, .int 6]) (rest := []) S (c_X11_of l E K F G43 H a l4_51 6 ha (z_X11_fresh_10 l4_51.toInt I51_0 c55) (by decide)) mv_X11_of km_X11_165 rfl rfl ⟨Nat.le_of_ble_eq_true rfl, Nat.le_of_ble_eq_true rfl⟩ (rc_13 hK hT ha) hK (fun _ => XPh.blind) (fun U hU hW => XPh.at hK hz hS hT hU hW) rfl hl.1 (Nat.le_of_ble_eq_true rfl) dX11_fresh_72 ⟨Nat.le_of_ble_eq_true rfl, Nat.le_of_ble_eq_true rfl⟩) hS ?_
              rintro _ _ locs ⟨x72, rfl, t72⟩ hS
              have t72 : x72.toInt = (aI (G.2.1 (F a 10)) (10 * l4_51.toInt + 6)) := by rw [(show G43.2.1 (F a 10) = G.2.1 (F a 10) from ((hF43.2.1 _ (xn1 (xne_k hk9999f hk9999e (by decide)) xn0)).trans ((hF26.2.1 _ (xn1 (xne_k hk9999f hk9999 (by decide)) (xn1 (xne_k hk9999f hk9999a (by decide)) (xn1 (xne_k hk9999f hk9999b (by decide)) (xn1 (xne_k hk9999f hk9999c (by decide)) (xn1 (xne_k hk9999f hk9999d (by decide)) xn0)))))).trans (ld_c hG2))))] at t72; exact t72
              refine lv_iconst (v := 1) hx hb dX11_fresh_75 (by decide) ?_
              refine xi_cne (tgt := 201) hx hb (t72 : Int32.toInt x72 = (aI (G.2.1 (F a 10)) (10 * l4_51.toInt + 6))) ((by decide) : Int32.toInt 1 = (1 : Int)) dX11_fresh_76 (by decide) (fun c76 => ?_) (fun c76 => ?_)
              · refine xi_iinc (n := 1) (lv' := fun z9 => [(4, .int z9), (0, .ref a), (2, .int p1), (3, .int l3_51)]) (k := 3) hx hb (rfl : Int32.toInt l4_51 = l4_51.toInt) (by decide) dX11_fresh_201 hl rfl (by decide) (fun _ => rfl) (fun x201 ls t201 hl => ?_)
                have e201 : x201.toInt = (l4_51.toInt + 1) := (z_X11_fresh_5 l4_51.toInt x201.toInt I51_0 t201)
                have hl : lv_has ls 8 [(4, .int x201), (0, .ref a), (2, .int p1), (3, .int l3_51)] := hl
                refine lv_goto (tgt := 51) hx hb dX11_fresh_204 (by decide) ?_
                exact ih51 l3_51 x201 _ _ _ (by rw [(e201 : Int32.toInt x201 = (l4_51.toInt + 1))] <;> exact (z_X11_fresh_6 l4_51.toInt I51_0 c55)) (by rw [(e201 : Int32.toInt x201 = (l4_51.toInt + 1))] <;> exact (z_X11_fresh_13 l3_51.toInt (aI (G.2.1 (F a 10)) (10 * l4_51.toInt + 0)) (aI (G.2.1 (F a 10)) (10 * l4_51.toInt + 6)) (frA (G.2.1 (F a 10)) (mw (G.2.1 (F a 1)) 0) (mw (G.2.1 (F a 2)) 0) (mw (G.2.1 (F a 3)) (360 * p0.toInt)) p1.toInt (l4_51.toInt + 1)) (frA (G.2.1 (F a 10)) (mw (G.2.1 (F a 1)) 0) (mw (G.2.1 (F a 2)) 0) (mw (G.2.1 (F a 3)) (360 * p0.toInt)) p1.toInt (l4_51.toInt)) (frQ (G.2.1 (F a 10)) (mw (G.2.1 (F a 1)) 0) (mw (G.2.1 (F a 2)) 0) (mw (G.2.1 (F a 3)) (360 * p0.toInt)) p1.toInt (l4_51.toInt)) I51_1 z58 (z58a).2 c76)) (by rw [(e201 : Int32.toInt x201 = (l4_51.toInt + 1))] <;> exact (z_X11_fresh_8 l3_51.toInt l4_51.toInt I51_2)) (by rw [(e201 : Int32.toInt x201 = (l4_51.toInt + 1))] <;> exact (z_X11_fresh_9 l4_51.toInt N51 hm51)) hT hS (lv_sub hl [1, 2, 3, 0] rfl)
              · have z79 : (-1 ≤ (aI (G.2.1 (F a 10)) (10 * l4_51.toInt + 0)) ∧ (aI (G.2.1 (F a 10)) (10 * l4_51.toInt + 0)) ≤ 5) ∧ (0 ≤ (aI (G.2.1 (F a 10)) (10 * l4_51.toInt + 1)) ∧ (aI (G.2.1 (F a 10)) (10 * l4_51.toInt + 1)) ≤ 2) ∧ (0 ≤ (aI (G.2.1 (F a 10)) (10 * l4_51.toInt + 2)) ∧ (aI (G.2.1 (F a 10)) (10 * l4_51.toInt + 2)) ≤ 2) ∧ (-1 ≤ (aI (G.2.1 (F a 10)) (10 * l4_51.toInt + 3)) ∧ (aI (G.2.1 (F a 10)) (10 * l4_51.toInt + 3)) ≤ 2) ∧ ((aI (G.2.1 (F a 10)) (10 * l4_51.toInt + 0)) = 1 ∨ (aI (G.2.1 (F a 10)) (10 * l4_51.toInt + 0)) = 3 ∨ (aI (G.2.1 (F a 10)) (10 * l4_51.toInt + 0)) = 4 → 0 ≤ (aI (G.2.1 (F a 10)) (10 * l4_51.toInt + 3))) := RV.row hR (z_X11_fresh_10 l4_51.toInt I51_0 c55)
                have z79a : (((aI (G.2.1 (F a 10)) (10 * l4_51.toInt + 0)) = 2 ∨ (aI (G.2.1 (F a 10)) (10 * l4_51.toInt + 0)) = 4 ∨ (aI (G.2.1 (F a 10)) (10 * l4_51.toInt + 0)) = 5) ∧ (sF (aI (G.2.1 (F a 10)) (10 * l4_51.toInt + 0))) = 0 ∧ (sL (aI (G.2.1 (F a 10)) (10 * l4_51.toInt + 0))) = 29) ∨ (¬ ((aI (G.2.1 (F a 10)) (10 * l4_51.toInt + 0)) = 2 ∨ (aI (G.2.1 (F a 10)) (10 * l4_51.toInt + 0)) = 4 ∨ (aI (G.2.1 (F a 10)) (10 * l4_51.toInt + 0)) = 5) ∧ (sF (aI (G.2.1 (F a 10)) (10 * l4_51.toInt + 0))) = -99 ∧ (sL (aI (G.2.1 (F a 10)) (10 * l4_51.toInt + 0))) = 99) := sFL _
                have z79b : (smS (frI (G.2.1 (F a 10)) (mw (G.2.1 (F a 1)) 0) (mw (G.2.1 (F a 2)) 0) (mw (G.2.1 (F a 3)) (360 * p0.toInt)) p1.toInt (l4_51.toInt)) (sF (aI (G.2.1 (F a 10)) (10 * l4_51.toInt + 0))) (sF (aI (G.2.1 (F a 10)) (10 * l4_51.toInt + 0)))) = 0 := smS_0 _ _
                refine lv_aload_n hx hb dX11_fresh_79 rfl (lv_at hl 0 rfl) ?_
                refine lv_iload hx hb dX11_fresh_80 (lv_at hl 3 rfl) ?_
                refine x_clp (x_runV (b := a) (As := [.int l4_51]) (rest := []) S (c_X11_firstSubject l E K F G43 H a l4_51 ha (z_X11_fresh_10 l4_51.toInt I51_0 c55)) mv_X11_firstSubject km_X11_179 rfl rfl ⟨Nat.le_of_ble_eq_true rfl, Nat.le_of_ble_eq_true rfl⟩ (rc_13 hK hT ha) hK (fun _ => XPh.blind) (fun U hU hW => XPh.at hK hz hS hT hU hW) rfl hl.1 (Nat.le_of_ble_eq_true rfl) dX11_fresh_82 ⟨Nat.le_of_ble_eq_true rfl, Nat.le_of_ble_eq_true rfl⟩) hS ?_
                rintro _ _ locs ⟨x82, rfl, t82⟩ hS
                have t82 : x82.toInt = (sF (aI (G.2.1 (F a 10)) (10 * l4_51.toInt + 0))) := by rw [(show G43.2.1 (F a 10) = G.2.1 (F a 10) from ((hF43.2.1 _ (xn1 (xne_k hk9999f hk9999e (by decide)) xn0)).trans ((hF26.2.1 _ (xn1 (xne_k hk9999f hk9999 (by decide)) (xn1 (xne_k hk9999f hk9999a (by decide)) (xn1 (xne_k hk9999f hk9999b (by decide)) (xn1 (xne_k hk9999f hk9999c (by decide)) (xn1 (xne_k hk9999f hk9999d (by decide)) xn0)))))).trans (ld_c hG2))))] at t82; exact t82
                refine lv_istore (lv' := [(5, .int x82), (0, .ref a), (2, .int p1), (3, .int l3_51), (4, .int l4_51)]) hx hb dX11_fresh_85 hl (by decide) rfl (fun ls hl => ?_)
                have L87 : ∀ (N87 : Nat) (l3_87 : Int32) (l5_87 : Int32) (H : Heap) (locs : List Loc) (ls : Array Slot), (sF (aI (G.2.1 (F a 10)) (10 * l4_51.toInt + 0))) ≤ l5_87.toInt ∧ l5_87.toInt ≤ (sL (aI (G.2.1 (F a 10)) (10 * l4_51.toInt + 0))) + 1 → l3_87.toInt = (frA (G.2.1 (F a 10)) (mw (G.2.1 (F a 1)) 0) (mw (G.2.1 (F a 2)) 0) (mw (G.2.1 (F a 3)) (360 * p0.toInt)) p1.toInt (l4_51.toInt)) + (smS (frI (G.2.1 (F a 10)) (mw (G.2.1 (F a 1)) 0) (mw (G.2.1 (F a 2)) 0) (mw (G.2.1 (F a 3)) (360 * p0.toInt)) p1.toInt (l4_51.toInt)) (sF (aI (G.2.1 (F a 10)) (10 * l4_51.toInt + 0))) (l5_87.toInt)) → 0 ≤ l3_87.toInt ∧ l3_87.toInt ≤ 199 * l4_51.toInt + (l5_87.toInt - (sF (aI (G.2.1 (F a 10)) (10 * l4_51.toInt + 0)))) → 2147483648 - l5_87.toInt < ((N87 : Nat) : Int) → TW E K F G43 H → va_S (xA E) s.heap H locs → lv_has ls 8 [(0, .ref a), (2, .int p1), (3, .int l3_87), (4, .int l4_51), (5, .int l5_87)] → W p l e rm_X11_fresh s m args below meth c H locs 0 0 Q (F0 m 87 ls []) := by
                  intro N87
                  induction N87 with
                  | zero =>
                    intro l3_87 l5_87 H locs ls I87_0 I87_1 I87_2 hm87
                    exact absurd hm87 (z_X11_fresh_18 l5_87.toInt (xr l5_87))
                  | succ N87 ih87 =>
                    intro l3_87 l5_87 H locs ls I87_0 I87_1 I87_2 hm87 hT hS hl
                    refine lv_iload hx hb dX11_fresh_87 (lv_at hl 4 rfl) ?_
                    have z89 : l5_87.toInt = (sL (aI (G.2.1 (F a 10)) (10 * l4_51.toInt + 0))) + 1 → (smS (frI (G.2.1 (F a 10)) (mw (G.2.1 (F a 1)) 0) (mw (G.2.1 (F a 2)) 0) (mw (G.2.1 (F a 3)) (360 * p0.toInt)) p1.toInt (l4_51.toInt)) (sF (aI (G.2.1 (F a 10)) (10 * l4_51.toInt + 0))) (l5_87.toInt)) = (smS (frI (G.2.1 (F a 10)) (mw (G.2.1 (F a 1)) 0) (mw (G.2.1 (F a 2)) 0) (mw (G.2.1 (F a 3)) (360 * p0.toInt)) p1.toInt (l4_51.toInt)) (sF (aI (G.2.1 (F a 10)) (10 * l4_51.toInt + 0))) (sL (aI (G.2.1 (F a 10)) (10 * l4_51.toInt + 0)) + 1)) := fun h9 => by rw [h9]
                    refine lv_aload_n hx hb dX11_fresh_89 rfl (lv_at hl 0 rfl) ?_
                    refine lv_iload hx hb dX11_fresh_90 (lv_at hl 3 rfl) ?_
                    refine x_clp (x_runV (b := a) (As := [.int l4_51]) (rest := [.int l5_87]) S (c_X11_lastSubject l E K F G43 H a l4_51 ha (z_X11_fresh_10 l4_51.toInt I51_0 c55)) mv_X11_lastSubject km_X11_183 rfl rfl ⟨Nat.le_of_ble_eq_true rfl, Nat.le_of_ble_eq_true rfl⟩ (rc_13 hK hT ha) hK (fun _ => XPh.blind) (fun U hU hW => XPh.at hK hz hS hT hU hW) rfl hl.1 (Nat.le_of_ble_eq_true rfl) dX11_fresh_92 ⟨Nat.le_of_ble_eq_true rfl, Nat.le_of_ble_eq_true rfl⟩) hS ?_
                    rintro _ _ locs ⟨x92, rfl, t92⟩ hS
                    have t92 : x92.toInt = (sL (aI (G.2.1 (F a 10)) (10 * l4_51.toInt + 0))) := by rw [(show G43.2.1 (F a 10) = G.2.1 (F a 10) from ((hF43.2.1 _ (xn1 (xne_k hk9999f hk9999e (by decide)) xn0)).trans ((hF26.2.1 _ (xn1 (xne_k hk9999f hk9999 (by decide)) (xn1 (xne_k hk9999f hk9999a (by decide)) (xn1 (xne_k hk9999f hk9999b (by decide)) (xn1 (xne_k hk9999f hk9999c (by decide)) (xn1 (xne_k hk9999f hk9999d (by decide)) xn0)))))).trans (ld_c hG2))))] at t92; exact t92
                    refine xi_cgt (tgt := 201) hx hb (rfl : Int32.toInt l5_87 = l5_87.toInt) (t92 : Int32.toInt x92 = (sL (aI (G.2.1 (F a 10)) (10 * l4_51.toInt + 0)))) dX11_fresh_95 (by decide) (fun c95 => ?_) (fun c95 => ?_)
                    · refine xi_iinc (n := 1) (lv' := fun z9 => [(4, .int z9), (0, .ref a), (2, .int p1), (3, .int l3_87), (5, .int l5_87)]) (k := 3) hx hb (rfl : Int32.toInt l4_51 = l4_51.toInt) (by decide) dX11_fresh_201 hl rfl (by decide) (fun _ => rfl) (fun x201 ls t201 hl => ?_)
                      have e201 : x201.toInt = (l4_51.toInt + 1) := (z_X11_fresh_5 l4_51.toInt x201.toInt I51_0 t201)
                      have hl : lv_has ls 8 [(4, .int x201), (0, .ref a), (2, .int p1), (3, .int l3_87), (5, .int l5_87)] := hl
                      refine lv_goto (tgt := 51) hx hb dX11_fresh_204 (by decide) ?_
                      exact ih51 l3_87 x201 _ _ _ (by rw [(e201 : Int32.toInt x201 = (l4_51.toInt + 1))] <;> exact (z_X11_fresh_6 l4_51.toInt I51_0 c55)) (by rw [(e201 : Int32.toInt x201 = (l4_51.toInt + 1))] <;> exact (z_X11_fresh_22 l3_87.toInt l4_51.toInt l5_87.toInt x61.toInt (aI (G.2.1 (F a 10)) (10 * l4_51.toInt + 0)) (aI (G.2.1 (F a 10)) (10 * l4_51.toInt + 6)) (frA (G.2.1 (F a 10)) (mw (G.2.1 (F a 1)) 0) (mw (G.2.1 (F a 2)) 0) (mw (G.2.1 (F a 3)) (360 * p0.toInt)) p1.toInt (l4_51.toInt + 1)) (frA (G.2.1 (F a 10)) (mw (G.2.1 (F a 1)) 0) (mw (G.2.1 (F a 2)) 0) (mw (G.2.1 (F a 3)) (360 * p0.toInt)) p1.toInt (l4_51.toInt)) (frQ (G.2.1 (F a 10)) (mw (G.2.1 (F a 1)) 0) (mw (G.2.1 (F a 2)) 0) (mw (G.2.1 (F a 3)) (360 * p0.toInt)) p1.toInt (l4_51.toInt)) (sF (aI (G.2.1 (F a 10)) (10 * l4_51.toInt + 0))) (sL (aI (G.2.1 (F a 10)) (10 * l4_51.toInt + 0))) (smS (frI (G.2.1 (F a 10)) (mw (G.2.1 (F a 1)) 0) (mw (G.2.1 (F a 2)) 0) (mw (G.2.1 (F a 3)) (360 * p0.toInt)) p1.toInt (l4_51.toInt)) (sF (aI (G.2.1 (F a 10)) (10 * l4_51.toInt + 0))) (l5_87.toInt)) (smS (frI (G.2.1 (F a 10)) (mw (G.2.1 (F a 1)) 0) (mw (G.2.1 (F a 2)) 0) (mw (G.2.1 (F a 3)) (360 * p0.toInt)) p1.toInt (l4_51.toInt)) (sF (aI (G.2.1 (F a 10)) (10 * l4_51.toInt + 0))) (sL (aI (G.2.1 (F a 10)) (10 * l4_51.toInt + 0)) + 1)) z58 (z58a).1 t61 c64 c76 I87_0 I87_1 z89 c95)) (by rw [(e201 : Int32.toInt x201 = (l4_51.toInt + 1))] <;> exact (z_X11_fresh_23 l3_87.toInt l4_51.toInt l5_87.toInt (aI (G.2.1 (F a 10)) (10 * l4_51.toInt + 0)) (sF (aI (G.2.1 (F a 10)) (10 * l4_51.toInt + 0))) (sL (aI (G.2.1 (F a 10)) (10 * l4_51.toInt + 0))) z79a I87_0 I87_2)) (by rw [(e201 : Int32.toInt x201 = (l4_51.toInt + 1))] <;> exact (z_X11_fresh_9 l4_51.toInt N51 hm51)) hT hS (lv_sub hl [1, 2, 3, 0] rfl)
                    · have z98 : (smS (frI (G.2.1 (F a 10)) (mw (G.2.1 (F a 1)) 0) (mw (G.2.1 (F a 2)) 0) (mw (G.2.1 (F a 3)) (360 * p0.toInt)) p1.toInt (l4_51.toInt)) (sF (aI (G.2.1 (F a 10)) (10 * l4_51.toInt + 0))) (l5_87.toInt + 1)) = (smS (frI (G.2.1 (F a 10)) (mw (G.2.1 (F a 1)) 0) (mw (G.2.1 (F a 2)) 0) (mw (G.2.1 (F a 3)) (360 * p0.toInt)) p1.toInt (l4_51.toInt)) (sF (aI (G.2.1 (F a 10)) (10 * l4_51.toInt + 0))) (l5_87.toInt)) + (frI (G.2.1 (F a 10)) (mw (G.2.1 (F a 1)) 0) (mw (G.2.1 (F a 2)) 0) (mw (G.2.1 (F a 3)) (360 * p0.toInt)) p1.toInt (l4_51.toInt) (l5_87.toInt)) := smS_s (z_X11_fresh_25 l5_87.toInt (sF (aI (G.2.1 (F a 10)) (10 * l4_51.toInt + 0))) (sL (aI (G.2.1 (F a 10)) (10 * l4_51.toInt + 0))) I87_0)
                      have z98a : (p1.toInt = 0 → ((stt (mw (G.2.1 (F a 1)) 0) (aI (G.2.1 (F a 10)) (10 * l4_51.toInt + 0)) (aI (G.2.1 (F a 10)) (10 * l4_51.toInt + 1)) (aI (G.2.1 (F a 10)) (10 * l4_51.toInt + 2)) (aI (G.2.1 (F a 10)) (10 * l4_51.toInt + 3)) (l5_87.toInt)) ≠ (stt (mw (G.2.1 (F a 2)) 0) (aI (G.2.1 (F a 10)) (10 * l4_51.toInt + 0)) (aI (G.2.1 (F a 10)) (10 * l4_51.toInt + 1)) (aI (G.2.1 (F a 10)) (10 * l4_51.toInt + 2)) (aI (G.2.1 (F a 10)) (10 * l4_51.toInt + 3)) (l5_87.toInt)) ∧ (stt (mw (G.2.1 (F a 1)) 0) (aI (G.2.1 (F a 10)) (10 * l4_51.toInt + 0)) (aI (G.2.1 (F a 10)) (10 * l4_51.toInt + 1)) (aI (G.2.1 (F a 10)) (10 * l4_51.toInt + 2)) (aI (G.2.1 (F a 10)) (10 * l4_51.toInt + 3)) (l5_87.toInt)) ≠ (stt (mw (G.2.1 (F a 3)) (360 * p0.toInt)) (aI (G.2.1 (F a 10)) (10 * l4_51.toInt + 0)) (aI (G.2.1 (F a 10)) (10 * l4_51.toInt + 1)) (aI (G.2.1 (F a 10)) (10 * l4_51.toInt + 2)) (aI (G.2.1 (F a 10)) (10 * l4_51.toInt + 3)) (l5_87.toInt)) → (frI (G.2.1 (F a 10)) (mw (G.2.1 (F a 1)) 0) (mw (G.2.1 (F a 2)) 0) (mw (G.2.1 (F a 3)) (360 * p0.toInt)) p1.toInt (l4_51.toInt) (l5_87.toInt)) = 1) ∧ (¬ ((stt (mw (G.2.1 (F a 1)) 0) (aI (G.2.1 (F a 10)) (10 * l4_51.toInt + 0)) (aI (G.2.1 (F a 10)) (10 * l4_51.toInt + 1)) (aI (G.2.1 (F a 10)) (10 * l4_51.toInt + 2)) (aI (G.2.1 (F a 10)) (10 * l4_51.toInt + 3)) (l5_87.toInt)) ≠ (stt (mw (G.2.1 (F a 2)) 0) (aI (G.2.1 (F a 10)) (10 * l4_51.toInt + 0)) (aI (G.2.1 (F a 10)) (10 * l4_51.toInt + 1)) (aI (G.2.1 (F a 10)) (10 * l4_51.toInt + 2)) (aI (G.2.1 (F a 10)) (10 * l4_51.toInt + 3)) (l5_87.toInt)) ∧ (stt (mw (G.2.1 (F a 1)) 0) (aI (G.2.1 (F a 10)) (10 * l4_51.toInt + 0)) (aI (G.2.1 (F a 10)) (10 * l4_51.toInt + 1)) (aI (G.2.1 (F a 10)) (10 * l4_51.toInt + 2)) (aI (G.2.1 (F a 10)) (10 * l4_51.toInt + 3)) (l5_87.toInt)) ≠ (stt (mw (G.2.1 (F a 3)) (360 * p0.toInt)) (aI (G.2.1 (F a 10)) (10 * l4_51.toInt + 0)) (aI (G.2.1 (F a 10)) (10 * l4_51.toInt + 1)) (aI (G.2.1 (F a 10)) (10 * l4_51.toInt + 2)) (aI (G.2.1 (F a 10)) (10 * l4_51.toInt + 3)) (l5_87.toInt))) → (frI (G.2.1 (F a 10)) (mw (G.2.1 (F a 1)) 0) (mw (G.2.1 (F a 2)) 0) (mw (G.2.1 (F a 3)) (360 * p0.toInt)) p1.toInt (l4_51.toInt) (l5_87.toInt)) = 0)) ∧ (p1.toInt ≠ 0 → ((stt (mw (G.2.1 (F a 1)) 0) (aI (G.2.1 (F a 10)) (10 * l4_51.toInt + 0)) (aI (G.2.1 (F a 10)) (10 * l4_51.toInt + 1)) (aI (G.2.1 (F a 10)) (10 * l4_51.toInt + 2)) (aI (G.2.1 (F a 10)) (10 * l4_51.toInt + 3)) (l5_87.toInt)) = (stt (mw (G.2.1 (F a 2)) 0) (aI (G.2.1 (F a 10)) (10 * l4_51.toInt + 0)) (aI (G.2.1 (F a 10)) (10 * l4_51.toInt + 1)) (aI (G.2.1 (F a 10)) (10 * l4_51.toInt + 2)) (aI (G.2.1 (F a 10)) (10 * l4_51.toInt + 3)) (l5_87.toInt)) ∧ (stt (mw (G.2.1 (F a 3)) (360 * p0.toInt)) (aI (G.2.1 (F a 10)) (10 * l4_51.toInt + 0)) (aI (G.2.1 (F a 10)) (10 * l4_51.toInt + 1)) (aI (G.2.1 (F a 10)) (10 * l4_51.toInt + 2)) (aI (G.2.1 (F a 10)) (10 * l4_51.toInt + 3)) (l5_87.toInt)) ≠ (stt (mw (G.2.1 (F a 2)) 0) (aI (G.2.1 (F a 10)) (10 * l4_51.toInt + 0)) (aI (G.2.1 (F a 10)) (10 * l4_51.toInt + 1)) (aI (G.2.1 (F a 10)) (10 * l4_51.toInt + 2)) (aI (G.2.1 (F a 10)) (10 * l4_51.toInt + 3)) (l5_87.toInt)) → (frI (G.2.1 (F a 10)) (mw (G.2.1 (F a 1)) 0) (mw (G.2.1 (F a 2)) 0) (mw (G.2.1 (F a 3)) (360 * p0.toInt)) p1.toInt (l4_51.toInt) (l5_87.toInt)) = 1) ∧ (¬ ((stt (mw (G.2.1 (F a 1)) 0) (aI (G.2.1 (F a 10)) (10 * l4_51.toInt + 0)) (aI (G.2.1 (F a 10)) (10 * l4_51.toInt + 1)) (aI (G.2.1 (F a 10)) (10 * l4_51.toInt + 2)) (aI (G.2.1 (F a 10)) (10 * l4_51.toInt + 3)) (l5_87.toInt)) = (stt (mw (G.2.1 (F a 2)) 0) (aI (G.2.1 (F a 10)) (10 * l4_51.toInt + 0)) (aI (G.2.1 (F a 10)) (10 * l4_51.toInt + 1)) (aI (G.2.1 (F a 10)) (10 * l4_51.toInt + 2)) (aI (G.2.1 (F a 10)) (10 * l4_51.toInt + 3)) (l5_87.toInt)) ∧ (stt (mw (G.2.1 (F a 3)) (360 * p0.toInt)) (aI (G.2.1 (F a 10)) (10 * l4_51.toInt + 0)) (aI (G.2.1 (F a 10)) (10 * l4_51.toInt + 1)) (aI (G.2.1 (F a 10)) (10 * l4_51.toInt + 2)) (aI (G.2.1 (F a 10)) (10 * l4_51.toInt + 3)) (l5_87.toInt)) ≠ (stt (mw (G.2.1 (F a 2)) 0) (aI (G.2.1 (F a 10)) (10 * l4_51.toInt + 0)) (aI (G.2.1 (F a 10)) (10 * l4_51.toInt + 1)) (aI (G.2.1 (F a 10)) (10 * l4_51.toInt + 2)) (aI (G.2.1 (F a 10)) (10 * l4_51.toInt + 3)) (l5_87.toInt))) → (frI (G.2.1 (F a 10)) (mw (G.2.1 (F a 1)) 0) (mw (G.2.1 (F a 2)) 0) (mw (G.2.1 (F a 3)) (360 * p0.toInt)) p1.toInt (l4_51.toInt) (l5_87.toInt)) = 0)) := frI_st _ _ _ _ _ _ _
                      have z98b : (aI (G26.2.1 (F a 11)) (199 * l4_51.toInt + l5_87.toInt + 99)) = (stt (mw (G.2.1 (F a 1)) 0) (aI (G.2.1 (F a 10)) (10 * l4_51.toInt + 0)) (aI (G.2.1 (F a 10)) (10 * l4_51.toInt + 1)) (aI (G.2.1 (F a 10)) (10 * l4_51.toInt + 2)) (aI (G.2.1 (F a 10)) (10 * l4_51.toInt + 3)) (l5_87.toInt)) := (oq26a (z_X11_fresh_26 p0.toInt x7.toInt ((G.1 a 6).toInt) ((G.1 a 7).toInt) t7 c10)).1 _ _ (z_X11_fresh_4 l4_51.toInt I51_0) (z_X11_fresh_28 l4_51.toInt c55) (z_X11_fresh_29 l4_51.toInt x61.toInt (aI (G.2.1 (F a 10)) (10 * l4_51.toInt + 0)) t61 c64) (sbj_FL.mpr (z_X11_fresh_30 l5_87.toInt (sF (aI (G.2.1 (F a 10)) (10 * l4_51.toInt + 0))) (sL (aI (G.2.1 (F a 10)) (10 * l4_51.toInt + 0))) I87_0 c95))
                      have z98c : (aI (G26.2.1 (F a 13)) (199 * l4_51.toInt + l5_87.toInt + 99)) = (stt (mw (G.2.1 (F a 2)) 0) (aI (G.2.1 (F a 10)) (10 * l4_51.toInt + 0)) (aI (G.2.1 (F a 10)) (10 * l4_51.toInt + 1)) (aI (G.2.1 (F a 10)) (10 * l4_51.toInt + 2)) (aI (G.2.1 (F a 10)) (10 * l4_51.toInt + 3)) (l5_87.toInt)) := (oq26a (z_X11_fresh_26 p0.toInt x7.toInt ((G.1 a 6).toInt) ((G.1 a 7).toInt) t7 c10)).2 _ _ (z_X11_fresh_4 l4_51.toInt I51_0) (z_X11_fresh_28 l4_51.toInt c55) (z_X11_fresh_29 l4_51.toInt x61.toInt (aI (G.2.1 (F a 10)) (10 * l4_51.toInt + 0)) t61 c64) (sbj_FL.mpr (z_X11_fresh_30 l5_87.toInt (sF (aI (G.2.1 (F a 10)) (10 * l4_51.toInt + 0))) (sL (aI (G.2.1 (F a 10)) (10 * l4_51.toInt + 0))) I87_0 c95))
                      have z98d : (aI (G43.2.1 (F a 14)) (199 * l4_51.toInt + l5_87.toInt + 99)) = (stt (mw (G.2.1 (F a 3)) (360 * p0.toInt)) (aI (G.2.1 (F a 10)) (10 * l4_51.toInt + 0)) (aI (G.2.1 (F a 10)) (10 * l4_51.toInt + 1)) (aI (G.2.1 (F a 10)) (10 * l4_51.toInt + 2)) (aI (G.2.1 (F a 10)) (10 * l4_51.toInt + 3)) (l5_87.toInt)) := oq43 _ _ (z_X11_fresh_4 l4_51.toInt I51_0) (z_X11_fresh_28 l4_51.toInt c55) (z_X11_fresh_29 l4_51.toInt x61.toInt (aI (G.2.1 (F a 10)) (10 * l4_51.toInt + 0)) t61 c64) (sbj_FL.mpr (z_X11_fresh_30 l5_87.toInt (sF (aI (G.2.1 (F a 10)) (10 * l4_51.toInt + 0))) (sL (aI (G.2.1 (F a 10)) (10 * l4_51.toInt + 0))) I87_0 c95))
                      refine lv_iload hx hb dX11_fresh_98 (lv_at hl 3 rfl) ?_
                      refine lv_iload hx hb dX11_fresh_100 (lv_at hl 4 rfl) ?_
                      refine x_clp (x_runS (As := [.int l4_51, .int l5_87]) (rest := []) S (c_X11_placeOf l E K F G43 H l4_51 l5_87 (z_X11_fresh_40 l4_51.toInt l5_87.toInt (aI (G.2.1 (F a 10)) (10 * l4_51.toInt + 0)) (sF (aI (G.2.1 (F a 10)) (10 * l4_51.toInt + 0))) (sL (aI (G.2.1 (F a 10)) (10 * l4_51.toInt + 0))) I51_0 c55 z79a I87_0 c95)) ms_X11_placeOf km_X11_186 rfl rfl ⟨Nat.le_of_ble_eq_true rfl, Nat.le_of_ble_eq_true rfl⟩ hK (fun _ => XPh.blind) (fun U hU hW => XPh.at hK hz hS hT hU hW) rfl hl.1 (Nat.le_of_ble_eq_true rfl) dX11_fresh_102 ⟨Nat.le_of_ble_eq_true rfl, Nat.le_of_ble_eq_true rfl⟩) hS ?_
                      rintro _ _ locs ⟨x102, rfl, t102⟩ hS
                      have t102 : x102.toInt = 199 * l4_51.toInt + l5_87.toInt + 99 := t102
                      refine lv_istore (lv' := [(6, .int x102), (0, .ref a), (2, .int p1), (3, .int l3_87), (4, .int l4_51), (5, .int l5_87)]) hx hb dX11_fresh_105 hl (by decide) rfl (fun ls hl => ?_)
                      refine lv_aload_n hx hb dX11_fresh_107 rfl (lv_at hl 1 rfl) ?_
                      refine gX11_11 S hK hT ha kf_X11_36 dX11_fresh_108 (fun _ _ => ?_)
                      refine lv_iload hx hb dX11_fresh_111 (lv_at hl 0 rfl) ?_
                      refine al_0 S hK hT hk9999c ar_38 (by decide) (by rw [(t102 : Int32.toInt x102 = 199 * l4_51.toInt + l5_87.toInt + 99)]; exact (z_X11_fresh_41 l3_51.toInt l4_51.toInt l5_87.toInt (aI (G.2.1 (F a 10)) (10 * l4_51.toInt + 0)) (sF (aI (G.2.1 (F a 10)) (10 * l4_51.toInt + 0))) (sL (aI (G.2.1 (F a 10)) (10 * l4_51.toInt + 0))) I51_2 c55 z79a I87_0 c95)) dX11_fresh_113 (fun x113 hv113 o113 => ?_)
                      have hv113 : x113.toInt = (aI (G26.2.1 (F a 11)) (199 * l4_51.toInt + l5_87.toInt + 99)) := hv113.trans (by rw [(t102 : Int32.toInt x102 = 199 * l4_51.toInt + l5_87.toInt + 99), ((hF43.2.1 _ (xn1 (xne_j hj9999c hj9999e (by first | decide | omega)) xn0)) : G43.2.1 (F a 11) = G26.2.1 (F a 11))])
                      refine lv_aload_n hx hb dX11_fresh_114 rfl (lv_at hl 1 rfl) ?_
                      refine gX11_13 S hK hT ha kf_X11_42 dX11_fresh_115 (fun _ _ => ?_)
                      refine lv_iload hx hb dX11_fresh_118 (lv_at hl 0 rfl) ?_
                      refine al_0 S hK hT hk9999d ar_38 (by decide) (by rw [(t102 : Int32.toInt x102 = 199 * l4_51.toInt + l5_87.toInt + 99)]; exact (z_X11_fresh_41 l3_51.toInt l4_51.toInt l5_87.toInt (aI (G.2.1 (F a 10)) (10 * l4_51.toInt + 0)) (sF (aI (G.2.1 (F a 10)) (10 * l4_51.toInt + 0))) (sL (aI (G.2.1 (F a 10)) (10 * l4_51.toInt + 0))) I51_2 c55 z79a I87_0 c95)) dX11_fresh_120 (fun x120 hv120 o120 => ?_)
                      have hv120 : x120.toInt = (aI (G26.2.1 (F a 13)) (199 * l4_51.toInt + l5_87.toInt + 99)) := hv120.trans (by rw [(t102 : Int32.toInt x102 = 199 * l4_51.toInt + l5_87.toInt + 99), ((hF43.2.1 _ (xn1 (xne_j hj9999d hj9999e (by first | decide | omega)) xn0)) : G43.2.1 (F a 13) = G26.2.1 (F a 13))])
                      refine xi_ceq (tgt := 128) hx hb (hv113 : Int32.toInt x113 = (aI (G26.2.1 (F a 11)) (199 * l4_51.toInt + l5_87.toInt + 99))) (hv120 : Int32.toInt x120 = (aI (G26.2.1 (F a 13)) (199 * l4_51.toInt + l5_87.toInt + 99))) dX11_fresh_121 (by decide) (fun c121 => ?_) (fun c121 => ?_)
                      · refine lv_iconst (v := 0) hx hb dX11_fresh_128 (by decide) ?_
                        refine lv_istore (lv' := [(7, .int 0), (6, .int x102), (0, .ref a), (2, .int p1), (3, .int l3_87), (4, .int l4_51), (5, .int l5_87)]) hx hb dX11_fresh_129 hl (by decide) rfl (fun ls hl => ?_)
                        refine lv_iload_n hx hb dX11_fresh_131 rfl (lv_at hl 4 rfl) ?_
                        refine lv_iload_n hx hb dX11_fresh_132 rfl (lv_at hl 3 rfl) ?_
                        refine xi_zne (tgt := 166) hx hb (rfl : Int32.toInt p1 = p1.toInt) dX11_fresh_133 (by decide) (fun c133 => ?_) (fun c133 => ?_)
                        · refine lv_iload hx hb dX11_fresh_166 (lv_at hl 0 rfl) ?_
                          refine xi_zne (tgt := 192) hx hb ((by decide) : Int32.toInt 0 = (0 : Int)) dX11_fresh_168 (by decide) (fun c => absurd c (show ¬ ((0 : Int) ≠ 0) by decide)) (fun _ => ?_)
                          refine lv_aload_n hx hb dX11_fresh_171 rfl (lv_at hl 2 rfl) ?_
                          refine gX11_14 S hK hT ha kf_X11_45 dX11_fresh_172 (fun _ _ => ?_)
                          refine lv_iload hx hb dX11_fresh_175 (lv_at hl 1 rfl) ?_
                          refine al_0 S hK hT hk9999e ar_38 (by decide) (by rw [(t102 : Int32.toInt x102 = 199 * l4_51.toInt + l5_87.toInt + 99)]; exact (z_X11_fresh_41 l3_51.toInt l4_51.toInt l5_87.toInt (aI (G.2.1 (F a 10)) (10 * l4_51.toInt + 0)) (sF (aI (G.2.1 (F a 10)) (10 * l4_51.toInt + 0))) (sL (aI (G.2.1 (F a 10)) (10 * l4_51.toInt + 0))) I51_2 c55 z79a I87_0 c95)) dX11_fresh_177 (fun x177 hv177 o177 => ?_)
                          have hv177 : x177.toInt = (aI (G43.2.1 (F a 14)) (199 * l4_51.toInt + l5_87.toInt + 99)) := hv177.trans (by rw [(t102 : Int32.toInt x102 = 199 * l4_51.toInt + l5_87.toInt + 99)])
                          refine lv_aload_n hx hb dX11_fresh_178 rfl (lv_at hl 2 rfl) ?_
                          refine gX11_13 S hK hT ha kf_X11_42 dX11_fresh_179 (fun _ _ => ?_)
                          refine lv_iload hx hb dX11_fresh_182 (lv_at hl 1 rfl) ?_
                          refine al_0 S hK hT hk9999d ar_38 (by decide) (by rw [(t102 : Int32.toInt x102 = 199 * l4_51.toInt + l5_87.toInt + 99)]; exact (z_X11_fresh_41 l3_51.toInt l4_51.toInt l5_87.toInt (aI (G.2.1 (F a 10)) (10 * l4_51.toInt + 0)) (sF (aI (G.2.1 (F a 10)) (10 * l4_51.toInt + 0))) (sL (aI (G.2.1 (F a 10)) (10 * l4_51.toInt + 0))) I51_2 c55 z79a I87_0 c95)) dX11_fresh_184 (fun x184 hv184 o184 => ?_)
                          have hv184 : x184.toInt = (aI (G26.2.1 (F a 13)) (199 * l4_51.toInt + l5_87.toInt + 99)) := hv184.trans (by rw [(t102 : Int32.toInt x102 = 199 * l4_51.toInt + l5_87.toInt + 99), ((hF43.2.1 _ (xn1 (xne_j hj9999d hj9999e (by first | decide | omega)) xn0)) : G43.2.1 (F a 13) = G26.2.1 (F a 13))])
                          refine xi_ceq (tgt := 192) hx hb (hv177 : Int32.toInt x177 = (aI (G43.2.1 (F a 14)) (199 * l4_51.toInt + l5_87.toInt + 99))) (hv184 : Int32.toInt x184 = (aI (G26.2.1 (F a 13)) (199 * l4_51.toInt + l5_87.toInt + 99))) dX11_fresh_185 (by decide) (fun c185 => ?_) (fun c185 => ?_)
                          · refine lv_iconst (v := 0) hx hb dX11_fresh_192 (by decide) ?_
                            refine xi_iadd hx hb (rfl : Int32.toInt l3_87 = l3_87.toInt) ((by decide) : Int32.toInt 0 = (0 : Int)) dX11_fresh_193 (fun x193 t193 => ?_)
                            refine lv_istore_n (lv' := [(3, .int x193), (7, .int 0), (6, .int x102), (0, .ref a), (2, .int p1), (4, .int l4_51), (5, .int l5_87)]) hx hb dX11_fresh_194 rfl hl (by decide) rfl (fun ls hl => ?_)
                            refine xi_iinc (n := 1) (lv' := fun z9 => [(5, .int z9), (3, .int x193), (7, .int 0), (6, .int x102), (0, .ref a), (2, .int p1), (4, .int l4_51)]) (k := 6) hx hb (rfl : Int32.toInt l5_87 = l5_87.toInt) (by decide) dX11_fresh_195 hl rfl (by decide) (fun _ => rfl) (fun x195 ls t195 hl => ?_)
                            have e195 : x195.toInt = (l5_87.toInt + 1) := (z_X11_fresh_45 l5_87.toInt x195.toInt (aI (G.2.1 (F a 10)) (10 * l4_51.toInt + 0)) (sF (aI (G.2.1 (F a 10)) (10 * l4_51.toInt + 0))) (sL (aI (G.2.1 (F a 10)) (10 * l4_51.toInt + 0))) z79a c95 t195 (xr l5_87))
                            have hl : lv_has ls 8 [(5, .int x195), (3, .int x193), (7, .int 0), (6, .int x102), (0, .ref a), (2, .int p1), (4, .int l4_51)] := hl
                            refine lv_goto (tgt := 87) hx hb dX11_fresh_198 (by decide) ?_
                            exact ih87 x193 x195 _ _ _ (by rw [(e195 : Int32.toInt x195 = (l5_87.toInt + 1))] <;> exact (z_X11_fresh_46 l5_87.toInt (sF (aI (G.2.1 (F a 10)) (10 * l4_51.toInt + 0))) (sL (aI (G.2.1 (F a 10)) (10 * l4_51.toInt + 0))) I87_0 c95)) (by rw [(e195 : Int32.toInt x195 = (l5_87.toInt + 1))] <;> exact (z_X11_fresh_47 l3_87.toInt p1.toInt x193.toInt (aI (G26.2.1 (F a 13)) (199 * l4_51.toInt + l5_87.toInt + 99)) (aI (G43.2.1 (F a 14)) (199 * l4_51.toInt + l5_87.toInt + 99)) (frA (G.2.1 (F a 10)) (mw (G.2.1 (F a 1)) 0) (mw (G.2.1 (F a 2)) 0) (mw (G.2.1 (F a 3)) (360 * p0.toInt)) p1.toInt (l4_51.toInt)) (frI (G.2.1 (F a 10)) (mw (G.2.1 (F a 1)) 0) (mw (G.2.1 (F a 2)) 0) (mw (G.2.1 (F a 3)) (360 * p0.toInt)) p1.toInt (l4_51.toInt) (l5_87.toInt)) (smS (frI (G.2.1 (F a 10)) (mw (G.2.1 (F a 1)) 0) (mw (G.2.1 (F a 2)) 0) (mw (G.2.1 (F a 3)) (360 * p0.toInt)) p1.toInt (l4_51.toInt)) (sF (aI (G.2.1 (F a 10)) (10 * l4_51.toInt + 0))) (l5_87.toInt + 1)) (smS (frI (G.2.1 (F a 10)) (mw (G.2.1 (F a 1)) 0) (mw (G.2.1 (F a 2)) 0) (mw (G.2.1 (F a 3)) (360 * p0.toInt)) p1.toInt (l4_51.toInt)) (sF (aI (G.2.1 (F a 10)) (10 * l4_51.toInt + 0))) (l5_87.toInt)) (stt (mw (G.2.1 (F a 1)) 0) (aI (G.2.1 (F a 10)) (10 * l4_51.toInt + 0)) (aI (G.2.1 (F a 10)) (10 * l4_51.toInt + 1)) (aI (G.2.1 (F a 10)) (10 * l4_51.toInt + 2)) (aI (G.2.1 (F a 10)) (10 * l4_51.toInt + 3)) (l5_87.toInt)) (stt (mw (G.2.1 (F a 2)) 0) (aI (G.2.1 (F a 10)) (10 * l4_51.toInt + 0)) (aI (G.2.1 (F a 10)) (10 * l4_51.toInt + 1)) (aI (G.2.1 (F a 10)) (10 * l4_51.toInt + 2)) (aI (G.2.1 (F a 10)) (10 * l4_51.toInt + 3)) (l5_87.toInt)) (stt (mw (G.2.1 (F a 3)) (360 * p0.toInt)) (aI (G.2.1 (F a 10)) (10 * l4_51.toInt + 0)) (aI (G.2.1 (F a 10)) (10 * l4_51.toInt + 1)) (aI (G.2.1 (F a 10)) (10 * l4_51.toInt + 2)) (aI (G.2.1 (F a 10)) (10 * l4_51.toInt + 3)) (l5_87.toInt)) I87_1 z98 (z98a).2 z98c z98d c133 c185 t193 (xr l3_87))) (by rw [(e195 : Int32.toInt x195 = (l5_87.toInt + 1))] <;> exact (z_X11_fresh_48 l3_87.toInt l4_51.toInt l5_87.toInt x193.toInt (sF (aI (G.2.1 (F a 10)) (10 * l4_51.toInt + 0))) I87_2 t193 (xr l3_87))) (by rw [(e195 : Int32.toInt x195 = (l5_87.toInt + 1))] <;> exact (z_X11_fresh_49 l5_87.toInt N87 hm87)) hT hS (lv_sub hl [4, 5, 1, 6, 0] rfl)
                          · refine lv_iconst (v := 1) hx hb dX11_fresh_188 (by decide) ?_
                            refine lv_goto (tgt := 193) hx hb dX11_fresh_189 (by decide) ?_
                            refine xi_iadd hx hb (rfl : Int32.toInt l3_87 = l3_87.toInt) ((by decide) : Int32.toInt 1 = (1 : Int)) dX11_fresh_193 (fun x193 t193 => ?_)
                            refine lv_istore_n (lv' := [(3, .int x193), (7, .int 0), (6, .int x102), (0, .ref a), (2, .int p1), (4, .int l4_51), (5, .int l5_87)]) hx hb dX11_fresh_194 rfl hl (by decide) rfl (fun ls hl => ?_)
                            refine xi_iinc (n := 1) (lv' := fun z9 => [(5, .int z9), (3, .int x193), (7, .int 0), (6, .int x102), (0, .ref a), (2, .int p1), (4, .int l4_51)]) (k := 6) hx hb (rfl : Int32.toInt l5_87 = l5_87.toInt) (by decide) dX11_fresh_195 hl rfl (by decide) (fun _ => rfl) (fun x195 ls t195 hl => ?_)
                            have e195 : x195.toInt = (l5_87.toInt + 1) := (z_X11_fresh_45 l5_87.toInt x195.toInt (aI (G.2.1 (F a 10)) (10 * l4_51.toInt + 0)) (sF (aI (G.2.1 (F a 10)) (10 * l4_51.toInt + 0))) (sL (aI (G.2.1 (F a 10)) (10 * l4_51.toInt + 0))) z79a c95 t195 (xr l5_87))
                            have hl : lv_has ls 8 [(5, .int x195), (3, .int x193), (7, .int 0), (6, .int x102), (0, .ref a), (2, .int p1), (4, .int l4_51)] := hl
                            refine lv_goto (tgt := 87) hx hb dX11_fresh_198 (by decide) ?_
                            exact ih87 x193 x195 _ _ _ (by rw [(e195 : Int32.toInt x195 = (l5_87.toInt + 1))] <;> exact (z_X11_fresh_46 l5_87.toInt (sF (aI (G.2.1 (F a 10)) (10 * l4_51.toInt + 0))) (sL (aI (G.2.1 (F a 10)) (10 * l4_51.toInt + 0))) I87_0 c95)) (by rw [(e195 : Int32.toInt x195 = (l5_87.toInt + 1))] <;> exact (z_X11_fresh_52 l3_87.toInt l4_51.toInt l5_87.toInt p1.toInt x193.toInt (aI (G.2.1 (F a 10)) (10 * l4_51.toInt + 0)) (aI (G26.2.1 (F a 11)) (199 * l4_51.toInt + l5_87.toInt + 99)) (aI (G26.2.1 (F a 13)) (199 * l4_51.toInt + l5_87.toInt + 99)) (aI (G43.2.1 (F a 14)) (199 * l4_51.toInt + l5_87.toInt + 99)) (frA (G.2.1 (F a 10)) (mw (G.2.1 (F a 1)) 0) (mw (G.2.1 (F a 2)) 0) (mw (G.2.1 (F a 3)) (360 * p0.toInt)) p1.toInt (l4_51.toInt)) (frI (G.2.1 (F a 10)) (mw (G.2.1 (F a 1)) 0) (mw (G.2.1 (F a 2)) 0) (mw (G.2.1 (F a 3)) (360 * p0.toInt)) p1.toInt (l4_51.toInt) (l5_87.toInt)) (sF (aI (G.2.1 (F a 10)) (10 * l4_51.toInt + 0))) (sL (aI (G.2.1 (F a 10)) (10 * l4_51.toInt + 0))) (smS (frI (G.2.1 (F a 10)) (mw (G.2.1 (F a 1)) 0) (mw (G.2.1 (F a 2)) 0) (mw (G.2.1 (F a 3)) (360 * p0.toInt)) p1.toInt (l4_51.toInt)) (sF (aI (G.2.1 (F a 10)) (10 * l4_51.toInt + 0))) (l5_87.toInt + 1)) (smS (frI (G.2.1 (F a 10)) (mw (G.2.1 (F a 1)) 0) (mw (G.2.1 (F a 2)) 0) (mw (G.2.1 (F a 3)) (360 * p0.toInt)) p1.toInt (l4_51.toInt)) (sF (aI (G.2.1 (F a 10)) (10 * l4_51.toInt + 0))) (l5_87.toInt)) (stt (mw (G.2.1 (F a 1)) 0) (aI (G.2.1 (F a 10)) (10 * l4_51.toInt + 0)) (aI (G.2.1 (F a 10)) (10 * l4_51.toInt + 1)) (aI (G.2.1 (F a 10)) (10 * l4_51.toInt + 2)) (aI (G.2.1 (F a 10)) (10 * l4_51.toInt + 3)) (l5_87.toInt)) (stt (mw (G.2.1 (F a 2)) 0) (aI (G.2.1 (F a 10)) (10 * l4_51.toInt + 0)) (aI (G.2.1 (F a 10)) (10 * l4_51.toInt + 1)) (aI (G.2.1 (F a 10)) (10 * l4_51.toInt + 2)) (aI (G.2.1 (F a 10)) (10 * l4_51.toInt + 3)) (l5_87.toInt)) (stt (mw (G.2.1 (F a 3)) (360 * p0.toInt)) (aI (G.2.1 (F a 10)) (10 * l4_51.toInt + 0)) (aI (G.2.1 (F a 10)) (10 * l4_51.toInt + 1)) (aI (G.2.1 (F a 10)) (10 * l4_51.toInt + 2)) (aI (G.2.1 (F a 10)) (10 * l4_51.toInt + 3)) (l5_87.toInt)) c55 z79a I87_1 I87_2 c95 z98 (z98a).2 z98b z98c z98d c121 c133 c185 t193)) (by rw [(e195 : Int32.toInt x195 = (l5_87.toInt + 1))] <;> exact (z_X11_fresh_53 l3_87.toInt l4_51.toInt l5_87.toInt x193.toInt (aI (G.2.1 (F a 10)) (10 * l4_51.toInt + 0)) (sF (aI (G.2.1 (F a 10)) (10 * l4_51.toInt + 0))) (sL (aI (G.2.1 (F a 10)) (10 * l4_51.toInt + 0))) c55 z79a I87_2 c95 t193)) (by rw [(e195 : Int32.toInt x195 = (l5_87.toInt + 1))] <;> exact (z_X11_fresh_49 l5_87.toInt N87 hm87)) hT hS (lv_sub hl [4, 5, 1, 6, 0] rfl)
                        · refine lv_iload hx hb dX11_fresh_136 (lv_at hl 0 rfl) ?_
                          refine xi_zeq (tgt := 162) hx hb ((by decide) : Int32.toInt 0 = (0 : Int)) dX11_fresh_138 (by decide) (fun _ => ?_) (fun c => absurd (show (0 : Int) = 0 by decide) c)
                          refine lv_iconst (v := 0) hx hb dX11_fresh_162 (by decide) ?_
                          refine lv_goto (tgt := 193) hx hb dX11_fresh_163 (by decide) ?_
                          refine xi_iadd hx hb (rfl : Int32.toInt l3_87 = l3_87.toInt) ((by decide) : Int32.toInt 0 = (0 : Int)) dX11_fresh_193 (fun x193 t193 => ?_)
                          refine lv_istore_n (lv' := [(3, .int x193), (7, .int 0), (6, .int x102), (0, .ref a), (2, .int p1), (4, .int l4_51), (5, .int l5_87)]) hx hb dX11_fresh_194 rfl hl (by decide) rfl (fun ls hl => ?_)
                          refine xi_iinc (n := 1) (lv' := fun z9 => [(5, .int z9), (3, .int x193), (7, .int 0), (6, .int x102), (0, .ref a), (2, .int p1), (4, .int l4_51)]) (k := 6) hx hb (rfl : Int32.toInt l5_87 = l5_87.toInt) (by decide) dX11_fresh_195 hl rfl (by decide) (fun _ => rfl) (fun x195 ls t195 hl => ?_)
                          have e195 : x195.toInt = (l5_87.toInt + 1) := (z_X11_fresh_45 l5_87.toInt x195.toInt (aI (G.2.1 (F a 10)) (10 * l4_51.toInt + 0)) (sF (aI (G.2.1 (F a 10)) (10 * l4_51.toInt + 0))) (sL (aI (G.2.1 (F a 10)) (10 * l4_51.toInt + 0))) z79a c95 t195 (xr l5_87))
                          have hl : lv_has ls 8 [(5, .int x195), (3, .int x193), (7, .int 0), (6, .int x102), (0, .ref a), (2, .int p1), (4, .int l4_51)] := hl
                          refine lv_goto (tgt := 87) hx hb dX11_fresh_198 (by decide) ?_
                          exact ih87 x193 x195 _ _ _ (by rw [(e195 : Int32.toInt x195 = (l5_87.toInt + 1))] <;> exact (z_X11_fresh_46 l5_87.toInt (sF (aI (G.2.1 (F a 10)) (10 * l4_51.toInt + 0))) (sL (aI (G.2.1 (F a 10)) (10 * l4_51.toInt + 0))) I87_0 c95)) (by rw [(e195 : Int32.toInt x195 = (l5_87.toInt + 1))] <;> exact (z_X11_fresh_57 l3_87.toInt p1.toInt x193.toInt (aI (G26.2.1 (F a 11)) (199 * l4_51.toInt + l5_87.toInt + 99)) (aI (G26.2.1 (F a 13)) (199 * l4_51.toInt + l5_87.toInt + 99)) (frA (G.2.1 (F a 10)) (mw (G.2.1 (F a 1)) 0) (mw (G.2.1 (F a 2)) 0) (mw (G.2.1 (F a 3)) (360 * p0.toInt)) p1.toInt (l4_51.toInt)) (frI (G.2.1 (F a 10)) (mw (G.2.1 (F a 1)) 0) (mw (G.2.1 (F a 2)) 0) (mw (G.2.1 (F a 3)) (360 * p0.toInt)) p1.toInt (l4_51.toInt) (l5_87.toInt)) (smS (frI (G.2.1 (F a 10)) (mw (G.2.1 (F a 1)) 0) (mw (G.2.1 (F a 2)) 0) (mw (G.2.1 (F a 3)) (360 * p0.toInt)) p1.toInt (l4_51.toInt)) (sF (aI (G.2.1 (F a 10)) (10 * l4_51.toInt + 0))) (l5_87.toInt + 1)) (smS (frI (G.2.1 (F a 10)) (mw (G.2.1 (F a 1)) 0) (mw (G.2.1 (F a 2)) 0) (mw (G.2.1 (F a 3)) (360 * p0.toInt)) p1.toInt (l4_51.toInt)) (sF (aI (G.2.1 (F a 10)) (10 * l4_51.toInt + 0))) (l5_87.toInt)) (stt (mw (G.2.1 (F a 1)) 0) (aI (G.2.1 (F a 10)) (10 * l4_51.toInt + 0)) (aI (G.2.1 (F a 10)) (10 * l4_51.toInt + 1)) (aI (G.2.1 (F a 10)) (10 * l4_51.toInt + 2)) (aI (G.2.1 (F a 10)) (10 * l4_51.toInt + 3)) (l5_87.toInt)) (stt (mw (G.2.1 (F a 2)) 0) (aI (G.2.1 (F a 10)) (10 * l4_51.toInt + 0)) (aI (G.2.1 (F a 10)) (10 * l4_51.toInt + 1)) (aI (G.2.1 (F a 10)) (10 * l4_51.toInt + 2)) (aI (G.2.1 (F a 10)) (10 * l4_51.toInt + 3)) (l5_87.toInt)) (stt (mw (G.2.1 (F a 3)) (360 * p0.toInt)) (aI (G.2.1 (F a 10)) (10 * l4_51.toInt + 0)) (aI (G.2.1 (F a 10)) (10 * l4_51.toInt + 1)) (aI (G.2.1 (F a 10)) (10 * l4_51.toInt + 2)) (aI (G.2.1 (F a 10)) (10 * l4_51.toInt + 3)) (l5_87.toInt)) I87_1 z98 (z98a).1 z98b z98c c121 c133 t193 (xr l3_87))) (by rw [(e195 : Int32.toInt x195 = (l5_87.toInt + 1))] <;> exact (z_X11_fresh_48 l3_87.toInt l4_51.toInt l5_87.toInt x193.toInt (sF (aI (G.2.1 (F a 10)) (10 * l4_51.toInt + 0))) I87_2 t193 (xr l3_87))) (by rw [(e195 : Int32.toInt x195 = (l5_87.toInt + 1))] <;> exact (z_X11_fresh_49 l5_87.toInt N87 hm87)) hT hS (lv_sub hl [4, 5, 1, 6, 0] rfl)
                      · refine lv_iconst (v := 1) hx hb dX11_fresh_124 (by decide) ?_
                        refine lv_goto (tgt := 129) hx hb dX11_fresh_125 (by decide) ?_
                        refine lv_istore (lv' := [(7, .int 1), (6, .int x102), (0, .ref a), (2, .int p1), (3, .int l3_87), (4, .int l4_51), (5, .int l5_87)]) hx hb dX11_fresh_129 hl (by decide) rfl (fun ls hl => ?_)
                        refine lv_iload_n hx hb dX11_fresh_131 rfl (lv_at hl 4 rfl) ?_
                        refine lv_iload_n hx hb dX11_fresh_132 rfl (lv_at hl 3 rfl) ?_
                        refine xi_zne (tgt := 166) hx hb (rfl : Int32.toInt p1 = p1.toInt) dX11_fresh_133 (by decide) (fun c133 => ?_) (fun c133 => ?_)
                        · refine lv_iload hx hb dX11_fresh_166 (lv_at hl 0 rfl) ?_
                          refine xi_zne (tgt := 192) hx hb ((by decide) : Int32.toInt 1 = (1 : Int)) dX11_fresh_168 (by decide) (fun _ => ?_) (fun c => absurd (show (1 : Int) ≠ 0 by decide) c)
                          refine lv_iconst (v := 0) hx hb dX11_fresh_192 (by decide) ?_
                          refine xi_iadd hx hb (rfl : Int32.toInt l3_87 = l3_87.toInt) ((by decide) : Int32.toInt 0 = (0 : Int)) dX11_fresh_193 (fun x193 t193 => ?_)
                          refine lv_istore_n (lv' := [(3, .int x193), (7, .int 1), (6, .int x102), (0, .ref a), (2, .int p1), (4, .int l4_51), (5, .int l5_87)]) hx hb dX11_fresh_194 rfl hl (by decide) rfl (fun ls hl => ?_)
                          refine xi_iinc (n := 1) (lv' := fun z9 => [(5, .int z9), (3, .int x193), (7, .int 1), (6, .int x102), (0, .ref a), (2, .int p1), (4, .int l4_51)]) (k := 6) hx hb (rfl : Int32.toInt l5_87 = l5_87.toInt) (by decide) dX11_fresh_195 hl rfl (by decide) (fun _ => rfl) (fun x195 ls t195 hl => ?_)
                          have e195 : x195.toInt = (l5_87.toInt + 1) := (z_X11_fresh_45 l5_87.toInt x195.toInt (aI (G.2.1 (F a 10)) (10 * l4_51.toInt + 0)) (sF (aI (G.2.1 (F a 10)) (10 * l4_51.toInt + 0))) (sL (aI (G.2.1 (F a 10)) (10 * l4_51.toInt + 0))) z79a c95 t195 (xr l5_87))
                          have hl : lv_has ls 8 [(5, .int x195), (3, .int x193), (7, .int 1), (6, .int x102), (0, .ref a), (2, .int p1), (4, .int l4_51)] := hl
                          refine lv_goto (tgt := 87) hx hb dX11_fresh_198 (by decide) ?_
                          exact ih87 x193 x195 _ _ _ (by rw [(e195 : Int32.toInt x195 = (l5_87.toInt + 1))] <;> exact (z_X11_fresh_46 l5_87.toInt (sF (aI (G.2.1 (F a 10)) (10 * l4_51.toInt + 0))) (sL (aI (G.2.1 (F a 10)) (10 * l4_51.toInt + 0))) I87_0 c95)) (by rw [(e195 : Int32.toInt x195 = (l5_87.toInt + 1))] <;> exact (z_X11_fresh_62 l3_87.toInt p1.toInt x193.toInt (aI (G26.2.1 (F a 11)) (199 * l4_51.toInt + l5_87.toInt + 99)) (aI (G26.2.1 (F a 13)) (199 * l4_51.toInt + l5_87.toInt + 99)) (frA (G.2.1 (F a 10)) (mw (G.2.1 (F a 1)) 0) (mw (G.2.1 (F a 2)) 0) (mw (G.2.1 (F a 3)) (360 * p0.toInt)) p1.toInt (l4_51.toInt)) (frI (G.2.1 (F a 10)) (mw (G.2.1 (F a 1)) 0) (mw (G.2.1 (F a 2)) 0) (mw (G.2.1 (F a 3)) (360 * p0.toInt)) p1.toInt (l4_51.toInt) (l5_87.toInt)) (smS (frI (G.2.1 (F a 10)) (mw (G.2.1 (F a 1)) 0) (mw (G.2.1 (F a 2)) 0) (mw (G.2.1 (F a 3)) (360 * p0.toInt)) p1.toInt (l4_51.toInt)) (sF (aI (G.2.1 (F a 10)) (10 * l4_51.toInt + 0))) (l5_87.toInt + 1)) (smS (frI (G.2.1 (F a 10)) (mw (G.2.1 (F a 1)) 0) (mw (G.2.1 (F a 2)) 0) (mw (G.2.1 (F a 3)) (360 * p0.toInt)) p1.toInt (l4_51.toInt)) (sF (aI (G.2.1 (F a 10)) (10 * l4_51.toInt + 0))) (l5_87.toInt)) (stt (mw (G.2.1 (F a 1)) 0) (aI (G.2.1 (F a 10)) (10 * l4_51.toInt + 0)) (aI (G.2.1 (F a 10)) (10 * l4_51.toInt + 1)) (aI (G.2.1 (F a 10)) (10 * l4_51.toInt + 2)) (aI (G.2.1 (F a 10)) (10 * l4_51.toInt + 3)) (l5_87.toInt)) (stt (mw (G.2.1 (F a 2)) 0) (aI (G.2.1 (F a 10)) (10 * l4_51.toInt + 0)) (aI (G.2.1 (F a 10)) (10 * l4_51.toInt + 1)) (aI (G.2.1 (F a 10)) (10 * l4_51.toInt + 2)) (aI (G.2.1 (F a 10)) (10 * l4_51.toInt + 3)) (l5_87.toInt)) (stt (mw (G.2.1 (F a 3)) (360 * p0.toInt)) (aI (G.2.1 (F a 10)) (10 * l4_51.toInt + 0)) (aI (G.2.1 (F a 10)) (10 * l4_51.toInt + 1)) (aI (G.2.1 (F a 10)) (10 * l4_51.toInt + 2)) (aI (G.2.1 (F a 10)) (10 * l4_51.toInt + 3)) (l5_87.toInt)) I87_1 z98 (z98a).2 z98b z98c c121 c133 t193 (xr l3_87))) (by rw [(e195 : Int32.toInt x195 = (l5_87.toInt + 1))] <;> exact (z_X11_fresh_48 l3_87.toInt l4_51.toInt l5_87.toInt x193.toInt (sF (aI (G.2.1 (F a 10)) (10 * l4_51.toInt + 0))) I87_2 t193 (xr l3_87))) (by rw [(e195 : Int32.toInt x195 = (l5_87.toInt + 1))] <;> exact (z_X11_fresh_49 l5_87.toInt N87 hm87)) hT hS (lv_sub hl [4, 5, 1, 6, 0] rfl)
                        · refine lv_iload hx hb dX11_fresh_136 (lv_at hl 0 rfl) ?_
                          refine xi_zeq (tgt := 162) hx hb ((by decide) : Int32.toInt 1 = (1 : Int)) dX11_fresh_138 (by decide) (fun c => absurd c (show ¬ ((1 : Int) = 0) by decide)) (fun _ => ?_)
                          refine lv_aload_n hx hb dX11_fresh_141 rfl (lv_at hl 2 rfl) ?_
                          refine gX11_11 S hK hT ha kf_X11_36 dX11_fresh_142 (fun _ _ => ?_)
                          refine lv_iload hx hb dX11_fresh_145 (lv_at hl 1 rfl) ?_
                          refine al_0 S hK hT hk9999c ar_38 (by decide) (by rw [(t102 : Int32.toInt x102 = 199 * l4_51.toInt + l5_87.toInt + 99)]; exact (z_X11_fresh_41 l3_51.toInt l4_51.toInt l5_87.toInt (aI (G.2.1 (F a 10)) (10 * l4_51.toInt + 0)) (sF (aI (G.2.1 (F a 10)) (10 * l4_51.toInt + 0))) (sL (aI (G.2.1 (F a 10)) (10 * l4_51.toInt + 0))) I51_2 c55 z79a I87_0 c95)) dX11_fresh_147 (fun x147 hv147 o147 => ?_)
                          have hv147 : x147.toInt = (aI (G26.2.1 (F a 11)) (199 * l4_51.toInt + l5_87.toInt + 99)) := hv147.trans (by rw [(t102 : Int32.toInt x102 = 199 * l4_51.toInt + l5_87.toInt + 99), ((hF43.2.1 _ (xn1 (xne_j hj9999c hj9999e (by first | decide | omega)) xn0)) : G43.2.1 (F a 11) = G26.2.1 (F a 11))])
                          refine lv_aload_n hx hb dX11_fresh_148 rfl (lv_at hl 2 rfl) ?_
                          refine gX11_14 S hK hT ha kf_X11_45 dX11_fresh_149 (fun _ _ => ?_)
                          refine lv_iload hx hb dX11_fresh_152 (lv_at hl 1 rfl) ?_
                          refine al_0 S hK hT hk9999e ar_38 (by decide) (by rw [(t102 : Int32.toInt x102 = 199 * l4_51.toInt + l5_87.toInt + 99)]; exact (z_X11_fresh_41 l3_51.toInt l4_51.toInt l5_87.toInt (aI (G.2.1 (F a 10)) (10 * l4_51.toInt + 0)) (sF (aI (G.2.1 (F a 10)) (10 * l4_51.toInt + 0))) (sL (aI (G.2.1 (F a 10)) (10 * l4_51.toInt + 0))) I51_2 c55 z79a I87_0 c95)) dX11_fresh_154 (fun x154 hv154 o154 => ?_)
                          have hv154 : x154.toInt = (aI (G43.2.1 (F a 14)) (199 * l4_51.toInt + l5_87.toInt + 99)) := hv154.trans (by rw [(t102 : Int32.toInt x102 = 199 * l4_51.toInt + l5_87.toInt + 99)])
                          refine xi_ceq (tgt := 162) hx hb (hv147 : Int32.toInt x147 = (aI (G26.2.1 (F a 11)) (199 * l4_51.toInt + l5_87.toInt + 99))) (hv154 : Int32.toInt x154 = (aI (G43.2.1 (F a 14)) (199 * l4_51.toInt + l5_87.toInt + 99))) dX11_fresh_155 (by decide) (fun c155 => ?_) (fun c155 => ?_)
                          · refine lv_iconst (v := 0) hx hb dX11_fresh_162 (by decide) ?_
                            refine lv_goto (tgt := 193) hx hb dX11_fresh_163 (by decide) ?_
                            refine xi_iadd hx hb (rfl : Int32.toInt l3_87 = l3_87.toInt) ((by decide) : Int32.toInt 0 = (0 : Int)) dX11_fresh_193 (fun x193 t193 => ?_)
                            refine lv_istore_n (lv' := [(3, .int x193), (7, .int 1), (6, .int x102), (0, .ref a), (2, .int p1), (4, .int l4_51), (5, .int l5_87)]) hx hb dX11_fresh_194 rfl hl (by decide) rfl (fun ls hl => ?_)
                            refine xi_iinc (n := 1) (lv' := fun z9 => [(5, .int z9), (3, .int x193), (7, .int 1), (6, .int x102), (0, .ref a), (2, .int p1), (4, .int l4_51)]) (k := 6) hx hb (rfl : Int32.toInt l5_87 = l5_87.toInt) (by decide) dX11_fresh_195 hl rfl (by decide) (fun _ => rfl) (fun x195 ls t195 hl => ?_)
                            have e195 : x195.toInt = (l5_87.toInt + 1) := (z_X11_fresh_45 l5_87.toInt x195.toInt (aI (G.2.1 (F a 10)) (10 * l4_51.toInt + 0)) (sF (aI (G.2.1 (F a 10)) (10 * l4_51.toInt + 0))) (sL (aI (G.2.1 (F a 10)) (10 * l4_51.toInt + 0))) z79a c95 t195 (xr l5_87))
                            have hl : lv_has ls 8 [(5, .int x195), (3, .int x193), (7, .int 1), (6, .int x102), (0, .ref a), (2, .int p1), (4, .int l4_51)] := hl
                            refine lv_goto (tgt := 87) hx hb dX11_fresh_198 (by decide) ?_
                            exact ih87 x193 x195 _ _ _ (by rw [(e195 : Int32.toInt x195 = (l5_87.toInt + 1))] <;> exact (z_X11_fresh_46 l5_87.toInt (sF (aI (G.2.1 (F a 10)) (10 * l4_51.toInt + 0))) (sL (aI (G.2.1 (F a 10)) (10 * l4_51.toInt + 0))) I87_0 c95)) (by rw [(e195 : Int32.toInt x195 = (l5_87.toInt + 1))] <;> exact (z_X11_fresh_69 l3_87.toInt p1.toInt x193.toInt (aI (G26.2.1 (F a 11)) (199 * l4_51.toInt + l5_87.toInt + 99)) (aI (G43.2.1 (F a 14)) (199 * l4_51.toInt + l5_87.toInt + 99)) (frA (G.2.1 (F a 10)) (mw (G.2.1 (F a 1)) 0) (mw (G.2.1 (F a 2)) 0) (mw (G.2.1 (F a 3)) (360 * p0.toInt)) p1.toInt (l4_51.toInt)) (frI (G.2.1 (F a 10)) (mw (G.2.1 (F a 1)) 0) (mw (G.2.1 (F a 2)) 0) (mw (G.2.1 (F a 3)) (360 * p0.toInt)) p1.toInt (l4_51.toInt) (l5_87.toInt)) (smS (frI (G.2.1 (F a 10)) (mw (G.2.1 (F a 1)) 0) (mw (G.2.1 (F a 2)) 0) (mw (G.2.1 (F a 3)) (360 * p0.toInt)) p1.toInt (l4_51.toInt)) (sF (aI (G.2.1 (F a 10)) (10 * l4_51.toInt + 0))) (l5_87.toInt + 1)) (smS (frI (G.2.1 (F a 10)) (mw (G.2.1 (F a 1)) 0) (mw (G.2.1 (F a 2)) 0) (mw (G.2.1 (F a 3)) (360 * p0.toInt)) p1.toInt (l4_51.toInt)) (sF (aI (G.2.1 (F a 10)) (10 * l4_51.toInt + 0))) (l5_87.toInt)) (stt (mw (G.2.1 (F a 1)) 0) (aI (G.2.1 (F a 10)) (10 * l4_51.toInt + 0)) (aI (G.2.1 (F a 10)) (10 * l4_51.toInt + 1)) (aI (G.2.1 (F a 10)) (10 * l4_51.toInt + 2)) (aI (G.2.1 (F a 10)) (10 * l4_51.toInt + 3)) (l5_87.toInt)) (stt (mw (G.2.1 (F a 2)) 0) (aI (G.2.1 (F a 10)) (10 * l4_51.toInt + 0)) (aI (G.2.1 (F a 10)) (10 * l4_51.toInt + 1)) (aI (G.2.1 (F a 10)) (10 * l4_51.toInt + 2)) (aI (G.2.1 (F a 10)) (10 * l4_51.toInt + 3)) (l5_87.toInt)) (stt (mw (G.2.1 (F a 3)) (360 * p0.toInt)) (aI (G.2.1 (F a 10)) (10 * l4_51.toInt + 0)) (aI (G.2.1 (F a 10)) (10 * l4_51.toInt + 1)) (aI (G.2.1 (F a 10)) (10 * l4_51.toInt + 2)) (aI (G.2.1 (F a 10)) (10 * l4_51.toInt + 3)) (l5_87.toInt)) I87_1 z98 (z98a).1 z98b z98d c133 c155 t193 (xr l3_87))) (by rw [(e195 : Int32.toInt x195 = (l5_87.toInt + 1))] <;> exact (z_X11_fresh_48 l3_87.toInt l4_51.toInt l5_87.toInt x193.toInt (sF (aI (G.2.1 (F a 10)) (10 * l4_51.toInt + 0))) I87_2 t193 (xr l3_87))) (by rw [(e195 : Int32.toInt x195 = (l5_87.toInt + 1))] <;> exact (z_X11_fresh_49 l5_87.toInt N87 hm87)) hT hS (lv_sub hl [4, 5, 1, 6, 0] rfl)
                          · refine lv_iconst (v := 1) hx hb dX11_fresh_158 (by decide) ?_
                            refine lv_goto (tgt := 193) hx hb dX11_fresh_159 (by decide) ?_
                            refine xi_iadd hx hb (rfl : Int32.toInt l3_87 = l3_87.toInt) ((by decide) : Int32.toInt 1 = (1 : Int)) dX11_fresh_193 (fun x193 t193 => ?_)
                            refine lv_istore_n (lv' := [(3, .int x193), (7, .int 1), (6, .int x102), (0, .ref a), (2, .int p1), (4, .int l4_51), (5, .int l5_87)]) hx hb dX11_fresh_194 rfl hl (by decide) rfl (fun ls hl => ?_)
                            refine xi_iinc (n := 1) (lv' := fun z9 => [(5, .int z9), (3, .int x193), (7, .int 1), (6, .int x102), (0, .ref a), (2, .int p1), (4, .int l4_51)]) (k := 6) hx hb (rfl : Int32.toInt l5_87 = l5_87.toInt) (by decide) dX11_fresh_195 hl rfl (by decide) (fun _ => rfl) (fun x195 ls t195 hl => ?_)
                            have e195 : x195.toInt = (l5_87.toInt + 1) := (z_X11_fresh_45 l5_87.toInt x195.toInt (aI (G.2.1 (F a 10)) (10 * l4_51.toInt + 0)) (sF (aI (G.2.1 (F a 10)) (10 * l4_51.toInt + 0))) (sL (aI (G.2.1 (F a 10)) (10 * l4_51.toInt + 0))) z79a c95 t195 (xr l5_87))
                            have hl : lv_has ls 8 [(5, .int x195), (3, .int x193), (7, .int 1), (6, .int x102), (0, .ref a), (2, .int p1), (4, .int l4_51)] := hl
                            refine lv_goto (tgt := 87) hx hb dX11_fresh_198 (by decide) ?_
                            exact ih87 x193 x195 _ _ _ (by rw [(e195 : Int32.toInt x195 = (l5_87.toInt + 1))] <;> exact (z_X11_fresh_46 l5_87.toInt (sF (aI (G.2.1 (F a 10)) (10 * l4_51.toInt + 0))) (sL (aI (G.2.1 (F a 10)) (10 * l4_51.toInt + 0))) I87_0 c95)) (by rw [(e195 : Int32.toInt x195 = (l5_87.toInt + 1))] <;> exact (z_X11_fresh_74 l3_87.toInt l4_51.toInt l5_87.toInt p1.toInt x193.toInt (aI (G.2.1 (F a 10)) (10 * l4_51.toInt + 0)) (aI (G26.2.1 (F a 11)) (199 * l4_51.toInt + l5_87.toInt + 99)) (aI (G26.2.1 (F a 13)) (199 * l4_51.toInt + l5_87.toInt + 99)) (aI (G43.2.1 (F a 14)) (199 * l4_51.toInt + l5_87.toInt + 99)) (frA (G.2.1 (F a 10)) (mw (G.2.1 (F a 1)) 0) (mw (G.2.1 (F a 2)) 0) (mw (G.2.1 (F a 3)) (360 * p0.toInt)) p1.toInt (l4_51.toInt)) (frI (G.2.1 (F a 10)) (mw (G.2.1 (F a 1)) 0) (mw (G.2.1 (F a 2)) 0) (mw (G.2.1 (F a 3)) (360 * p0.toInt)) p1.toInt (l4_51.toInt) (l5_87.toInt)) (sF (aI (G.2.1 (F a 10)) (10 * l4_51.toInt + 0))) (sL (aI (G.2.1 (F a 10)) (10 * l4_51.toInt + 0))) (smS (frI (G.2.1 (F a 10)) (mw (G.2.1 (F a 1)) 0) (mw (G.2.1 (F a 2)) 0) (mw (G.2.1 (F a 3)) (360 * p0.toInt)) p1.toInt (l4_51.toInt)) (sF (aI (G.2.1 (F a 10)) (10 * l4_51.toInt + 0))) (l5_87.toInt + 1)) (smS (frI (G.2.1 (F a 10)) (mw (G.2.1 (F a 1)) 0) (mw (G.2.1 (F a 2)) 0) (mw (G.2.1 (F a 3)) (360 * p0.toInt)) p1.toInt (l4_51.toInt)) (sF (aI (G.2.1 (F a 10)) (10 * l4_51.toInt + 0))) (l5_87.toInt)) (stt (mw (G.2.1 (F a 1)) 0) (aI (G.2.1 (F a 10)) (10 * l4_51.toInt + 0)) (aI (G.2.1 (F a 10)) (10 * l4_51.toInt + 1)) (aI (G.2.1 (F a 10)) (10 * l4_51.toInt + 2)) (aI (G.2.1 (F a 10)) (10 * l4_51.toInt + 3)) (l5_87.toInt)) (stt (mw (G.2.1 (F a 2)) 0) (aI (G.2.1 (F a 10)) (10 * l4_51.toInt + 0)) (aI (G.2.1 (F a 10)) (10 * l4_51.toInt + 1)) (aI (G.2.1 (F a 10)) (10 * l4_51.toInt + 2)) (aI (G.2.1 (F a 10)) (10 * l4_51.toInt + 3)) (l5_87.toInt)) (stt (mw (G.2.1 (F a 3)) (360 * p0.toInt)) (aI (G.2.1 (F a 10)) (10 * l4_51.toInt + 0)) (aI (G.2.1 (F a 10)) (10 * l4_51.toInt + 1)) (aI (G.2.1 (F a 10)) (10 * l4_51.toInt + 2)) (aI (G.2.1 (F a 10)) (10 * l4_51.toInt + 3)) (l5_87.toInt)) c55 z79a I87_1 I87_2 c95 z98 (z98a).1 z98b z98c z98d c121 c133 c155 t193)) (by rw [(e195 : Int32.toInt x195 = (l5_87.toInt + 1))] <;> exact (z_X11_fresh_53 l3_87.toInt l4_51.toInt l5_87.toInt x193.toInt (aI (G.2.1 (F a 10)) (10 * l4_51.toInt + 0)) (sF (aI (G.2.1 (F a 10)) (10 * l4_51.toInt + 0))) (sL (aI (G.2.1 (F a 10)) (10 * l4_51.toInt + 0))) c55 z79a I87_2 c95 t193)) (by rw [(e195 : Int32.toInt x195 = (l5_87.toInt + 1))] <;> exact (z_X11_fresh_49 l5_87.toInt N87 hm87)) hT hS (lv_sub hl [4, 5, 1, 6, 0] rfl)
                exact L87 4294967297 l3_51 x82 _ _ _ (by rw [(t82 : Int32.toInt x82 = (sF (aI (G.2.1 (F a 10)) (10 * l4_51.toInt + 0))))] <;> exact (z_X11_fresh_77 (aI (G.2.1 (F a 10)) (10 * l4_51.toInt + 0)) (sF (aI (G.2.1 (F a 10)) (10 * l4_51.toInt + 0))) (sL (aI (G.2.1 (F a 10)) (10 * l4_51.toInt + 0))) z79a)) (by rw [(t82 : Int32.toInt x82 = (sF (aI (G.2.1 (F a 10)) (10 * l4_51.toInt + 0))))] <;> exact (z_X11_fresh_78 l3_51.toInt (frA (G.2.1 (F a 10)) (mw (G.2.1 (F a 1)) 0) (mw (G.2.1 (F a 2)) 0) (mw (G.2.1 (F a 3)) (360 * p0.toInt)) p1.toInt (l4_51.toInt)) (smS (frI (G.2.1 (F a 10)) (mw (G.2.1 (F a 1)) 0) (mw (G.2.1 (F a 2)) 0) (mw (G.2.1 (F a 3)) (360 * p0.toInt)) p1.toInt (l4_51.toInt)) (sF (aI (G.2.1 (F a 10)) (10 * l4_51.toInt + 0))) (sF (aI (G.2.1 (F a 10)) (10 * l4_51.toInt + 0)))) I51_1 z79b)) (by rw [(t82 : Int32.toInt x82 = (sF (aI (G.2.1 (F a 10)) (10 * l4_51.toInt + 0))))] <;> exact (z_X11_fresh_79 l3_51.toInt l4_51.toInt (sF (aI (G.2.1 (F a 10)) (10 * l4_51.toInt + 0))) I51_2)) (by rw [(t82 : Int32.toInt x82 = (sF (aI (G.2.1 (F a 10)) (10 * l4_51.toInt + 0))))] <;> exact (z_X11_fresh_80 (aI (G.2.1 (F a 10)) (10 * l4_51.toInt + 0)) (sF (aI (G.2.1 (F a 10)) (10 * l4_51.toInt + 0))) (sL (aI (G.2.1 (F a 10)) (10 * l4_51.toInt + 0))) z79a)) hT hS (lv_sub hl [1, 2, 3, 4, 0] rfl)
      exact L51 4294967297 0 0 _ _ _ (by decide) (z_X11_fresh_81 (frA (G.2.1 (F a 10)) (mw (G.2.1 (F a 1)) 0) (mw (G.2.1 (F a 2)) 0) (mw (G.2.1 (F a 3)) (360 * p0.toInt)) p1.toInt 0) z48) (by decide) (by decide) hT hS (lv_sub hl [2, 4, 1, 0] rfl)
    · refine lv_iconst (v := (-1)) hx hb dX11_fresh_23 (by decide) ?_
      exact x_ri hx hb hr hlk hQ (Nat.le_of_ble_eq_true rfl) (Nat.le_of_ble_eq_true rfl) hS dX11_fresh_24 G2 ⟨_, rfl, (by rw [hG2]; exact XFr.dput XFr.rf (List.mem_of_getElem? (i := 0) rfl)), (by rw [((by decide) : Int32.toInt (-1) = (-1 : Int))] <;> exact (v_X11_fresh_24_8 (K := K) (F := F) a G p0 x7 x17 p1 ha m0 t7 c10 t17 c20))⟩ hT
theorem v_X11_wouldCut_8_1 {F : Nat → Nat → Nat} (a : Nat) (G2 : XG) (G : XG)
    (hM : RM (G.2.1 (F a 1)) (0))
    (c_G2_F_a_1 : G2.2.1 (F a 1) = G.2.1 (F a 1)) :
    RM (G2.2.1 (F a 1)) 0 := by simp only [c_G2_F_a_1]; assumption
theorem v_X11_wouldCut_27_2 {F : Nat → Nat → Nat} (G2 : XG) (a : Nat) (G : XG)
    (c_G2_F_a_1 : G2.2.1 (F a 1) = G.2.1 (F a 1)) :
    mw (G2.2.1 (F a 1)) 0 = mw (G.2.1 (F a 1)) 0 := by
  rw [c_G2_F_a_1]
theorem v_X11_wouldCut_27_3 {F : Nat → Nat → Nat} (G : XG) (a : Nat) (G2 : XG)
    (hM : RM (G.2.1 (F a 1)) (0))
    (c_G2_F_a_1 : G2.2.1 (F a 1) = G.2.1 (F a 1)) :
    RM (G2.2.1 (F a 1)) 0 := by
  rw [c_G2_F_a_1]; exact hM
theorem v_X11_wouldCut_27_4 {K : Nat → Nat} {F : Nat → Nat → Nat} (a : Nat) (G : XG) (p0 : Int32) (p1 : Int32) (x8 : Int32) (p2 : Int32)
    (ha : K a = 13)
    (z5 : ¬ (0 ≤ p0.toInt ∧ p0.toInt < 3 ∧ 0 ≤ p1.toInt ∧ p1.toInt < 30) → (cel (mw (G.2.1 (F a 1)) 0) (p0.toInt) (p1.toInt) 0) = -2000)
    (t8 : (x8.toInt = 1 ∧ (cel (mw (G.2.1 (F a 1)) 0) (p0.toInt) (p1.toInt) 0) ≠ -2000) ∨ (x8.toInt = 0 ∧ (cel (mw (G.2.1 (F a 1)) 0) (p0.toInt) (p1.toInt) 0) = -2000))
    (c11 : x8.toInt = 0) :
    (¬ (cel (mw (G.2.1 (F a 1)) 0) p0.toInt p1.toInt 0 ≠ -2000 ∧ 0 ≤ p2.toInt ∧ p2.toInt ≤ 2) ∧ (-1 : Int) = -1) ∨ ((cel (mw (G.2.1 (F a 1)) 0) p0.toInt p1.toInt 0 ≠ -2000 ∧ 0 ≤ p2.toInt ∧ p2.toInt ≤ 2) ∧ ((p2.toInt = 0 ∧ ∃ f0 f1 : Nat → Int32, (RM f0 0 ∧ mw f0 0 = (mw (G.2.1 (F a 1)) 0)) ∧ (RM f1 0 ∧ mw f1 0 = cfin (refA (G.2.1 (F a 10))) (refT (G.2.1 (F a 10))) (refC (G.2.1 (F a 10))) ([(p0.toInt, p1.toInt, 0, 0)], rfil (mw (G.2.1 (F a 1)) 0) p0.toInt p1.toInt (-2000) 3)) ∧ (-1 : Int) = rmT f0 360 - rmT f1 360) ∨ (p2.toInt = 1 ∧ ∃ f0 f1 : Nat → Int32, (RM f0 0 ∧ mw f0 0 = (mw (G.2.1 (F a 1)) 0)) ∧ (RM f1 0 ∧ mw f1 0 = cfin (refA (G.2.1 (F a 10))) (refT (G.2.1 (F a 10))) (refC (G.2.1 (F a 10))) ([(p0.toInt, p1.toInt, 0, 0)], rfil (mw (G.2.1 (F a 1)) 0) p0.toInt p1.toInt (-2000) 3)) ∧ (-1 : Int) = clT f0 f1 360) ∨ (p2.toInt = 2 ∧ AnsM ((G.1 a 6).toInt) (-1 : Int) (G.2.1 (F a 10)) (mw (G.2.1 (F a 1)) 0) (cfin (refA (G.2.1 (F a 10))) (refT (G.2.1 (F a 10))) (refC (G.2.1 (F a 10))) ([(p0.toInt, p1.toInt, 0, 0)], rfil (mw (G.2.1 (F a 1)) 0) p0.toInt p1.toInt (-2000) 3))))) := by
  exact Or.inl ⟨by omega, rfl⟩
theorem v_X11_wouldCut_29_5 {F : Nat → Nat → Nat} (a : Nat) (G2 : XG) (G : XG)
    (hR : RV (G.2.1 (F a 10)))
    (c_G2_F_a_10 : G2.2.1 (F a 10) = G.2.1 (F a 10)) :
    RV (G2.2.1 (F a 10)) := by simp only [c_G2_F_a_10]; assumption
theorem v_X11_wouldCut_29_6 {F : Nat → Nat → Nat} (a : Nat) (G2 : XG) (G : XG)
    (hM : RM (G.2.1 (F a 1)) (0))
    (c_G2_F_a_1 : G2.2.1 (F a 1) = G.2.1 (F a 1)) :
    RM (G2.2.1 (F a 1)) (0) := by simp only [c_G2_F_a_1]; assumption
theorem v_X11_wouldCut_35_7 {F : Nat → Nat → Nat} (a : Nat) (G : XG) (G29 : XG)
    (hR : RV (G.2.1 (F a 10)))
    (c_G29_F_a_10 : G29.2.1 (F a 10) = G.2.1 (F a 10)) :
    RV (G29.2.1 (F a 10)) := by simp only [c_G29_F_a_10]; assumption
theorem v_X11_wouldCut_35_8 {F : Nat → Nat → Nat} (a : Nat) (G : XG) (G29 : XG)
    (hM : RM (G.2.1 (F a 1)) (0))
    (oq29a : RM (G29.2.1 (F a 4)) 0)
    (c_G29_F_a_1 : G29.2.1 (F a 1) = G.2.1 (F a 1)) :
    RM (G29.2.1 (F a 1)) (0) := by simp only [c_G29_F_a_1]; assumption
theorem v_X11_wouldCut_141_9 {F : Nat → Nat → Nat} (a : Nat) (G : XG) (G35 : XG)
    (hR : RV (G.2.1 (F a 10)))
    (c_G35_F_a_10 : G35.2.1 (F a 10) = G.2.1 (F a 10)) :
    RV (G35.2.1 (F a 10)) := by simp only [c_G35_F_a_10]; assumption
theorem v_X11_wouldCut_141_10 {F : Nat → Nat → Nat} (G35 : XG) (a : Nat)
    (oq35a : RM (G35.2.1 (F a 1)) 0) :
    RM (G35.2.1 (F a 1)) (0) := by
  exact oq35a
theorem v_X11_wouldCut_141_11 {F : Nat → Nat → Nat} (G29 : XG) (a : Nat) (G35 : XG)
    (oq29a : RM (G29.2.1 (F a 4)) 0)
    (c_G35_F_a_4 : G35.2.1 (F a 4) = G29.2.1 (F a 4)) :
    RM (G35.2.1 (F a 4)) 0 := by simp only [c_G35_F_a_4]; assumption
theorem v_X11_wouldCut_141_12 {F : Nat → Nat → Nat} (G : XG) (a : Nat) (G29 : XG) (G35 : XG)
    (oq29b : LSt (G.2.1 (F a 10)) (G29.2.1 (F a 12)) (mw (G.2.1 (F a 1)) 0) 12)
    (c_G35_F_a_10 : G35.2.1 (F a 10) = G.2.1 (F a 10))
    (c_G35_F_a_12 : G35.2.1 (F a 12) = G29.2.1 (F a 12)) :
    LSt (G35.2.1 (F a 10)) (G35.2.1 (F a 12)) (mw (G.2.1 (F a 1)) 0) 12 := by
  rw [c_G35_F_a_10, c_G35_F_a_12]; exact oq29b
theorem v_X11_wouldCut_167_13 {F : Nat → Nat → Nat} (G29 : XG) (a : Nat) (G : XG) (G141 : XG)
    (oq29 : mw (G29.2.1 (F a 4)) 0 = mw (G.2.1 (F a 1)) 0)
    (oq141a : mw (G141.2.1 (F a 1)) 0 = mw (G29.2.1 (F a 4)) 0) :
    mw (G141.2.1 (F a 1)) 0 = mw (G.2.1 (F a 1)) 0 := by
  exact oq141a.trans oq29
theorem v_X11_wouldCut_167_14 {F : Nat → Nat → Nat} (G141 : XG) (a : Nat)
    (oq141b : RM (G141.2.1 (F a 1)) 0) :
    RM (G141.2.1 (F a 1)) 0 := by
  exact oq141b
theorem v_X11_wouldCut_167_15 {K : Nat → Nat} {F : Nat → Nat → Nat} (a : Nat) (G : XG) (G29 : XG) (G35 : XG) (p0 : Int32) (p1 : Int32) (x141 : Int32) (x8 : Int32) (x20 : Int32) (p2 : Int32) (l6_47 : Int32) (l4_47 : Int32) (l5_47 : Int32) (N47 : Nat)
    (ha : K a = 13)
    (oq29 : mw (G29.2.1 (F a 4)) 0 = mw (G.2.1 (F a 1)) 0)
    (oq29a : RM (G29.2.1 (F a 4)) 0)
    (oq35 : mw (G35.2.1 (F a 1)) 0 = cfin (refA (G.2.1 (F a 10))) (refT (G.2.1 (F a 10))) (refC (G.2.1 (F a 10))) ([(p0.toInt, p1.toInt, 0, 0)], rfil (mw (G.2.1 (F a 1)) 0) p0.toInt p1.toInt (-2000) 3))
    (oq35a : RM (G35.2.1 (F a 1)) 0)
    (oq141 : AnsM ((G.1 a 6).toInt) x141.toInt (G.2.1 (F a 10)) (mw (G.2.1 (F a 1)) 0) (mw (G35.2.1 (F a 1)) 0))
    (z5 : ¬ (0 ≤ p0.toInt ∧ p0.toInt < 3 ∧ 0 ≤ p1.toInt ∧ p1.toInt < 30) → (cel (mw (G.2.1 (F a 1)) 0) (p0.toInt) (p1.toInt) 0) = -2000)
    (t8 : (x8.toInt = 1 ∧ (cel (mw (G.2.1 (F a 1)) 0) (p0.toInt) (p1.toInt) 0) ≠ -2000) ∨ (x8.toInt = 0 ∧ (cel (mw (G.2.1 (F a 1)) 0) (p0.toInt) (p1.toInt) 0) = -2000))
    (c11 : ¬ (x8.toInt = 0))
    (t20 : (x20.toInt = 1 ∧ (0 : Int) ≤ p2.toInt ∧ p2.toInt ≤ (2 : Int)) ∨ (x20.toInt = 0 ∧ (p2.toInt < (0 : Int) ∨ (2 : Int) < p2.toInt)))
    (c23 : x20.toInt ≠ 0)
    (z44 : (rmT (G29.2.1 (F a 4)) 0) = 0)
    (z44a : (rmT (G35.2.1 (F a 1)) 0) = 0)
    (z44b : (clT (G29.2.1 (F a 4)) (G35.2.1 (F a 1)) 0) = 0)
    (I47_0 : 0 ≤ l6_47.toInt ∧ l6_47.toInt ≤ 360 ∧ l6_47.toInt % 4 = 0)
    (I47_1 : l4_47.toInt = (rmT (G29.2.1 (F a 4)) (l6_47.toInt)) - (rmT (G35.2.1 (F a 1)) (l6_47.toInt)))
    (I47_2 : -l6_47.toInt ≤ 4 * l4_47.toInt ∧ 4 * l4_47.toInt ≤ l6_47.toInt)
    (I47_3 : l5_47.toInt = (clT (G29.2.1 (F a 4)) (G35.2.1 (F a 1)) (l6_47.toInt)))
    (I47_4 : 0 ≤ l5_47.toInt ∧ 4 * l5_47.toInt ≤ 3 * l6_47.toInt)
    (hm47 : 1000 - l6_47.toInt < (((N47) + 1 : Nat) : Int))
    (c52 : (360 : Int) ≤ l6_47.toInt)
    (z140 : l6_47.toInt = 360 → (rmT (G29.2.1 (F a 4)) (l6_47.toInt)) = (rmT (G29.2.1 (F a 4)) 360))
    (z140a : l6_47.toInt = 360 → (rmT (G35.2.1 (F a 1)) (l6_47.toInt)) = (rmT (G35.2.1 (F a 1)) 360))
    (z140b : l6_47.toInt = 360 → (clT (G29.2.1 (F a 4)) (G35.2.1 (F a 1)) (l6_47.toInt)) = (clT (G29.2.1 (F a 4)) (G35.2.1 (F a 1)) 360))
    (c147 : p2.toInt ≠ 0)
    (c157 : p2.toInt ≠ (1 : Int)) :
    (¬ (cel (mw (G.2.1 (F a 1)) 0) p0.toInt p1.toInt 0 ≠ -2000 ∧ 0 ≤ p2.toInt ∧ p2.toInt ≤ 2) ∧ x141.toInt = -1) ∨ ((cel (mw (G.2.1 (F a 1)) 0) p0.toInt p1.toInt 0 ≠ -2000 ∧ 0 ≤ p2.toInt ∧ p2.toInt ≤ 2) ∧ ((p2.toInt = 0 ∧ ∃ f0 f1 : Nat → Int32, (RM f0 0 ∧ mw f0 0 = (mw (G.2.1 (F a 1)) 0)) ∧ (RM f1 0 ∧ mw f1 0 = cfin (refA (G.2.1 (F a 10))) (refT (G.2.1 (F a 10))) (refC (G.2.1 (F a 10))) ([(p0.toInt, p1.toInt, 0, 0)], rfil (mw (G.2.1 (F a 1)) 0) p0.toInt p1.toInt (-2000) 3)) ∧ x141.toInt = rmT f0 360 - rmT f1 360) ∨ (p2.toInt = 1 ∧ ∃ f0 f1 : Nat → Int32, (RM f0 0 ∧ mw f0 0 = (mw (G.2.1 (F a 1)) 0)) ∧ (RM f1 0 ∧ mw f1 0 = cfin (refA (G.2.1 (F a 10))) (refT (G.2.1 (F a 10))) (refC (G.2.1 (F a 10))) ([(p0.toInt, p1.toInt, 0, 0)], rfil (mw (G.2.1 (F a 1)) 0) p0.toInt p1.toInt (-2000) 3)) ∧ x141.toInt = clT f0 f1 360) ∨ (p2.toInt = 2 ∧ AnsM ((G.1 a 6).toInt) x141.toInt (G.2.1 (F a 10)) (mw (G.2.1 (F a 1)) 0) (cfin (refA (G.2.1 (F a 10))) (refT (G.2.1 (F a 10))) (refC (G.2.1 (F a 10))) ([(p0.toInt, p1.toInt, 0, 0)], rfil (mw (G.2.1 (F a 1)) 0) p0.toInt p1.toInt (-2000) 3))))) := by
  first
    | (exfalso; omega)
    | exact Or.inr ⟨by omega, Or.inl ⟨by omega, _, _, ⟨oq29a, oq29⟩, ⟨oq35a, oq35⟩, by omega⟩⟩
    | exact Or.inr ⟨by omega, Or.inr (Or.inl ⟨by omega, _, _, ⟨oq29a, oq29⟩, ⟨oq35a, oq35⟩, by omega⟩)⟩
    | (rw [oq35] at oq141
       exact Or.inr ⟨by omega, Or.inr (Or.inr ⟨by omega, oq141⟩)⟩)
theorem v_X11_wouldCut_167_16 {F : Nat → Nat → Nat} (G29 : XG) (a : Nat) (G : XG) (G141 : XG)
    (oq29 : mw (G29.2.1 (F a 4)) 0 = mw (G.2.1 (F a 1)) 0)
    (oq141a : mw (G141.2.1 (F a 1)) 0 = mw (G29.2.1 (F a 4)) 0) :
    mw (G141.2.1 (F a 1)) 0 = mw (G.2.1 (F a 1)) 0 := by
  exact oq141a.trans oq29
theorem v_X11_wouldCut_167_17 {F : Nat → Nat → Nat} (G141 : XG) (a : Nat)
    (oq141b : RM (G141.2.1 (F a 1)) 0) :
    RM (G141.2.1 (F a 1)) 0 := by
  exact oq141b
theorem v_X11_wouldCut_167_18 {K : Nat → Nat} {F : Nat → Nat → Nat} (a : Nat) (G : XG) (G29 : XG) (G35 : XG) (p0 : Int32) (p1 : Int32) (x141 : Int32) (x8 : Int32) (x20 : Int32) (p2 : Int32) (l6_47 : Int32) (l4_47 : Int32) (l5_47 : Int32) (N47 : Nat)
    (ha : K a = 13)
    (oq29 : mw (G29.2.1 (F a 4)) 0 = mw (G.2.1 (F a 1)) 0)
    (oq29a : RM (G29.2.1 (F a 4)) 0)
    (oq35 : mw (G35.2.1 (F a 1)) 0 = cfin (refA (G.2.1 (F a 10))) (refT (G.2.1 (F a 10))) (refC (G.2.1 (F a 10))) ([(p0.toInt, p1.toInt, 0, 0)], rfil (mw (G.2.1 (F a 1)) 0) p0.toInt p1.toInt (-2000) 3))
    (oq35a : RM (G35.2.1 (F a 1)) 0)
    (oq141 : AnsM ((G.1 a 6).toInt) x141.toInt (G.2.1 (F a 10)) (mw (G.2.1 (F a 1)) 0) (mw (G35.2.1 (F a 1)) 0))
    (z5 : ¬ (0 ≤ p0.toInt ∧ p0.toInt < 3 ∧ 0 ≤ p1.toInt ∧ p1.toInt < 30) → (cel (mw (G.2.1 (F a 1)) 0) (p0.toInt) (p1.toInt) 0) = -2000)
    (t8 : (x8.toInt = 1 ∧ (cel (mw (G.2.1 (F a 1)) 0) (p0.toInt) (p1.toInt) 0) ≠ -2000) ∨ (x8.toInt = 0 ∧ (cel (mw (G.2.1 (F a 1)) 0) (p0.toInt) (p1.toInt) 0) = -2000))
    (c11 : ¬ (x8.toInt = 0))
    (t20 : (x20.toInt = 1 ∧ (0 : Int) ≤ p2.toInt ∧ p2.toInt ≤ (2 : Int)) ∨ (x20.toInt = 0 ∧ (p2.toInt < (0 : Int) ∨ (2 : Int) < p2.toInt)))
    (c23 : x20.toInt ≠ 0)
    (z44 : (rmT (G29.2.1 (F a 4)) 0) = 0)
    (z44a : (rmT (G35.2.1 (F a 1)) 0) = 0)
    (z44b : (clT (G29.2.1 (F a 4)) (G35.2.1 (F a 1)) 0) = 0)
    (I47_0 : 0 ≤ l6_47.toInt ∧ l6_47.toInt ≤ 360 ∧ l6_47.toInt % 4 = 0)
    (I47_1 : l4_47.toInt = (rmT (G29.2.1 (F a 4)) (l6_47.toInt)) - (rmT (G35.2.1 (F a 1)) (l6_47.toInt)))
    (I47_2 : -l6_47.toInt ≤ 4 * l4_47.toInt ∧ 4 * l4_47.toInt ≤ l6_47.toInt)
    (I47_3 : l5_47.toInt = (clT (G29.2.1 (F a 4)) (G35.2.1 (F a 1)) (l6_47.toInt)))
    (I47_4 : 0 ≤ l5_47.toInt ∧ 4 * l5_47.toInt ≤ 3 * l6_47.toInt)
    (hm47 : 1000 - l6_47.toInt < (((N47) + 1 : Nat) : Int))
    (c52 : (360 : Int) ≤ l6_47.toInt)
    (z140 : l6_47.toInt = 360 → (rmT (G29.2.1 (F a 4)) (l6_47.toInt)) = (rmT (G29.2.1 (F a 4)) 360))
    (z140a : l6_47.toInt = 360 → (rmT (G35.2.1 (F a 1)) (l6_47.toInt)) = (rmT (G35.2.1 (F a 1)) 360))
    (z140b : l6_47.toInt = 360 → (clT (G29.2.1 (F a 4)) (G35.2.1 (F a 1)) (l6_47.toInt)) = (clT (G29.2.1 (F a 4)) (G35.2.1 (F a 1)) 360))
    (c147 : p2.toInt ≠ 0)
    (c157 : ¬ (p2.toInt ≠ (1 : Int))) :
    (¬ (cel (mw (G.2.1 (F a 1)) 0) p0.toInt p1.toInt 0 ≠ -2000 ∧ 0 ≤ p2.toInt ∧ p2.toInt ≤ 2) ∧ l5_47.toInt = -1) ∨ ((cel (mw (G.2.1 (F a 1)) 0) p0.toInt p1.toInt 0 ≠ -2000 ∧ 0 ≤ p2.toInt ∧ p2.toInt ≤ 2) ∧ ((p2.toInt = 0 ∧ ∃ f0 f1 : Nat → Int32, (RM f0 0 ∧ mw f0 0 = (mw (G.2.1 (F a 1)) 0)) ∧ (RM f1 0 ∧ mw f1 0 = cfin (refA (G.2.1 (F a 10))) (refT (G.2.1 (F a 10))) (refC (G.2.1 (F a 10))) ([(p0.toInt, p1.toInt, 0, 0)], rfil (mw (G.2.1 (F a 1)) 0) p0.toInt p1.toInt (-2000) 3)) ∧ l5_47.toInt = rmT f0 360 - rmT f1 360) ∨ (p2.toInt = 1 ∧ ∃ f0 f1 : Nat → Int32, (RM f0 0 ∧ mw f0 0 = (mw (G.2.1 (F a 1)) 0)) ∧ (RM f1 0 ∧ mw f1 0 = cfin (refA (G.2.1 (F a 10))) (refT (G.2.1 (F a 10))) (refC (G.2.1 (F a 10))) ([(p0.toInt, p1.toInt, 0, 0)], rfil (mw (G.2.1 (F a 1)) 0) p0.toInt p1.toInt (-2000) 3)) ∧ l5_47.toInt = clT f0 f1 360) ∨ (p2.toInt = 2 ∧ AnsM ((G.1 a 6).toInt) l5_47.toInt (G.2.1 (F a 10)) (mw (G.2.1 (F a 1)) 0) (cfin (refA (G.2.1 (F a 10))) (refT (G.2.1 (F a 10))) (refC (G.2.1 (F a 10))) ([(p0.toInt, p1.toInt, 0, 0)], rfil (mw (G.2.1 (F a 1)) 0) p0.toInt p1.toInt (-2000) 3))))) := by
  first
    | (exfalso; omega)
    | exact Or.inr ⟨by omega, Or.inl ⟨by omega, _, _, ⟨oq29a, oq29⟩, ⟨oq35a, oq35⟩, by omega⟩⟩
    | exact Or.inr ⟨by omega, Or.inr (Or.inl ⟨by omega, _, _, ⟨oq29a, oq29⟩, ⟨oq35a, oq35⟩, by omega⟩)⟩
    | (rw [oq35] at oq141
       exact Or.inr ⟨by omega, Or.inr (Or.inr ⟨by omega, oq141⟩)⟩)
theorem v_X11_wouldCut_167_19 {F : Nat → Nat → Nat} (G29 : XG) (a : Nat) (G : XG) (G141 : XG)
    (oq29 : mw (G29.2.1 (F a 4)) 0 = mw (G.2.1 (F a 1)) 0)
    (oq141a : mw (G141.2.1 (F a 1)) 0 = mw (G29.2.1 (F a 4)) 0) :
    mw (G141.2.1 (F a 1)) 0 = mw (G.2.1 (F a 1)) 0 := by
  exact oq141a.trans oq29
theorem v_X11_wouldCut_167_20 {F : Nat → Nat → Nat} (G141 : XG) (a : Nat)
    (oq141b : RM (G141.2.1 (F a 1)) 0) :
    RM (G141.2.1 (F a 1)) 0 := by
  exact oq141b
theorem v_X11_wouldCut_167_21 {K : Nat → Nat} {F : Nat → Nat → Nat} (a : Nat) (G : XG) (G29 : XG) (G35 : XG) (p0 : Int32) (p1 : Int32) (x141 : Int32) (x8 : Int32) (x20 : Int32) (p2 : Int32) (l6_47 : Int32) (l4_47 : Int32) (l5_47 : Int32) (N47 : Nat)
    (ha : K a = 13)
    (oq29 : mw (G29.2.1 (F a 4)) 0 = mw (G.2.1 (F a 1)) 0)
    (oq29a : RM (G29.2.1 (F a 4)) 0)
    (oq35 : mw (G35.2.1 (F a 1)) 0 = cfin (refA (G.2.1 (F a 10))) (refT (G.2.1 (F a 10))) (refC (G.2.1 (F a 10))) ([(p0.toInt, p1.toInt, 0, 0)], rfil (mw (G.2.1 (F a 1)) 0) p0.toInt p1.toInt (-2000) 3))
    (oq35a : RM (G35.2.1 (F a 1)) 0)
    (oq141 : AnsM ((G.1 a 6).toInt) x141.toInt (G.2.1 (F a 10)) (mw (G.2.1 (F a 1)) 0) (mw (G35.2.1 (F a 1)) 0))
    (z5 : ¬ (0 ≤ p0.toInt ∧ p0.toInt < 3 ∧ 0 ≤ p1.toInt ∧ p1.toInt < 30) → (cel (mw (G.2.1 (F a 1)) 0) (p0.toInt) (p1.toInt) 0) = -2000)
    (t8 : (x8.toInt = 1 ∧ (cel (mw (G.2.1 (F a 1)) 0) (p0.toInt) (p1.toInt) 0) ≠ -2000) ∨ (x8.toInt = 0 ∧ (cel (mw (G.2.1 (F a 1)) 0) (p0.toInt) (p1.toInt) 0) = -2000))
    (c11 : ¬ (x8.toInt = 0))
    (t20 : (x20.toInt = 1 ∧ (0 : Int) ≤ p2.toInt ∧ p2.toInt ≤ (2 : Int)) ∨ (x20.toInt = 0 ∧ (p2.toInt < (0 : Int) ∨ (2 : Int) < p2.toInt)))
    (c23 : x20.toInt ≠ 0)
    (z44 : (rmT (G29.2.1 (F a 4)) 0) = 0)
    (z44a : (rmT (G35.2.1 (F a 1)) 0) = 0)
    (z44b : (clT (G29.2.1 (F a 4)) (G35.2.1 (F a 1)) 0) = 0)
    (I47_0 : 0 ≤ l6_47.toInt ∧ l6_47.toInt ≤ 360 ∧ l6_47.toInt % 4 = 0)
    (I47_1 : l4_47.toInt = (rmT (G29.2.1 (F a 4)) (l6_47.toInt)) - (rmT (G35.2.1 (F a 1)) (l6_47.toInt)))
    (I47_2 : -l6_47.toInt ≤ 4 * l4_47.toInt ∧ 4 * l4_47.toInt ≤ l6_47.toInt)
    (I47_3 : l5_47.toInt = (clT (G29.2.1 (F a 4)) (G35.2.1 (F a 1)) (l6_47.toInt)))
    (I47_4 : 0 ≤ l5_47.toInt ∧ 4 * l5_47.toInt ≤ 3 * l6_47.toInt)
    (hm47 : 1000 - l6_47.toInt < (((N47) + 1 : Nat) : Int))
    (c52 : (360 : Int) ≤ l6_47.toInt)
    (z140 : l6_47.toInt = 360 → (rmT (G29.2.1 (F a 4)) (l6_47.toInt)) = (rmT (G29.2.1 (F a 4)) 360))
    (z140a : l6_47.toInt = 360 → (rmT (G35.2.1 (F a 1)) (l6_47.toInt)) = (rmT (G35.2.1 (F a 1)) 360))
    (z140b : l6_47.toInt = 360 → (clT (G29.2.1 (F a 4)) (G35.2.1 (F a 1)) (l6_47.toInt)) = (clT (G29.2.1 (F a 4)) (G35.2.1 (F a 1)) 360))
    (c147 : ¬ (p2.toInt ≠ 0)) :
    (¬ (cel (mw (G.2.1 (F a 1)) 0) p0.toInt p1.toInt 0 ≠ -2000 ∧ 0 ≤ p2.toInt ∧ p2.toInt ≤ 2) ∧ l4_47.toInt = -1) ∨ ((cel (mw (G.2.1 (F a 1)) 0) p0.toInt p1.toInt 0 ≠ -2000 ∧ 0 ≤ p2.toInt ∧ p2.toInt ≤ 2) ∧ ((p2.toInt = 0 ∧ ∃ f0 f1 : Nat → Int32, (RM f0 0 ∧ mw f0 0 = (mw (G.2.1 (F a 1)) 0)) ∧ (RM f1 0 ∧ mw f1 0 = cfin (refA (G.2.1 (F a 10))) (refT (G.2.1 (F a 10))) (refC (G.2.1 (F a 10))) ([(p0.toInt, p1.toInt, 0, 0)], rfil (mw (G.2.1 (F a 1)) 0) p0.toInt p1.toInt (-2000) 3)) ∧ l4_47.toInt = rmT f0 360 - rmT f1 360) ∨ (p2.toInt = 1 ∧ ∃ f0 f1 : Nat → Int32, (RM f0 0 ∧ mw f0 0 = (mw (G.2.1 (F a 1)) 0)) ∧ (RM f1 0 ∧ mw f1 0 = cfin (refA (G.2.1 (F a 10))) (refT (G.2.1 (F a 10))) (refC (G.2.1 (F a 10))) ([(p0.toInt, p1.toInt, 0, 0)], rfil (mw (G.2.1 (F a 1)) 0) p0.toInt p1.toInt (-2000) 3)) ∧ l4_47.toInt = clT f0 f1 360) ∨ (p2.toInt = 2 ∧ AnsM ((G.1 a 6).toInt) l4_47.toInt (G.2.1 (F a 10)) (mw (G.2.1 (F a 1)) 0) (cfin (refA (G.2.1 (F a 10))) (refT (G.2.1 (F a 10))) (refC (G.2.1 (F a 10))) ([(p0.toInt, p1.toInt, 0, 0)], rfil (mw (G.2.1 (F a 1)) 0) p0.toInt p1.toInt (-2000) 3))))) := by
  first
    | (exfalso; omega)
    | exact Or.inr ⟨by omega, Or.inl ⟨by omega, _, _, ⟨oq29a, oq29⟩, ⟨oq35a, oq35⟩, by omega⟩⟩
    | exact Or.inr ⟨by omega, Or.inr (Or.inl ⟨by omega, _, _, ⟨oq29a, oq29⟩, ⟨oq35a, oq35⟩, by omega⟩)⟩
    | (rw [oq35] at oq141
       exact Or.inr ⟨by omega, Or.inr (Or.inr ⟨by omega, oq141⟩)⟩)
theorem v_X11_wouldCut_27_22 {F : Nat → Nat → Nat} (G2 : XG) (a : Nat) (G : XG)
    (c_G2_F_a_1 : G2.2.1 (F a 1) = G.2.1 (F a 1)) :
    mw (G2.2.1 (F a 1)) 0 = mw (G.2.1 (F a 1)) 0 := by
  rw [c_G2_F_a_1]
theorem v_X11_wouldCut_27_23 {F : Nat → Nat → Nat} (G : XG) (a : Nat) (G2 : XG)
    (hM : RM (G.2.1 (F a 1)) (0))
    (c_G2_F_a_1 : G2.2.1 (F a 1) = G.2.1 (F a 1)) :
    RM (G2.2.1 (F a 1)) 0 := by
  rw [c_G2_F_a_1]; exact hM
theorem v_X11_wouldCut_27_24 {K : Nat → Nat} {F : Nat → Nat → Nat} (a : Nat) (G : XG) (p0 : Int32) (p1 : Int32) (x8 : Int32) (x20 : Int32) (p2 : Int32)
    (ha : K a = 13)
    (z5 : ¬ (0 ≤ p0.toInt ∧ p0.toInt < 3 ∧ 0 ≤ p1.toInt ∧ p1.toInt < 30) → (cel (mw (G.2.1 (F a 1)) 0) (p0.toInt) (p1.toInt) 0) = -2000)
    (t8 : (x8.toInt = 1 ∧ (cel (mw (G.2.1 (F a 1)) 0) (p0.toInt) (p1.toInt) 0) ≠ -2000) ∨ (x8.toInt = 0 ∧ (cel (mw (G.2.1 (F a 1)) 0) (p0.toInt) (p1.toInt) 0) = -2000))
    (c11 : ¬ (x8.toInt = 0))
    (t20 : (x20.toInt = 1 ∧ (0 : Int) ≤ p2.toInt ∧ p2.toInt ≤ (2 : Int)) ∨ (x20.toInt = 0 ∧ (p2.toInt < (0 : Int) ∨ (2 : Int) < p2.toInt)))
    (c23 : ¬ (x20.toInt ≠ 0)) :
    (¬ (cel (mw (G.2.1 (F a 1)) 0) p0.toInt p1.toInt 0 ≠ -2000 ∧ 0 ≤ p2.toInt ∧ p2.toInt ≤ 2) ∧ (-1 : Int) = -1) ∨ ((cel (mw (G.2.1 (F a 1)) 0) p0.toInt p1.toInt 0 ≠ -2000 ∧ 0 ≤ p2.toInt ∧ p2.toInt ≤ 2) ∧ ((p2.toInt = 0 ∧ ∃ f0 f1 : Nat → Int32, (RM f0 0 ∧ mw f0 0 = (mw (G.2.1 (F a 1)) 0)) ∧ (RM f1 0 ∧ mw f1 0 = cfin (refA (G.2.1 (F a 10))) (refT (G.2.1 (F a 10))) (refC (G.2.1 (F a 10))) ([(p0.toInt, p1.toInt, 0, 0)], rfil (mw (G.2.1 (F a 1)) 0) p0.toInt p1.toInt (-2000) 3)) ∧ (-1 : Int) = rmT f0 360 - rmT f1 360) ∨ (p2.toInt = 1 ∧ ∃ f0 f1 : Nat → Int32, (RM f0 0 ∧ mw f0 0 = (mw (G.2.1 (F a 1)) 0)) ∧ (RM f1 0 ∧ mw f1 0 = cfin (refA (G.2.1 (F a 10))) (refT (G.2.1 (F a 10))) (refC (G.2.1 (F a 10))) ([(p0.toInt, p1.toInt, 0, 0)], rfil (mw (G.2.1 (F a 1)) 0) p0.toInt p1.toInt (-2000) 3)) ∧ (-1 : Int) = clT f0 f1 360) ∨ (p2.toInt = 2 ∧ AnsM ((G.1 a 6).toInt) (-1 : Int) (G.2.1 (F a 10)) (mw (G.2.1 (F a 1)) 0) (cfin (refA (G.2.1 (F a 10))) (refT (G.2.1 (F a 10))) (refC (G.2.1 (F a 10))) ([(p0.toInt, p1.toInt, 0, 0)], rfil (mw (G.2.1 (F a 1)) 0) p0.toInt p1.toInt (-2000) 3))))) := by
  exact Or.inl ⟨by omega, rfl⟩
