theorem z_X2_goOn_1 (a0 : Int) (h0 : 1 ≤ a0 ∧ a0 ≤ 90) : 0 < a0 := by omega
theorem z_X2_goOn_2 (a0 : Int) (a1 : Int) (h0 : 1 ≤ a1 ∧ a1 ≤ 90) (h1 : a0 = (a1 - (1 : Int)) ∨ (a1 - (1 : Int)) < -2147483648 ∨ 2147483648 ≤ (a1 - (1 : Int))) : a0 = (a1 - (1 : Int)) := by omega
theorem z_X2_goOn_3 (a0 : Int) (h0 : 1 ≤ a0 ∧ a0 ≤ 90) : 0 ≤ a0 ∧ a0 ≤ 90 := by omega
theorem z_X2_goOn_4 (a0 : Int) (h0 : 1 ≤ a0 ∧ a0 ≤ 90) : 0 ≤ (a0 - (1 : Int)) ∧ (a0 - (1 : Int)) < ((90 : Nat) : Int) := by omega
theorem z_X2_goOn_5 (a0 : Int) : (a0 - (1 : Int)) = a0 - 1 := by omega
theorem z_X2_goOn_10 (a0 : Int) (a1 : Int) (a2 : Int) (a3 : Int) (a4 : Int) (a5 : Int) (a6 : Int) (h0 : ((0 ≤ a2 ∧ a2 < 3) ∧ (0 ≤ a3 ∧ a3 < 30) ∧ (0 ≤ a4 ∧ a4 ≤ 12) ∧ (0 ≤ a5 ∧ a5 ≤ 30)) ∧ a1 + a6 ≤ 90) (h1 : a0 = (a4 + (1 : Int)) ∨ (a4 + (1 : Int)) < -2147483648 ∨ 2147483648 ≤ (a4 + (1 : Int))) : a0 = (a4 + (1 : Int)) := by omega
theorem z_X2_goOn_22 (a0 : Int) (a1 : Int) (a2 : Int) (a3 : Int) (a4 : Int) (a5 : Int) (h0 : ((0 ≤ a1 ∧ a1 < 3) ∧ (0 ≤ a2 ∧ a2 < 30) ∧ (0 ≤ a3 ∧ a3 ≤ 12) ∧ (0 ≤ a4 ∧ a4 ≤ 30)) ∧ a0 + a5 ≤ 90) (h1 : a3 < (12 : Int)) : 0 ≤ a3 ∧ a3 < 12 := by omega
theorem z_X2_goOn_27 (a0 : Int) (a1 : Int) (a2 : Int) (a3 : Int) (a4 : Int) (a5 : Int) (h0 : ((0 ≤ a1 ∧ a1 < 3) ∧ (0 ≤ a2 ∧ a2 < 30) ∧ (0 ≤ a3 ∧ a3 ≤ 12) ∧ (0 ≤ a4 ∧ a4 ≤ 30)) ∧ a0 + a5 ≤ 90) : 0 ≤ a4 ∧ a4 ≤ 30 := by omega
theorem z_X2_goOn_34 (a0 : Int) (a1 : Int) (h0 : -1 ≤ a0 ∧ a0 < 30) (h1 : a1 = (a0 + (1 : Int)) ∨ (a0 + (1 : Int)) < -2147483648 ∨ 2147483648 ≤ (a0 + (1 : Int))) : a1 = (a0 + (1 : Int)) := by omega
theorem z_X2_goOn_36 (a0 : Int) (a1 : Int) (a2 : Int) (h0 : (0 ≤ a1 ∧ a1 ≤ 2) ∧ (0 ≤ a2 ∧ a2 ≤ 2)) (h1 : -1 ≤ a0 ∧ a0 < 30) (h2 : ¬ (a0 = (-1 : Int))) : 0 ≤ a1 ∧ a1 < 3 ∧ 0 ≤ a0 ∧ a0 < 30 := by omega
theorem z_X2_goOn_37 (a0 : Int) (a1 : Int) (a2 : Int) (a3 : Int) (a4 : Int) (a5 : Int) (h0 : 1 ≤ a0 ∧ a0 ≤ 90) (h1 : ((0 ≤ a1 ∧ a1 < 3) ∧ (0 ≤ a2 ∧ a2 < 30) ∧ (0 ≤ a3 ∧ a3 ≤ 12) ∧ (0 ≤ a4 ∧ a4 ≤ 30)) ∧ a0 + a5 ≤ 90) (h2 : 1 ≤ a5) : 0 ≤ a0 ∧ a0 < 90 := by omega
theorem z_X2_goOn_38 (a0 : Int) (a1 : Int) (a2 : Int) (a3 : Int) (a4 : Int) (a5 : Int) (a6 : Int) (h0 : 1 ≤ a0 ∧ a0 ≤ 90) (h1 : ((0 ≤ a2 ∧ a2 < 3) ∧ (0 ≤ a3 ∧ a3 < 30) ∧ (0 ≤ a4 ∧ a4 ≤ 12) ∧ (0 ≤ a5 ∧ a5 ≤ 30)) ∧ a0 + a6 ≤ 90) (h2 : 1 ≤ a6) (h3 : a1 = a0 + 1) : 0 ≤ a1 ∧ a1 ≤ 90 := by omega
theorem z_X2_goOn_41 (a0 : Int) (a1 : Int) (a2 : Int) (a3 : Int) (a4 : Int) (a5 : Int) (h0 : ((0 ≤ a1 ∧ a1 < 3) ∧ (0 ≤ a2 ∧ a2 < 30) ∧ (0 ≤ a3 ∧ a3 ≤ 12) ∧ (0 ≤ a4 ∧ a4 ≤ 30)) ∧ a0 + a5 ≤ 90) : 0 ≤ a2 ∧ a2 < 30 := by omega
theorem z_X2_goOn_49 (a0 : Int) (h0 : 1 ≤ a0 ∧ a0 ≤ 90) : 0 ≤ (a0 - (1 : Int)) ∧ (a0 - (1 : Int)) ≤ 90 := by omega
abbrev rm_X2_goOn : Room := { frames := 4, cells := 0, slots := 0, locals := 90 }
set_option maxHeartbeats 4000000 in
set_option maxRecDepth 100000 in
theorem c_X2_goOn (l : Launch) (E : XE) (K : Nat → Nat) (F : Nat → Nat → Nat) (G : XG) (a : Nat) (p0 : Nat) (p1 : Nat) (ha : K a = 4) (hp0 : K p0 = 8) (hp1 : K p1 = 2) (e0 : 1 ≤ ((G.1 a 4).toInt) ∧ ((G.1 a 4).toInt) ≤ 90) (hro : RO (vw (G.2.1 (F p0 0))) (aI (G.2.1 (F p0 1)))) (bkn : BKr K G (G.2.2.1 (F p1 0))) (hac : ACo G (G.2.2.1 (F p1 0))) (hiv : CIv (gst (G.2.1 (F a 0)) (G.2.1 (F a 1)) (G.2.1 (F a 2)) (G.2.1 (F a 3)) (Int.toNat (((G.1 a 4).toInt))), (vw (G.2.1 (F p0 0))))) (hcz : CZ (clsA G (G.2.2.1 (F p1 0))) (gst (G.2.1 (F a 0)) (G.2.1 (F a 1)) (G.2.1 (F a 2)) (G.2.1 (F a 3)) (Int.toNat (((G.1 a 4).toInt))), (vw (G.2.1 (F p0 0)))).1) : Met l yX2_goOn (xw yX2_goOn cX2_goOn 6 none) rm_X2_goOn (va_Pc [.ref a, .ref p0, .ref p1] (XP E K F G)) (XQv E (fun (u : XG) => XFr [(a, 4)] [F a 0, F a 1, F a 2, F a 3, F p0 0, F p0 1] [] G u ∧ (0 ≤ ((u.1 a 4).toInt) ∧ ((u.1 a 4).toInt) ≤ 90) ∧ (CGo (clsA G (G.2.2.1 (F p1 0))) (clsT G (G.2.2.1 (F p1 0))) (clsC G (G.2.2.1 (F p1 0))) (gst (G.2.1 (F a 0)) (G.2.1 (F a 1)) (G.2.1 (F a 2)) (G.2.1 (F a 3)) (Int.toNat (((G.1 a 4).toInt))), (vw (G.2.1 (F p0 0)))) (gst (u.2.1 (F a 0)) (u.2.1 (F a 1)) (u.2.1 (F a 2)) (u.2.1 (F a 3)) (Int.toNat (((u.1 a 4).toInt))), (vw (u.2.1 (F p0 0))))) ∧ (RO (vw (u.2.1 (F p0 0))) (aI (u.2.1 (F p0 1))))) (fun u H => TW E K F u H)) 0 0 (xA E) := by
  refine x_enter (by decide) (Nat.le_of_ble_eq_true rfl) ?_
  intro p e s m args below meth c Q S hr hlk hnm hQ hP ls hl
  obtain ⟨hz, hK, hT⟩ := hP
  obtain ⟨hx, hb, -, -, -⟩ := id S
  obtain ⟨H, hT, hS, hgo⟩ : ∃ H : Heap, TW E K F G H ∧ va_S (xA E) s.heap H [] ∧ H = s.heap := ⟨_, hT, va_S.rf, rfl⟩
  rw [← hgo]
  have hl : lv_has ls 6 [(0, .ref a), (1, .ref p0), (2, .ref p1)] := hl
  obtain ⟨hk9999, hj9999⟩ := fkX2_0 hT ha
  obtain ⟨hk9999a, hj9999a⟩ := fkX2_1 hT ha
  obtain ⟨hk9999b, hj9999b⟩ := fkX2_2 hT ha
  obtain ⟨hk9999c, hj9999c⟩ := fkX2_3 hT ha
  obtain ⟨hk9999d, hj9999d⟩ := fkX6_0 hT hp0
  obtain ⟨hk9999e, hj9999e⟩ := fkX6_1 hT hp0
  obtain ⟨hk9999f, hj9999f⟩ := fkX0_0 hT hp1
  have z0 : ((0 ≤ (aI (G.2.1 (F a 0)) (((G.1 a 4).toInt) - 1)) ∧ (aI (G.2.1 (F a 0)) (((G.1 a 4).toInt) - 1)) < 3) ∧ (0 ≤ (aI (G.2.1 (F a 1)) (((G.1 a 4).toInt) - 1)) ∧ (aI (G.2.1 (F a 1)) (((G.1 a 4).toInt) - 1)) < 30) ∧ (0 ≤ (aI (G.2.1 (F a 2)) (((G.1 a 4).toInt) - 1)) ∧ (aI (G.2.1 (F a 2)) (((G.1 a 4).toInt) - 1)) ≤ 12) ∧ (0 ≤ (aI (G.2.1 (F a 3)) (((G.1 a 4).toInt) - 1)) ∧ (aI (G.2.1 (F a 3)) (((G.1 a 4).toInt) - 1)) ≤ 30)) ∧ ((G.1 a 4).toInt) + (pn (vw (G.2.1 (F p0 0)))) ≤ 90 := gst_top (z_X2_goOn_1 ((G.1 a 4).toInt) e0) hiv
  refine lv_aload_n hx hb dX2_goOn_0 rfl (lv_at hl 0 rfl) ?_
  refine gX2_4 S hK hT ha kf_X2_24 dX2_goOn_1 (v := (G.1 a 4)) rfl (?_)
  refine lv_iconst (v := 1) hx hb dX2_goOn_4 (by decide) ?_
  refine xi_isub hx hb (rfl : Int32.toInt (G.1 a 4) = ((G.1 a 4).toInt)) ((by decide) : Int32.toInt 1 = (1 : Int)) dX2_goOn_5 (fun x5 t5 => ?_)
  have e5 : x5.toInt = (((G.1 a 4).toInt) - (1 : Int)) := (z_X2_goOn_2 x5.toInt ((G.1 a 4).toInt) e0 t5)
  refine lv_istore_n (lv' := [(3, .int x5), (0, .ref a), (1, .ref p0), (2, .ref p1)]) hx hb dX2_goOn_6 rfl hl (by decide) rfl (fun ls hl => ?_)
  refine lv_iload_n hx hb dX2_goOn_7 rfl (lv_at hl 0 rfl) ?_
  refine xi_zlt (tgt := 17) hx hb (e5 : Int32.toInt x5 = (((G.1 a 4).toInt) - (1 : Int))) dX2_goOn_8 (by decide) (fun c8 => ?_) (fun c8 => ?_)
  · exact x_rv hx hb hr hlk hQ (Nat.le_of_ble_eq_true rfl) (Nat.le_of_ble_eq_true rfl) hS dX2_goOn_17 G ⟨XFr.rf, (z_X2_goOn_3 ((G.1 a 4).toInt) e0), (v_X2_goOn_17_1 (K := K) (F := F) a p0 p1 G ha hp0 hp1 hcz e0 z0 c8), (v_X2_goOn_17_2 (K := K) (F := F) a p0 p1 G ha hp0 hp1 hcz e0 z0 c8)⟩ hT
  · refine lv_iload_n hx hb dX2_goOn_11 rfl (lv_at hl 0 rfl) ?_
    refine lv_bipush (v := 90) hx hb dX2_goOn_12 (by decide) ?_
    refine xi_clt (tgt := 18) hx hb (e5 : Int32.toInt x5 = (((G.1 a 4).toInt) - (1 : Int))) ((by decide) : Int32.toInt 90 = (90 : Int)) dX2_goOn_14 (by decide) (fun c14 => ?_) (fun c14 => ?_)
    · refine lv_aload_n hx hb dX2_goOn_18 rfl (lv_at hl 1 rfl) ?_
      refine gX2_2 S hK hT ha kf_X2_18 dX2_goOn_19 (fun _ _ => ?_)
      refine lv_iload_n hx hb dX2_goOn_22 rfl (lv_at hl 0 rfl) ?_
      refine al_0 S hK hT hk9999b ar_24 (by decide) (by rw [(e5 : Int32.toInt x5 = (((G.1 a 4).toInt) - (1 : Int)))]; exact (z_X2_goOn_4 ((G.1 a 4).toInt) e0)) dX2_goOn_23 (fun x23 hv23 o23 => ?_)
      have hv23 : x23.toInt = (aI (G.2.1 (F a 2)) (((G.1 a 4).toInt) - 1)) := hv23.trans (by rw [((e5 : Int32.toInt x5 = (((G.1 a 4).toInt) - (1 : Int))).trans (z_X2_goOn_5 ((G.1 a 4).toInt)))])
      refine lv_bipush (v := 12) hx hb dX2_goOn_24 (by decide) ?_
      refine xi_clt (tgt := 40) hx hb (hv23 : Int32.toInt x23 = (aI (G.2.1 (F a 2)) (((G.1 a 4).toInt) - 1))) ((by decide) : Int32.toInt 12 = (12 : Int)) dX2_goOn_26 (by decide) (fun c26 => ?_) (fun c26 => ?_)
      · refine lv_aload_n hx hb dX2_goOn_40 rfl (lv_at hl 3 rfl) ?_
        refine lv_aload_n hx hb dX2_goOn_41 rfl (lv_at hl 1 rfl) ?_
        refine gX2_2 S hK hT ha kf_X2_18 dX2_goOn_42 (fun _ _ => ?_)
        refine lv_iload_n hx hb dX2_goOn_45 rfl (lv_at hl 0 rfl) ?_
        refine al_0 S hK hT hk9999b ar_24 (by decide) (by rw [(e5 : Int32.toInt x5 = (((G.1 a 4).toInt) - (1 : Int)))]; exact (z_X2_goOn_4 ((G.1 a 4).toInt) e0)) dX2_goOn_46 (fun x46 hv46 o46 => ?_)
        have hv46 : x46.toInt = (aI (G.2.1 (F a 2)) (((G.1 a 4).toInt) - 1)) := hv46.trans (by rw [((e5 : Int32.toInt x5 = (((G.1 a 4).toInt) - (1 : Int))).trans (z_X2_goOn_5 ((G.1 a 4).toInt)))])
        refine x_clp (x_runV (b := p1) (As := [.int x46]) (rest := []) S (c_X0_get l E K F G H p1 x46 hp1) mv_X0_get km_X2_42 rfl rfl ⟨Nat.le_of_ble_eq_true rfl, Nat.le_of_ble_eq_true rfl⟩ (rc_2 hK hT hp1) hK (fun _ => XPh.blind) (fun U hU hW => XPh.at hK hz hS hT hU hW) rfl hl.1 (Nat.le_of_ble_eq_true rfl) dX2_goOn_47 ⟨Nat.le_of_ble_eq_true rfl, Nat.le_of_ble_eq_true rfl⟩) hS ?_
        rintro _ _ locs (⟨rfl, hn47⟩ | ⟨q47, rfl, hk47, ht47, hs47⟩) hS
        · have hn47 : ((aI (G.2.1 (F a 2)) (((G.1 a 4).toInt) - 1)) < 0 ∨ 12 ≤ (aI (G.2.1 (F a 2)) (((G.1 a 4).toInt) - 1))) ∨ G.2.2.1 (F p1 0) ((aI (G.2.1 (F a 2)) (((G.1 a 4).toInt) - 1))).toNat = none := by rw [(hv46 : Int32.toInt x46 = (aI (G.2.1 (F a 2)) (((G.1 a 4).toInt) - 1)))] at hn47; exact hn47
          refine lv_astoreN (lv' := [(4, .null), (3, .int x5), (0, .ref a), (1, .ref p0), (2, .ref p1)]) hx hb dX2_goOn_50 hl (by decide) rfl (fun ls hl => ?_)
          refine lv_aloadN hx hb dX2_goOn_52 (lv_at hl 0 rfl) ?_
          refine lv_ifnullN (tgt := 147) hx hb dX2_goOn_54 (by decide) ?_
          refine lv_aload_n hx hb dX2_goOn_147 rfl (lv_at hl 2 rfl) ?_
          refine gX2_2 S hK hT ha kf_X2_18 dX2_goOn_148 (fun _ _ => ?_)
          refine lv_iload_n hx hb dX2_goOn_151 rfl (lv_at hl 1 rfl) ?_
          refine lv_dup2_11 hx hb dX2_goOn_152 rfl rfl ?_
          refine al_0 S hK hT hk9999b ar_24 (by decide) (by rw [(e5 : Int32.toInt x5 = (((G.1 a 4).toInt) - (1 : Int)))]; exact (z_X2_goOn_4 ((G.1 a 4).toInt) e0)) dX2_goOn_153 (fun x153 hv153 o153 => ?_)
          have hv153 : x153.toInt = (aI (G.2.1 (F a 2)) (((G.1 a 4).toInt) - 1)) := hv153.trans (by rw [((e5 : Int32.toInt x5 = (((G.1 a 4).toInt) - (1 : Int))).trans (z_X2_goOn_5 ((G.1 a 4).toInt)))])
          refine lv_iconst (v := 1) hx hb dX2_goOn_154 (by decide) ?_
          refine xi_iadd hx hb (hv153 : Int32.toInt x153 = (aI (G.2.1 (F a 2)) (((G.1 a 4).toInt) - 1))) ((by decide) : Int32.toInt 1 = (1 : Int)) dX2_goOn_155 (fun x155 t155 => ?_)
          have e155 : x155.toInt = ((aI (G.2.1 (F a 2)) (((G.1 a 4).toInt) - 1)) + (1 : Int)) := (z_X2_goOn_10 x155.toInt ((G.1 a 4).toInt) (aI (G.2.1 (F a 0)) (((G.1 a 4).toInt) - 1)) (aI (G.2.1 (F a 1)) (((G.1 a 4).toInt) - 1)) (aI (G.2.1 (F a 2)) (((G.1 a 4).toInt) - 1)) (aI (G.2.1 (F a 3)) (((G.1 a 4).toInt) - 1)) (pn (vw (G.2.1 (F p0 0)))) z0 t155)
          refine as_0 (x := x155) S hK hT hS hk9999b ar_24 aw_24 (by decide) (by rw [(e5 : Int32.toInt x5 = (((G.1 a 4).toInt) - (1 : Int)))]; exact (z_X2_goOn_4 ((G.1 a 4).toInt) e0)) dX2_goOn_156 (fun H locs hT hS => ?_)
          obtain ⟨G156, hG156⟩ : ∃ GG : XG, GG = cput G (F a 2) x5.toNatClampNeg x155 := ⟨_, rfl⟩
          rw [← hG156] at hT
          refine lv_aload_n hx hb dX2_goOn_157 rfl (lv_at hl 2 rfl) ?_
          refine gX2_3 S hK hT ha kf_X2_21 dX2_goOn_158 (fun _ _ => ?_)
          refine lv_iload_n hx hb dX2_goOn_161 rfl (lv_at hl 1 rfl) ?_
          refine lv_iconst (v := 0) hx hb dX2_goOn_162 (by decide) ?_
          refine as_0 (x := 0) S hK hT hS hk9999c ar_24 aw_24 (by decide) (by rw [(e5 : Int32.toInt x5 = (((G.1 a 4).toInt) - (1 : Int)))]; exact (z_X2_goOn_4 ((G.1 a 4).toInt) e0)) dX2_goOn_163 (fun H locs hT hS => ?_)
          obtain ⟨G163, hG163⟩ : ∃ GG : XG, GG = cput G156 (F a 3) x5.toNatClampNeg 0 := ⟨_, rfl⟩
          rw [← hG163] at hT
          exact x_rv hx hb hr hlk hQ (Nat.le_of_ble_eq_true rfl) (Nat.le_of_ble_eq_true rfl) hS dX2_goOn_164 G163 ⟨(by rw [hG163]; exact XFr.cput (by rw [hG156]; exact XFr.cput XFr.rf (List.mem_of_getElem? (i := 2) rfl)) (List.mem_of_getElem? (i := 3) rfl)), (by rw [(show (G163.1 a 4).toInt = ((G.1 a 4).toInt) from (congrArg Int32.toInt ((lc_d hG163).trans (lc_d hG156))).trans (rfl : Int32.toInt (G.1 a 4) = ((G.1 a 4).toInt)))] <;> exact (z_X2_goOn_3 ((G.1 a 4).toInt) e0)), (v_X2_goOn_164_3 (K := K) (F := F) a p0 p1 G156 G x5 x155 G163 ha hp0 hp1 hG156 hG163 bkn hiv hcz e5 hn47 e155 e0 z0 c8 c14 c26 (lc_c hG156 (xne_j hj9999c hj9999b (by first | decide | omega))) ((lc_c hG163 (xne_j hj9999 hj9999c (by first | decide | omega))).trans (lc_c hG156 (xne_j hj9999 hj9999b (by first | decide | omega)))) ((lc_c hG163 (xne_j hj9999a hj9999c (by first | decide | omega))).trans (lc_c hG156 (xne_j hj9999a hj9999b (by first | decide | omega)))) (lc_c hG163 (xne_j hj9999b hj9999c (by first | decide | omega))) ((lc_c hG163 (xne_k hk9999d hk9999c (by decide))).trans (lc_c hG156 (xne_k hk9999d hk9999b (by decide)))) ((lc_d hG163).trans (lc_d hG156))), (v_X2_goOn_164_4 (F := F) p0 G G163 hro ((lc_c hG163 (xne_k hk9999d hk9999c (by decide))).trans (lc_c hG156 (xne_k hk9999d hk9999b (by decide)))) ((lc_c hG163 (xne_k hk9999e hk9999c (by decide))).trans (lc_c hG156 (xne_k hk9999e hk9999b (by decide)))))⟩ hT
        · have ht47 : 0 ≤ (aI (G.2.1 (F a 2)) (((G.1 a 4).toInt) - 1)) ∧ (aI (G.2.1 (F a 2)) (((G.1 a 4).toInt) - 1)) < 12 := by rw [(hv46 : Int32.toInt x46 = (aI (G.2.1 (F a 2)) (((G.1 a 4).toInt) - 1)))] at ht47; exact ht47
          have hs47 : G.2.2.1 (F p1 0) ((aI (G.2.1 (F a 2)) (((G.1 a 4).toInt) - 1))).toNat = some q47 := by rw [(hv46 : Int32.toInt x46 = (aI (G.2.1 (F a 2)) (((G.1 a 4).toInt) - 1)))] at hs47; exact hs47
          refine lv_astore (lv' := [(4, .ref q47), (3, .int x5), (0, .ref a), (1, .ref p0), (2, .ref p1)]) hx hb dX2_goOn_50 hl (by decide) rfl (fun ls hl => ?_)
          refine lv_aload hx hb dX2_goOn_52 (lv_at hl 0 rfl) ?_
          refine lv_ifnull hx hb dX2_goOn_54 ?_
          refine lv_aload hx hb dX2_goOn_57 (lv_at hl 0 rfl) ?_
          refine lv_aload_n hx hb dX2_goOn_59 rfl (lv_at hl 2 rfl) ?_
          refine gX2_0 S hK hT ha kf_X2_11 dX2_goOn_60 (fun _ _ => ?_)
          refine lv_iload_n hx hb dX2_goOn_63 rfl (lv_at hl 1 rfl) ?_
          refine al_0 S hK hT hk9999 ar_24 (by decide) (by rw [(e5 : Int32.toInt x5 = (((G.1 a 4).toInt) - (1 : Int)))]; exact (z_X2_goOn_4 ((G.1 a 4).toInt) e0)) dX2_goOn_64 (fun x64 hv64 o64 => ?_)
          have hv64 : x64.toInt = (aI (G.2.1 (F a 0)) (((G.1 a 4).toInt) - 1)) := hv64.trans (by rw [((e5 : Int32.toInt x5 = (((G.1 a 4).toInt) - (1 : Int))).trans (z_X2_goOn_5 ((G.1 a 4).toInt)))])
          refine x_clp (x_runV (b := q47) (As := [.int x64]) (rest := []) S (c_X7_follows l E K F G H q47 x64 hk47) mv_X7_follows km_X2_48 rfl rfl ⟨Nat.le_of_ble_eq_true rfl, Nat.le_of_ble_eq_true rfl⟩ (rc_9 hK hT hk47) hK (fun _ => XPh.blind) (fun U hU hW => XPh.at hK hz hS hT hU hW) rfl hl.1 (Nat.le_of_ble_eq_true rfl) dX2_goOn_65 ⟨Nat.le_of_ble_eq_true rfl, Nat.le_of_ble_eq_true rfl⟩) hS ?_
          rintro _ _ locs ⟨x65, rfl, b65, t65⟩ hS
          have t65 : ((((G.1 q47 0).toInt) = 1 ∧ ((G.1 q47 4).toInt) = (aI (G.2.1 (F a 0)) (((G.1 a 4).toInt) - 1)) ∧ ((G.1 q47 7).toInt) ≠ 0) ∧ x65.toInt = 1) ∨ (¬ (((G.1 q47 0).toInt) = 1 ∧ ((G.1 q47 4).toInt) = (aI (G.2.1 (F a 0)) (((G.1 a 4).toInt) - 1)) ∧ ((G.1 q47 7).toInt) ≠ 0) ∧ x65.toInt = 0) := by rw [(hv64 : Int32.toInt x64 = (aI (G.2.1 (F a 0)) (((G.1 a 4).toInt) - 1)))] at t65; exact t65
          refine xi_zeq (tgt := 147) hx hb (rfl : Int32.toInt x65 = x65.toInt) dX2_goOn_68 (by decide) (fun c68 => ?_) (fun c68 => ?_)
          · refine lv_aload_n hx hb dX2_goOn_147 rfl (lv_at hl 2 rfl) ?_
            refine gX2_2 S hK hT ha kf_X2_18 dX2_goOn_148 (fun _ _ => ?_)
            refine lv_iload_n hx hb dX2_goOn_151 rfl (lv_at hl 1 rfl) ?_
            refine lv_dup2_11 hx hb dX2_goOn_152 rfl rfl ?_
            refine al_0 S hK hT hk9999b ar_24 (by decide) (by rw [(e5 : Int32.toInt x5 = (((G.1 a 4).toInt) - (1 : Int)))]; exact (z_X2_goOn_4 ((G.1 a 4).toInt) e0)) dX2_goOn_153 (fun x153 hv153 o153 => ?_)
            have hv153 : x153.toInt = (aI (G.2.1 (F a 2)) (((G.1 a 4).toInt) - 1)) := hv153.trans (by rw [((e5 : Int32.toInt x5 = (((G.1 a 4).toInt) - (1 : Int))).trans (z_X2_goOn_5 ((G.1 a 4).toInt)))])
            refine lv_iconst (v := 1) hx hb dX2_goOn_154 (by decide) ?_
            refine xi_iadd hx hb (hv153 : Int32.toInt x153 = (aI (G.2.1 (F a 2)) (((G.1 a 4).toInt) - 1))) ((by decide) : Int32.toInt 1 = (1 : Int)) dX2_goOn_155 (fun x155 t155 => ?_)
            have e155 : x155.toInt = ((aI (G.2.1 (F a 2)) (((G.1 a 4).toInt) - 1)) + (1 : Int)) := (z_X2_goOn_10 x155.toInt ((G.1 a 4).toInt) (aI (G.2.1 (F a 0)) (((G.1 a 4).toInt) - 1)) (aI (G.2.1 (F a 1)) (((G.1 a 4).toInt) - 1)) (aI (G.2.1 (F a 2)) (((G.1 a 4).toInt) - 1)) (aI (G.2.1 (F a 3)) (((G.1 a 4).toInt) - 1)) (pn (vw (G.2.1 (F p0 0)))) z0 t155)
            refine as_0 (x := x155) S hK hT hS hk9999b ar_24 aw_24 (by decide) (by rw [(e5 : Int32.toInt x5 = (((G.1 a 4).toInt) - (1 : Int)))]; exact (z_X2_goOn_4 ((G.1 a 4).toInt) e0)) dX2_goOn_156 (fun H locs hT hS => ?_)
            obtain ⟨G156, hG156⟩ : ∃ GG : XG, GG = cput G (F a 2) x5.toNatClampNeg x155 := ⟨_, rfl⟩
            rw [← hG156] at hT
            refine lv_aload_n hx hb dX2_goOn_157 rfl (lv_at hl 2 rfl) ?_
            refine gX2_3 S hK hT ha kf_X2_21 dX2_goOn_158 (fun _ _ => ?_)
            refine lv_iload_n hx hb dX2_goOn_161 rfl (lv_at hl 1 rfl) ?_
            refine lv_iconst (v := 0) hx hb dX2_goOn_162 (by decide) ?_
            refine as_0 (x := 0) S hK hT hS hk9999c ar_24 aw_24 (by decide) (by rw [(e5 : Int32.toInt x5 = (((G.1 a 4).toInt) - (1 : Int)))]; exact (z_X2_goOn_4 ((G.1 a 4).toInt) e0)) dX2_goOn_163 (fun H locs hT hS => ?_)
            obtain ⟨G163, hG163⟩ : ∃ GG : XG, GG = cput G156 (F a 3) x5.toNatClampNeg 0 := ⟨_, rfl⟩
            rw [← hG163] at hT
            exact x_rv hx hb hr hlk hQ (Nat.le_of_ble_eq_true rfl) (Nat.le_of_ble_eq_true rfl) hS dX2_goOn_164 G163 ⟨(by rw [hG163]; exact XFr.cput (by rw [hG156]; exact XFr.cput XFr.rf (List.mem_of_getElem? (i := 2) rfl)) (List.mem_of_getElem? (i := 3) rfl)), (by rw [(show (G163.1 a 4).toInt = ((G.1 a 4).toInt) from (congrArg Int32.toInt ((lc_d hG163).trans (lc_d hG156))).trans (rfl : Int32.toInt (G.1 a 4) = ((G.1 a 4).toInt)))] <;> exact (z_X2_goOn_3 ((G.1 a 4).toInt) e0)), (v_X2_goOn_164_5 (K := K) (F := F) a p0 p1 q47 G156 G x5 x155 G163 x65 ha hp0 hp1 hG156 hG163 bkn hac hiv hcz e5 hs47 e155 e0 z0 c8 c14 c26 ht47 t65 c68 (lc_c hG156 (xne_j hj9999c hj9999b (by first | decide | omega))) ((lc_c hG163 (xne_j hj9999 hj9999c (by first | decide | omega))).trans (lc_c hG156 (xne_j hj9999 hj9999b (by first | decide | omega)))) ((lc_c hG163 (xne_j hj9999a hj9999c (by first | decide | omega))).trans (lc_c hG156 (xne_j hj9999a hj9999b (by first | decide | omega)))) (lc_c hG163 (xne_j hj9999b hj9999c (by first | decide | omega))) ((lc_c hG163 (xne_k hk9999d hk9999c (by decide))).trans (lc_c hG156 (xne_k hk9999d hk9999b (by decide)))) ((lc_d hG163).trans (lc_d hG156))), (v_X2_goOn_164_6 (F := F) p0 G G163 hro ((lc_c hG163 (xne_k hk9999d hk9999c (by decide))).trans (lc_c hG156 (xne_k hk9999d hk9999b (by decide)))) ((lc_c hG163 (xne_k hk9999e hk9999c (by decide))).trans (lc_c hG156 (xne_k hk9999e hk9999b (by decide)))))⟩ hT
          · have z71 : (0 ≤ ((G.1 q47 2).toInt) ∧ ((G.1 q47 2).toInt) ≤ 2) ∧ (0 ≤ ((G.1 q47 3).toInt) ∧ ((G.1 q47 3).toInt) ≤ 2) := (fun h => ⟨h.2.1, h.2.2.1⟩) (bkn _ q47 (toNat_lt12 (z_X2_goOn_22 ((G.1 a 4).toInt) (aI (G.2.1 (F a 0)) (((G.1 a 4).toInt) - 1)) (aI (G.2.1 (F a 1)) (((G.1 a 4).toInt) - 1)) (aI (G.2.1 (F a 2)) (((G.1 a 4).toInt) - 1)) (aI (G.2.1 (F a 3)) (((G.1 a 4).toInt) - 1)) (pn (vw (G.2.1 (F p0 0)))) z0 c26)) hs47).2.f
            refine lv_aload hx hb dX2_goOn_71 (lv_at hl 0 rfl) ?_
            refine gX7_7 S hK hT hk47 kf_X2_54 dX2_goOn_73 (v := (G.1 q47 7)) rfl (?_)
            refine lv_iconst (v := 2) hx hb dX2_goOn_76 (by decide) ?_
            refine xi_cne (tgt := 98) hx hb (rfl : Int32.toInt (G.1 q47 7) = ((G.1 q47 7).toInt)) ((by decide) : Int32.toInt 2 = (2 : Int)) dX2_goOn_77 (by decide) (fun c77 => ?_) (fun c77 => ?_)
            · refine lv_aload_n hx hb dX2_goOn_98 rfl (lv_at hl 3 rfl) ?_
              refine lv_aload hx hb dX2_goOn_99 (lv_at hl 0 rfl) ?_
              refine lv_aload_n hx hb dX2_goOn_101 rfl (lv_at hl 2 rfl) ?_
              refine gX2_3 S hK hT ha kf_X2_21 dX2_goOn_102 (fun _ _ => ?_)
              refine lv_iload_n hx hb dX2_goOn_105 rfl (lv_at hl 1 rfl) ?_
              refine al_0 S hK hT hk9999c ar_24 (by decide) (by rw [(e5 : Int32.toInt x5 = (((G.1 a 4).toInt) - (1 : Int)))]; exact (z_X2_goOn_4 ((G.1 a 4).toInt) e0)) dX2_goOn_106 (fun x106 hv106 o106 => ?_)
              have hv106 : x106.toInt = (aI (G.2.1 (F a 3)) (((G.1 a 4).toInt) - 1)) := hv106.trans (by rw [((e5 : Int32.toInt x5 = (((G.1 a 4).toInt) - (1 : Int))).trans (z_X2_goOn_5 ((G.1 a 4).toInt)))])
              refine lv_aload_n hx hb dX2_goOn_107 rfl (lv_at hl 2 rfl) ?_
              refine gX2_1 S hK hT ha kf_X2_15 dX2_goOn_108 (fun _ _ => ?_)
              refine lv_iload_n hx hb dX2_goOn_111 rfl (lv_at hl 1 rfl) ?_
              refine al_0 S hK hT hk9999a ar_24 (by decide) (by rw [(e5 : Int32.toInt x5 = (((G.1 a 4).toInt) - (1 : Int)))]; exact (z_X2_goOn_4 ((G.1 a 4).toInt) e0)) dX2_goOn_112 (fun x112 hv112 o112 => ?_)
              have hv112 : x112.toInt = (aI (G.2.1 (F a 1)) (((G.1 a 4).toInt) - 1)) := hv112.trans (by rw [((e5 : Int32.toInt x5 = (((G.1 a 4).toInt) - (1 : Int))).trans (z_X2_goOn_5 ((G.1 a 4).toInt)))])
              refine x_clp (x_runS (As := [.ref p0, .ref q47, .int x106, .int x112]) (rest := []) S (c_X2_nextWith l E K F G H p0 q47 x106 x112 hp0 hk47 (by rw [(hv106 : Int32.toInt x106 = (aI (G.2.1 (F a 3)) (((G.1 a 4).toInt) - 1)))] <;> exact (z_X2_goOn_27 ((G.1 a 4).toInt) (aI (G.2.1 (F a 0)) (((G.1 a 4).toInt) - 1)) (aI (G.2.1 (F a 1)) (((G.1 a 4).toInt) - 1)) (aI (G.2.1 (F a 2)) (((G.1 a 4).toInt) - 1)) (aI (G.2.1 (F a 3)) (((G.1 a 4).toInt) - 1)) (pn (vw (G.2.1 (F p0 0)))) z0)) (v_X2_goOn_113_7 (K := K) (F := F) a p0 p1 q47 G x65 ha hp0 hp1 bkn hcz hs47 e0 z0 c8 c14 c26 ht47 t65 c68 z71 c77)) ms_X2_nextWith km_X2_79 rfl rfl ⟨Nat.le_of_ble_eq_true rfl, Nat.le_of_ble_eq_true rfl⟩ hK (fun _ => XPh.blind) (fun U hU hW => XPh.at hK hz hS hT hU hW) rfl hl.1 (Nat.le_of_ble_eq_true rfl) dX2_goOn_113 ⟨Nat.le_of_ble_eq_true rfl, Nat.le_of_ble_eq_true rfl⟩) hS ?_
              rintro _ _ locs ⟨x113, rfl, t113, oq113⟩ hS
              have t113 : -1 ≤ x113.toInt ∧ x113.toInt < 30 := t113
              have oq113 : (x113.toInt = -1 ∧ ∀ j : Int, (aI (G.2.1 (F a 3)) (((G.1 a 4).toInt) - 1)) ≤ j → j < 30 → cel (vw (G.2.1 (F p0 0))) ((G.1 q47 2).toInt) j ((G.1 q47 3).toInt) ≠ (aI (G.2.1 (F a 1)) (((G.1 a 4).toInt) - 1))) ∨ (((aI (G.2.1 (F a 3)) (((G.1 a 4).toInt) - 1)) ≤ x113.toInt ∧ x113.toInt < 30) ∧ cel (vw (G.2.1 (F p0 0))) ((G.1 q47 2).toInt) x113.toInt ((G.1 q47 3).toInt) = (aI (G.2.1 (F a 1)) (((G.1 a 4).toInt) - 1)) ∧ ∀ j : Int, (aI (G.2.1 (F a 3)) (((G.1 a 4).toInt) - 1)) ≤ j → j < x113.toInt → cel (vw (G.2.1 (F p0 0))) ((G.1 q47 2).toInt) j ((G.1 q47 3).toInt) ≠ (aI (G.2.1 (F a 1)) (((G.1 a 4).toInt) - 1))) := by simp only [(hv106 : Int32.toInt x106 = (aI (G.2.1 (F a 3)) (((G.1 a 4).toInt) - 1))), (hv112 : Int32.toInt x112 = (aI (G.2.1 (F a 1)) (((G.1 a 4).toInt) - 1)))] at oq113; exact oq113
              refine lv_istore (lv' := [(5, .int x113), (4, .ref q47), (3, .int x5), (0, .ref a), (1, .ref p0), (2, .ref p1)]) hx hb dX2_goOn_116 hl (by decide) rfl (fun ls hl => ?_)
              refine lv_iload hx hb dX2_goOn_118 (lv_at hl 0 rfl) ?_
              refine lv_iconst (v := (-1)) hx hb dX2_goOn_120 (by decide) ?_
              refine xi_ceq (tgt := 147) hx hb (rfl : Int32.toInt x113 = x113.toInt) ((by decide) : Int32.toInt (-1) = (-1 : Int)) dX2_goOn_121 (by decide) (fun c121 => ?_) (fun c121 => ?_)
              · refine lv_aload_n hx hb dX2_goOn_147 rfl (lv_at hl 3 rfl) ?_
                refine gX2_2 S hK hT ha kf_X2_18 dX2_goOn_148 (fun _ _ => ?_)
                refine lv_iload_n hx hb dX2_goOn_151 rfl (lv_at hl 2 rfl) ?_
                refine lv_dup2_11 hx hb dX2_goOn_152 rfl rfl ?_
                refine al_0 S hK hT hk9999b ar_24 (by decide) (by rw [(e5 : Int32.toInt x5 = (((G.1 a 4).toInt) - (1 : Int)))]; exact (z_X2_goOn_4 ((G.1 a 4).toInt) e0)) dX2_goOn_153 (fun x153 hv153 o153 => ?_)
                have hv153 : x153.toInt = (aI (G.2.1 (F a 2)) (((G.1 a 4).toInt) - 1)) := hv153.trans (by rw [((e5 : Int32.toInt x5 = (((G.1 a 4).toInt) - (1 : Int))).trans (z_X2_goOn_5 ((G.1 a 4).toInt)))])
                refine lv_iconst (v := 1) hx hb dX2_goOn_154 (by decide) ?_
                refine xi_iadd hx hb (hv153 : Int32.toInt x153 = (aI (G.2.1 (F a 2)) (((G.1 a 4).toInt) - 1))) ((by decide) : Int32.toInt 1 = (1 : Int)) dX2_goOn_155 (fun x155 t155 => ?_)
                have e155 : x155.toInt = ((aI (G.2.1 (F a 2)) (((G.1 a 4).toInt) - 1)) + (1 : Int)) := (z_X2_goOn_10 x155.toInt ((G.1 a 4).toInt) (aI (G.2.1 (F a 0)) (((G.1 a 4).toInt) - 1)) (aI (G.2.1 (F a 1)) (((G.1 a 4).toInt) - 1)) (aI (G.2.1 (F a 2)) (((G.1 a 4).toInt) - 1)) (aI (G.2.1 (F a 3)) (((G.1 a 4).toInt) - 1)) (pn (vw (G.2.1 (F p0 0)))) z0 t155)
                refine as_0 (x := x155) S hK hT hS hk9999b ar_24 aw_24 (by decide) (by rw [(e5 : Int32.toInt x5 = (((G.1 a 4).toInt) - (1 : Int)))]; exact (z_X2_goOn_4 ((G.1 a 4).toInt) e0)) dX2_goOn_156 (fun H locs hT hS => ?_)
                obtain ⟨G156, hG156⟩ : ∃ GG : XG, GG = cput G (F a 2) x5.toNatClampNeg x155 := ⟨_, rfl⟩
                rw [← hG156] at hT
                refine lv_aload_n hx hb dX2_goOn_157 rfl (lv_at hl 3 rfl) ?_
                refine gX2_3 S hK hT ha kf_X2_21 dX2_goOn_158 (fun _ _ => ?_)
                refine lv_iload_n hx hb dX2_goOn_161 rfl (lv_at hl 2 rfl) ?_
                refine lv_iconst (v := 0) hx hb dX2_goOn_162 (by decide) ?_
                refine as_0 (x := 0) S hK hT hS hk9999c ar_24 aw_24 (by decide) (by rw [(e5 : Int32.toInt x5 = (((G.1 a 4).toInt) - (1 : Int)))]; exact (z_X2_goOn_4 ((G.1 a 4).toInt) e0)) dX2_goOn_163 (fun H locs hT hS => ?_)
                obtain ⟨G163, hG163⟩ : ∃ GG : XG, GG = cput G156 (F a 3) x5.toNatClampNeg 0 := ⟨_, rfl⟩
                rw [← hG163] at hT
                exact x_rv hx hb hr hlk hQ (Nat.le_of_ble_eq_true rfl) (Nat.le_of_ble_eq_true rfl) hS dX2_goOn_164 G163 ⟨(by rw [hG163]; exact XFr.cput (by rw [hG156]; exact XFr.cput XFr.rf (List.mem_of_getElem? (i := 2) rfl)) (List.mem_of_getElem? (i := 3) rfl)), (by rw [(show (G163.1 a 4).toInt = ((G.1 a 4).toInt) from (congrArg Int32.toInt ((lc_d hG163).trans (lc_d hG156))).trans (rfl : Int32.toInt (G.1 a 4) = ((G.1 a 4).toInt)))] <;> exact (z_X2_goOn_3 ((G.1 a 4).toInt) e0)), (v_X2_goOn_164_8 (K := K) (F := F) a p0 p1 q47 G156 G x5 x155 G163 x113 x65 ha hp0 hp1 hG156 hG163 bkn hac hiv hcz e5 hs47 oq113 e155 e0 z0 c8 c14 c26 ht47 t65 c68 z71 c77 t113 c121 (lc_c hG156 (xne_j hj9999c hj9999b (by first | decide | omega))) ((lc_c hG163 (xne_j hj9999 hj9999c (by first | decide | omega))).trans (lc_c hG156 (xne_j hj9999 hj9999b (by first | decide | omega)))) ((lc_c hG163 (xne_j hj9999a hj9999c (by first | decide | omega))).trans (lc_c hG156 (xne_j hj9999a hj9999b (by first | decide | omega)))) (lc_c hG163 (xne_j hj9999b hj9999c (by first | decide | omega))) ((lc_c hG163 (xne_k hk9999d hk9999c (by decide))).trans (lc_c hG156 (xne_k hk9999d hk9999b (by decide)))) ((lc_d hG163).trans (lc_d hG156))), (v_X2_goOn_164_9 (F := F) p0 G G163 hro ((lc_c hG163 (xne_k hk9999d hk9999c (by decide))).trans (lc_c hG156 (xne_k hk9999d hk9999b (by decide)))) ((lc_c hG163 (xne_k hk9999e hk9999c (by decide))).trans (lc_c hG156 (xne_k hk9999e hk9999b (by decide)))))⟩ hT
              · have pp124 : 1 ≤ (pn (vw (G.2.1 (F p0 0)))) := (v_X2_goOn_124_10 (K := K) (F := F) a p0 p1 q47 G x113 x65 ha hp0 hp1 hro hcz hs47 oq113 e0 z0 c8 c14 c26 ht47 t65 c68 z71 c77 t113 c121)
                refine lv_aload_n hx hb dX2_goOn_124 rfl (lv_at hl 3 rfl) ?_
                refine gX2_3 S hK hT ha kf_X2_21 dX2_goOn_125 (fun _ _ => ?_)
                refine lv_iload_n hx hb dX2_goOn_128 rfl (lv_at hl 2 rfl) ?_
                refine lv_iload hx hb dX2_goOn_129 (lv_at hl 0 rfl) ?_
                refine lv_iconst (v := 1) hx hb dX2_goOn_131 (by decide) ?_
                refine xi_iadd hx hb (rfl : Int32.toInt x113 = x113.toInt) ((by decide) : Int32.toInt 1 = (1 : Int)) dX2_goOn_132 (fun x132 t132 => ?_)
                have e132 : x132.toInt = (x113.toInt + (1 : Int)) := (z_X2_goOn_34 x113.toInt x132.toInt t113 t132)
                refine as_0 (x := x132) S hK hT hS hk9999c ar_24 aw_24 (by decide) (by rw [(e5 : Int32.toInt x5 = (((G.1 a 4).toInt) - (1 : Int)))]; exact (z_X2_goOn_4 ((G.1 a 4).toInt) e0)) dX2_goOn_133 (fun H locs hT hS => ?_)
                obtain ⟨G133, hG133⟩ : ∃ GG : XG, GG = cput G (F a 3) x5.toNatClampNeg x132 := ⟨_, rfl⟩
                rw [← hG133] at hT
                refine lv_aload_n hx hb dX2_goOn_134 rfl (lv_at hl 3 rfl) ?_
                refine lv_aload_n hx hb dX2_goOn_135 rfl (lv_at hl 4 rfl) ?_
                refine lv_aload hx hb dX2_goOn_136 (lv_at hl 1 rfl) ?_
                refine gX7_2 S hK hT hk47 kf_X2_61 dX2_goOn_138 (v := (G.1 q47 2)) (lc_d hG133) (?_)
                refine lv_iload hx hb dX2_goOn_141 (lv_at hl 0 rfl) ?_
                refine x_cv0 (x_runV (b := a) (As := [.ref p0, .int (G.1 q47 2), .int x113]) (rest := []) S (c_X2_descend l E K F G133 a p0 (G.1 q47 2) x113 ha hp0 (z_X2_goOn_36 x113.toInt ((G.1 q47 2).toInt) ((G.1 q47 3).toInt) z71 t113 c121) (by rw [(show (G133.1 a 4).toInt = ((G.1 a 4).toInt) from (congrArg Int32.toInt (lc_d hG133)).trans (rfl : Int32.toInt (G.1 a 4) = ((G.1 a 4).toInt)))] <;> exact (z_X2_goOn_37 ((G.1 a 4).toInt) (aI (G.2.1 (F a 0)) (((G.1 a 4).toInt) - 1)) (aI (G.2.1 (F a 1)) (((G.1 a 4).toInt) - 1)) (aI (G.2.1 (F a 2)) (((G.1 a 4).toInt) - 1)) (aI (G.2.1 (F a 3)) (((G.1 a 4).toInt) - 1)) (pn (vw (G.2.1 (F p0 0)))) e0 z0 pp124)) (v_X2_goOn_143_11 (F := F) p0 G133 G hro (lc_c hG133 (xne_k hk9999d hk9999c (by decide))) (lc_c hG133 (xne_k hk9999e hk9999c (by decide))))) mv_X2_descend km_X2_28 rfl rfl ⟨Nat.le_of_ble_eq_true rfl, Nat.le_of_ble_eq_true rfl⟩ (rc_4 hK hT ha) hK (fun _ => XP.blind) (fun U hU hW => XP.at hK hz hS hT hU hW) rfl hl.1 (Nat.le_of_ble_eq_true rfl) dX2_goOn_143 ⟨Nat.le_of_ble_eq_true rfl, Nat.le_of_ble_eq_true rfl⟩) hS ?_
                rintro G143 H locs ⟨hF143, t143, oq143, oq143a, oq143b, oq143c, oq143d, oq143e⟩ hT hS
                have t143 : ((G143.1 a 4).toInt) = ((G.1 a 4).toInt) + 1 := by rw [(show (G133.1 a 4).toInt = ((G.1 a 4).toInt) from (congrArg Int32.toInt (lc_d hG133)).trans (rfl : Int32.toInt (G.1 a 4) = ((G.1 a 4).toInt)))] at t143; exact t143
                have oq143 : ∀ z : Int, 0 ≤ z → aI (G143.2.1 (F a 0)) z = if z = ((G.1 a 4).toInt) then ((G.1 q47 2).toInt) else aI (G.2.1 (F a 0)) z := by simp only [(show G133.1 a 4 = G.1 a 4 from (lc_d hG133)), (show G133.2.1 (F a 0) = G.2.1 (F a 0) from (lc_c hG133 (xne_j hj9999 hj9999c (by first | decide | omega))))] at oq143; exact oq143
                have oq143a : ∀ z : Int, 0 ≤ z → aI (G143.2.1 (F a 1)) z = if z = ((G.1 a 4).toInt) then x113.toInt else aI (G.2.1 (F a 1)) z := by simp only [(show G133.1 a 4 = G.1 a 4 from (lc_d hG133)), (show G133.2.1 (F a 1) = G.2.1 (F a 1) from (lc_c hG133 (xne_j hj9999a hj9999c (by first | decide | omega))))] at oq143a; exact oq143a
                have oq143b : ∀ z : Int, 0 ≤ z → aI (G143.2.1 (F a 2)) z = if z = ((G.1 a 4).toInt) then 0 else aI (G.2.1 (F a 2)) z := by simp only [(show G133.1 a 4 = G.1 a 4 from (lc_d hG133)), (show G133.2.1 (F a 2) = G.2.1 (F a 2) from (lc_c hG133 (xne_j hj9999b hj9999c (by first | decide | omega))))] at oq143b; exact oq143b
                have oq143c : ∀ z : Int, 0 ≤ z → aI (G143.2.1 (F a 3)) z = if z = ((G.1 a 4).toInt) then 0 else aI (G133.2.1 (F a 3)) z := by simp only [(show G133.1 a 4 = G.1 a 4 from (lc_d hG133))] at oq143c; exact oq143c
                have oq143d : (vw (G143.2.1 (F p0 0))) = rfil (vw (G.2.1 (F p0 0))) ((G.1 q47 2).toInt) x113.toInt (-2000) 3 := by simp only [(show G133.2.1 (F p0 0) = G.2.1 (F p0 0) from (lc_c hG133 (xne_k hk9999d hk9999c (by decide))))] at oq143d; exact oq143d
                exact x_rv hx hb hr hlk hQ (Nat.le_of_ble_eq_true rfl) (Nat.le_of_ble_eq_true rfl) hS dX2_goOn_146 G143 ⟨(XFr.call (by rw [hG133]; exact XFr.cput XFr.rf (List.mem_of_getElem? (i := 3) rfl)) hF143 (xm1 0 rfl xm0) (xm1 0 rfl (xm1 1 rfl (xm1 2 rfl (xm1 3 rfl (xm1 4 rfl (xm1 5 rfl xm0)))))) xm0), (z_X2_goOn_38 ((G.1 a 4).toInt) ((G143.1 a 4).toInt) (aI (G.2.1 (F a 0)) (((G.1 a 4).toInt) - 1)) (aI (G.2.1 (F a 1)) (((G.1 a 4).toInt) - 1)) (aI (G.2.1 (F a 2)) (((G.1 a 4).toInt) - 1)) (aI (G.2.1 (F a 3)) (((G.1 a 4).toInt) - 1)) (pn (vw (G.2.1 (F p0 0)))) e0 z0 pp124 t143), (v_X2_goOn_146_12 (K := K) (F := F) a p0 p1 q47 G133 G x5 x132 G143 x113 x65 ha hp0 hp1 hG133 bkn hac hiv hcz e5 hs47 oq113 e132 oq143 oq143a oq143b oq143c oq143d e0 z0 c8 c14 c26 ht47 t65 c68 z71 c77 t113 c121 pp124 t143), (v_X2_goOn_146_13 (F := F) p0 G143 oq143e)⟩ hT
            · refine lv_aload_n hx hb dX2_goOn_80 rfl (lv_at hl 3 rfl) ?_
              refine lv_aload hx hb dX2_goOn_81 (lv_at hl 0 rfl) ?_
              refine lv_aload_n hx hb dX2_goOn_83 rfl (lv_at hl 2 rfl) ?_
              refine gX2_1 S hK hT ha kf_X2_15 dX2_goOn_84 (fun _ _ => ?_)
              refine lv_iload_n hx hb dX2_goOn_87 rfl (lv_at hl 1 rfl) ?_
              refine al_0 S hK hT hk9999a ar_24 (by decide) (by rw [(e5 : Int32.toInt x5 = (((G.1 a 4).toInt) - (1 : Int)))]; exact (z_X2_goOn_4 ((G.1 a 4).toInt) e0)) dX2_goOn_88 (fun x88 hv88 o88 => ?_)
              have hv88 : x88.toInt = (aI (G.2.1 (F a 1)) (((G.1 a 4).toInt) - 1)) := hv88.trans (by rw [((e5 : Int32.toInt x5 = (((G.1 a 4).toInt) - (1 : Int))).trans (z_X2_goOn_5 ((G.1 a 4).toInt)))])
              refine lv_sipush (v := (-1000)) hx hb dX2_goOn_89 (by decide) ?_
              refine x_cv0 (x_runS (As := [.ref p0, .ref q47, .int x88, .int (-1000)]) (rest := []) S (c_X2_replace l E K F G p0 q47 x88 (-1000) hp0 hk47 (by rw [(hv88 : Int32.toInt x88 = (aI (G.2.1 (F a 1)) (((G.1 a 4).toInt) - 1)))] <;> exact (z_X2_goOn_41 ((G.1 a 4).toInt) (aI (G.2.1 (F a 0)) (((G.1 a 4).toInt) - 1)) (aI (G.2.1 (F a 1)) (((G.1 a 4).toInt) - 1)) (aI (G.2.1 (F a 2)) (((G.1 a 4).toInt) - 1)) (aI (G.2.1 (F a 3)) (((G.1 a 4).toInt) - 1)) (pn (vw (G.2.1 (F p0 0)))) z0)) (by rw [((by decide) : Int32.toInt (-1000) = (-1000 : Int))] <;> exact (by decide)) (v_X2_goOn_92_14 (F := F) p0 G hro) (v_X2_goOn_92_15 (K := K) (F := F) a p0 p1 q47 G x65 ha hp0 hp1 bkn hcz hs47 e0 z0 c8 c14 c26 ht47 t65 c68 z71 c77)) ms_X2_replace km_X2_57 rfl rfl ⟨Nat.le_of_ble_eq_true rfl, Nat.le_of_ble_eq_true rfl⟩ hK (fun _ => XP.blind) (fun U hU hW => XP.at hK hz hS hT hU hW) rfl hl.1 (Nat.le_of_ble_eq_true rfl) dX2_goOn_92 ⟨Nat.le_of_ble_eq_true rfl, Nat.le_of_ble_eq_true rfl⟩) hS ?_
              rintro G92 H locs ⟨hF92, oq92, oq92a⟩ hT hS
              have oq92 : (vw (G92.2.1 (F p0 0))) = repl (vw (G.2.1 (F p0 0))) ((G.1 q47 2).toInt) ((G.1 q47 3).toInt) (aI (G.2.1 (F a 1)) (((G.1 a 4).toInt) - 1)) (-1000 : Int) 30 := by simp only [(hv88 : Int32.toInt x88 = (aI (G.2.1 (F a 1)) (((G.1 a 4).toInt) - 1))), ((by decide) : Int32.toInt (-1000) = (-1000 : Int))] at oq92; exact oq92
              refine lv_goto (tgt := 147) hx hb dX2_goOn_95 (by decide) ?_
              refine lv_aload_n hx hb dX2_goOn_147 rfl (lv_at hl 2 rfl) ?_
              refine gX2_2 S hK hT ha kf_X2_18 dX2_goOn_148 (fun _ _ => ?_)
              refine lv_iload_n hx hb dX2_goOn_151 rfl (lv_at hl 1 rfl) ?_
              refine lv_dup2_11 hx hb dX2_goOn_152 rfl rfl ?_
              refine al_0 S hK hT hk9999b ar_24 (by decide) (by rw [(e5 : Int32.toInt x5 = (((G.1 a 4).toInt) - (1 : Int)))]; exact (z_X2_goOn_4 ((G.1 a 4).toInt) e0)) dX2_goOn_153 (fun x153 hv153 o153 => ?_)
              have hv153 : x153.toInt = (aI (G.2.1 (F a 2)) (((G.1 a 4).toInt) - 1)) := hv153.trans (by rw [((e5 : Int32.toInt x5 = (((G.1 a 4).toInt) - (1 : Int))).trans (z_X2_goOn_5 ((G.1 a 4).toInt))), ((hF92.2.1 _ (xn1 (xne_k hk9999b hk9999d (by decide)) (xn1 (xne_k hk9999b hk9999e (by decide)) xn0))) : G92.2.1 (F a 2) = G.2.1 (F a 2))])
              refine lv_iconst (v := 1) hx hb dX2_goOn_154 (by decide) ?_
              refine xi_iadd hx hb (hv153 : Int32.toInt x153 = (aI (G.2.1 (F a 2)) (((G.1 a 4).toInt) - 1))) ((by decide) : Int32.toInt 1 = (1 : Int)) dX2_goOn_155 (fun x155 t155 => ?_)
              have e155 : x155.toInt = ((aI (G.2.1 (F a 2)) (((G.1 a 4).toInt) - 1)) + (1 : Int)) := (z_X2_goOn_10 x155.toInt ((G.1 a 4).toInt) (aI (G.2.1 (F a 0)) (((G.1 a 4).toInt) - 1)) (aI (G.2.1 (F a 1)) (((G.1 a 4).toInt) - 1)) (aI (G.2.1 (F a 2)) (((G.1 a 4).toInt) - 1)) (aI (G.2.1 (F a 3)) (((G.1 a 4).toInt) - 1)) (pn (vw (G.2.1 (F p0 0)))) z0 t155)
              refine as_0 (x := x155) S hK hT hS hk9999b ar_24 aw_24 (by decide) (by rw [(e5 : Int32.toInt x5 = (((G.1 a 4).toInt) - (1 : Int)))]; exact (z_X2_goOn_4 ((G.1 a 4).toInt) e0)) dX2_goOn_156 (fun H locs hT hS => ?_)
              obtain ⟨G156, hG156⟩ : ∃ GG : XG, GG = cput G92 (F a 2) x5.toNatClampNeg x155 := ⟨_, rfl⟩
              rw [← hG156] at hT
              refine lv_aload_n hx hb dX2_goOn_157 rfl (lv_at hl 2 rfl) ?_
              refine gX2_3 S hK hT ha kf_X2_21 dX2_goOn_158 (fun _ _ => ?_)
              refine lv_iload_n hx hb dX2_goOn_161 rfl (lv_at hl 1 rfl) ?_
              refine lv_iconst (v := 0) hx hb dX2_goOn_162 (by decide) ?_
              refine as_0 (x := 0) S hK hT hS hk9999c ar_24 aw_24 (by decide) (by rw [(e5 : Int32.toInt x5 = (((G.1 a 4).toInt) - (1 : Int)))]; exact (z_X2_goOn_4 ((G.1 a 4).toInt) e0)) dX2_goOn_163 (fun H locs hT hS => ?_)
              obtain ⟨G163, hG163⟩ : ∃ GG : XG, GG = cput G156 (F a 3) x5.toNatClampNeg 0 := ⟨_, rfl⟩
              rw [← hG163] at hT
              exact x_rv hx hb hr hlk hQ (Nat.le_of_ble_eq_true rfl) (Nat.le_of_ble_eq_true rfl) hS dX2_goOn_164 G163 ⟨(by rw [hG163]; exact XFr.cput (by rw [hG156]; exact XFr.cput (XFr.call XFr.rf hF92 xm0 (xm1 4 rfl (xm1 5 rfl xm0)) xm0) (List.mem_of_getElem? (i := 2) rfl)) (List.mem_of_getElem? (i := 3) rfl)), (by rw [(show (G163.1 a 4).toInt = ((G.1 a 4).toInt) from (congrArg Int32.toInt ((lc_d hG163).trans ((lc_d hG156).trans (hF92.1 _ _ xn0)))).trans (rfl : Int32.toInt (G.1 a 4) = ((G.1 a 4).toInt)))] <;> exact (z_X2_goOn_3 ((G.1 a 4).toInt) e0)), (v_X2_goOn_164_16 (K := K) (F := F) a p0 p1 q47 G G92 G156 x5 x155 G163 x65 ha hp0 hp1 hG156 hG163 bkn hac hiv hcz e5 hs47 oq92 e155 e0 z0 c8 c14 c26 ht47 t65 c68 z71 c77 ((lc_c hG156 (xne_j hj9999c hj9999b (by first | decide | omega))).trans (hF92.2.1 _ (xn1 (xne_k hk9999c hk9999d (by decide)) (xn1 (xne_k hk9999c hk9999e (by decide)) xn0)))) ((lc_c hG163 (xne_j hj9999 hj9999c (by first | decide | omega))).trans ((lc_c hG156 (xne_j hj9999 hj9999b (by first | decide | omega))).trans (hF92.2.1 _ (xn1 (xne_k hk9999 hk9999d (by decide)) (xn1 (xne_k hk9999 hk9999e (by decide)) xn0))))) ((lc_c hG163 (xne_j hj9999a hj9999c (by first | decide | omega))).trans ((lc_c hG156 (xne_j hj9999a hj9999b (by first | decide | omega))).trans (hF92.2.1 _ (xn1 (xne_k hk9999a hk9999d (by decide)) (xn1 (xne_k hk9999a hk9999e (by decide)) xn0))))) (lc_c hG163 (xne_j hj9999b hj9999c (by first | decide | omega))) ((lc_c hG163 (xne_k hk9999d hk9999c (by decide))).trans (lc_c hG156 (xne_k hk9999d hk9999b (by decide)))) (hF92.2.1 _ (xn1 (xne_k hk9999b hk9999d (by decide)) (xn1 (xne_k hk9999b hk9999e (by decide)) xn0))) ((lc_d hG163).trans ((lc_d hG156).trans (hF92.1 _ _ xn0)))), (v_X2_goOn_164_17 (F := F) p0 G G92 G163 hro oq92a ((lc_c hG163 (xne_k hk9999d hk9999c (by decide))).trans (lc_c hG156 (xne_k hk9999d hk9999b (by decide)))) ((lc_c hG163 (xne_k hk9999e hk9999c (by decide))).trans (lc_c hG156 (xne_k hk9999e hk9999b (by decide)))))⟩ hT
      · refine lv_aload_n hx hb dX2_goOn_29 rfl (lv_at hl 1 rfl) ?_
        refine lv_dup hx hb dX2_goOn_30 rfl ?_
        refine gX2_4 S hK hT ha kf_X2_24 dX2_goOn_31 (v := (G.1 a 4)) rfl (?_)
        refine lv_iconst (v := 1) hx hb dX2_goOn_34 (by decide) ?_
        refine xi_isub hx hb (rfl : Int32.toInt (G.1 a 4) = ((G.1 a 4).toInt)) ((by decide) : Int32.toInt 1 = (1 : Int)) dX2_goOn_35 (fun x35 t35 => ?_)
        have e35 : x35.toInt = (((G.1 a 4).toInt) - (1 : Int)) := (z_X2_goOn_2 x35.toInt ((G.1 a 4).toInt) e0 t35)
        refine pX2_4 (v := x35) S hK hT hS ha kf_X2_24 dX2_goOn_36 (fun H locs hT hS => ?_)
        obtain ⟨G36, hG36⟩ : ∃ GG : XG, GG = dput G a 4 x35 := ⟨_, rfl⟩
        rw [← hG36] at hT
        exact x_rv hx hb hr hlk hQ (Nat.le_of_ble_eq_true rfl) (Nat.le_of_ble_eq_true rfl) hS dX2_goOn_39 G36 ⟨(by rw [hG36]; exact XFr.dput XFr.rf (List.mem_of_getElem? (i := 0) rfl)), (by rw [(show (G36.1 a 4).toInt = (((G.1 a 4).toInt) - (1 : Int)) from (congrArg Int32.toInt (ld_at hG36)).trans (e35 : Int32.toInt x35 = (((G.1 a 4).toInt) - (1 : Int))))] <;> exact (z_X2_goOn_49 ((G.1 a 4).toInt) e0)), (v_X2_goOn_39_18 (K := K) (F := F) a p0 p1 G36 G x35 ha hp0 hp1 bkn hiv hcz e35 e0 z0 c8 c14 c26 (ld_c hG36) (ld_c hG36) (ld_c hG36) (ld_c hG36) (ld_c hG36) (ld_at hG36)), (v_X2_goOn_39_19 (F := F) p0 G36 G hro (ld_c hG36) (ld_c hG36))⟩ hT
    · exact x_rv hx hb hr hlk hQ (Nat.le_of_ble_eq_true rfl) (Nat.le_of_ble_eq_true rfl) hS dX2_goOn_17 G ⟨XFr.rf, (z_X2_goOn_3 ((G.1 a 4).toInt) e0), (v_X2_goOn_17_20 (K := K) (F := F) a p0 p1 G ha hp0 hp1 hcz e0 z0 c8 c14), (v_X2_goOn_17_21 (K := K) (F := F) a p0 p1 G ha hp0 hp1 hcz e0 z0 c8 c14)⟩ hT

theorem z_X2_cutRow_2 (a0 : Int) (h0 : 0 ≤ a0 ∧ a0 ≤ 1260) : ¬ (2147483648 - a0 < ((0 : Nat) : Int)) := by omega
theorem z_X2_cutRow_3 (a0 : Int) (h0 : 0 ≤ a0 ∧ a0 ≤ 90) (h1 : ¬ (a0 ≤ 0)) : 1 ≤ a0 ∧ a0 ≤ 90 := by omega
theorem z_X2_cutRow_4 (a0 : Int) (a1 : Int) (h0 : 0 ≤ a0 ∧ a0 ≤ 1260) (h1 : a1 = (a0 + 1) ∨ (a0 + 1) < -2147483648 ∨ 2147483648 ≤ (a0 + 1)) : a1 = (a0 + 1) := by omega
theorem z_X2_cutRow_5 (a0 : Int) (h0 : 0 ≤ a0 ∧ a0 ≤ 1260) (h1 : ¬ ((1260 : Int) ≤ a0)) : 0 ≤ (a0 + 1) ∧ (a0 + 1) ≤ 1260 := by omega
theorem z_X2_cutRow_7 (a0 : Int) (a1 : Int) (a2 : Int) (h0 : a0 + a2 ≤ 1259) (h1 : a1 = a2 - 1) : (a0 + 1) + a1 ≤ 1259 := by omega
theorem z_X2_cutRow_8 (a0 : Int) (h0 : 0 ≤ a0 ∧ a0 ≤ 1260) : (0 : Int) ≤ (a0 + 1) := by omega
theorem z_X2_cutRow_9 (a0 : Int) (a1 : Nat) (h0 : 2147483648 - a0 < ((a1 + 1 : Nat) : Int)) : 2147483648 - (a0 + 1) < ((a1 : Nat) : Int) := by omega
theorem z_X2_cutRow_10 (a0 : Int) (h0 : a0 = (0 : Int) + 1) : 0 ≤ a0 ∧ a0 ≤ 90 := by omega
theorem z_X2_cutRow_11 (a0 : Int) (h0 : a0 ≤ 1259) : (0 : Int) + a0 ≤ 1259 := by omega
abbrev rm_X2_cutRow : Room := { frames := 5, cells := 0, slots := 0, locals := 115 }
set_option maxHeartbeats 4000000 in
set_option maxRecDepth 100000 in
theorem c_X2_cutRow (l : Launch) (E : XE) (K : Nat → Nat) (F : Nat → Nat → Nat) (G : XG) (a : Nat) (p0 : Nat) (p1 : Nat) (p2 : Int32) (p3 : Int32) (ha : K a = 4) (hp0 : K p0 = 8) (hp1 : K p1 = 2) (e1 : 0 ≤ p2.toInt ∧ p2.toInt < 3 ∧ 0 ≤ p3.toInt ∧ p3.toInt < 30) (e3 : (cel (vw (G.2.1 (F p0 0))) (p2.toInt) (p3.toInt) 0) ≠ -2000) (hro : RO (vw (G.2.1 (F p0 0))) (aI (G.2.1 (F p0 1)))) (bkn : BKr K G (G.2.2.1 (F p1 0))) (hac : ACo G (G.2.2.1 (F p1 0))) : Met l yX2_cutRow (xw yX2_cutRow cX2_cutRow 6 none) rm_X2_cutRow (va_Pc [.ref a, .ref p0, .ref p1, .int p2, .int p3] (XP E K F G)) (XQv E (fun (u : XG) => XFr [(a, 4)] [F a 0, F a 1, F a 2, F a 3, F p0 0, F p0 1] [] G u ∧ ((vw (u.2.1 (F p0 0))) = cfin (clsA G (G.2.2.1 (F p1 0))) (clsT G (G.2.2.1 (F p1 0))) (clsC G (G.2.2.1 (F p1 0))) ([(p2.toInt, p3.toInt, 0, 0)], rfil (vw (G.2.1 (F p0 0))) p2.toInt p3.toInt (-2000) 3)) ∧ (RO (vw (u.2.1 (F p0 0))) (aI (u.2.1 (F p0 1))))) (fun u H => TW E K F u H)) 0 0 (xA E) := by
  refine x_enter (by decide) (Nat.le_of_ble_eq_true rfl) ?_
  intro p e s m args below meth c Q S hr hlk hnm hQ hP ls hl
  obtain ⟨hz, hK, hT⟩ := hP
  obtain ⟨hx, hb, -, -, -⟩ := id S
  obtain ⟨H, hT, hS, hgo⟩ : ∃ H : Heap, TW E K F G H ∧ va_S (xA E) s.heap H [] ∧ H = s.heap := ⟨_, hT, va_S.rf, rfl⟩
  rw [← hgo]
  have hl : lv_has ls 6 [(0, .ref a), (1, .ref p0), (2, .ref p1), (3, .int p2), (4, .int p3)] := hl
  obtain ⟨hk9999, hj9999⟩ := fkX2_0 hT ha
  obtain ⟨hk9999a, hj9999a⟩ := fkX2_1 hT ha
  obtain ⟨hk9999b, hj9999b⟩ := fkX2_2 hT ha
  obtain ⟨hk9999c, hj9999c⟩ := fkX2_3 hT ha
  obtain ⟨hk9999d, hj9999d⟩ := fkX6_0 hT hp0
  obtain ⟨hk9999e, hj9999e⟩ := fkX6_1 hT hp0
  obtain ⟨hk9999f, hj9999f⟩ := fkX0_0 hT hp1
  refine lv_aload_n hx hb dX2_cutRow_0 rfl (lv_at hl 0 rfl) ?_
  refine lv_iconst (v := 0) hx hb dX2_cutRow_1 (by decide) ?_
  refine pX2_4 (v := 0) S hK hT hS ha kf_X2_24 dX2_cutRow_2 (fun H locs hT hS => ?_)
  obtain ⟨G2, hG2⟩ : ∃ GG : XG, GG = dput G a 4 0 := ⟨_, rfl⟩
  rw [← hG2] at hT
  refine lv_aload_n hx hb dX2_cutRow_5 rfl (lv_at hl 0 rfl) ?_
  refine lv_aload_n hx hb dX2_cutRow_6 rfl (lv_at hl 1 rfl) ?_
  refine lv_iload_n hx hb dX2_cutRow_7 rfl (lv_at hl 3 rfl) ?_
  refine lv_iload hx hb dX2_cutRow_8 (lv_at hl 4 rfl) ?_
  refine x_cv0 (x_runV (b := a) (As := [.ref p0, .int p2, .int p3]) (rest := []) S (c_X2_descend l E K F G2 a p0 p2 p3 ha hp0 (e1) (by rw [(show (G2.1 a 4).toInt = (0 : Int) from (congrArg Int32.toInt (ld_at hG2)).trans ((by decide) : Int32.toInt 0 = (0 : Int)))] <;> exact (by decide)) (v_X2_cutRow_10_1 (F := F) p0 G G2 hro (ld_c hG2) (ld_c hG2))) mv_X2_descend km_X2_28 rfl rfl ⟨Nat.le_of_ble_eq_true rfl, Nat.le_of_ble_eq_true rfl⟩ (rc_4 hK hT ha) hK (fun _ => XP.blind) (fun U hU hW => XP.at hK hz hS hT hU hW) rfl hl.1 (Nat.le_of_ble_eq_true rfl) dX2_cutRow_10 ⟨Nat.le_of_ble_eq_true rfl, Nat.le_of_ble_eq_true rfl⟩) hS ?_
  rintro G10 H locs ⟨hF10, t10, oq10, oq10a, oq10b, oq10c, oq10d, oq10e⟩ hT hS
  have t10 : ((G10.1 a 4).toInt) = (0 : Int) + 1 := by rw [(show (G2.1 a 4).toInt = (0 : Int) from (congrArg Int32.toInt (ld_at hG2)).trans ((by decide) : Int32.toInt 0 = (0 : Int)))] at t10; exact t10
  have oq10 : ∀ z : Int, 0 ≤ z → aI (G10.2.1 (F a 0)) z = if z = ((G2.1 a 4).toInt) then p2.toInt else aI (G.2.1 (F a 0)) z := by simp only [(show G2.2.1 (F a 0) = G.2.1 (F a 0) from (ld_c hG2))] at oq10; exact oq10
  have oq10a : ∀ z : Int, 0 ≤ z → aI (G10.2.1 (F a 1)) z = if z = ((G2.1 a 4).toInt) then p3.toInt else aI (G.2.1 (F a 1)) z := by simp only [(show G2.2.1 (F a 1) = G.2.1 (F a 1) from (ld_c hG2))] at oq10a; exact oq10a
  have oq10b : ∀ z : Int, 0 ≤ z → aI (G10.2.1 (F a 2)) z = if z = ((G2.1 a 4).toInt) then 0 else aI (G.2.1 (F a 2)) z := by simp only [(show G2.2.1 (F a 2) = G.2.1 (F a 2) from (ld_c hG2))] at oq10b; exact oq10b
  have oq10c : ∀ z : Int, 0 ≤ z → aI (G10.2.1 (F a 3)) z = if z = ((G2.1 a 4).toInt) then 0 else aI (G.2.1 (F a 3)) z := by simp only [(show G2.2.1 (F a 3) = G.2.1 (F a 3) from (ld_c hG2))] at oq10c; exact oq10c
  have oq10d : (vw (G10.2.1 (F p0 0))) = rfil (vw (G.2.1 (F p0 0))) p2.toInt p3.toInt (-2000) 3 := by simp only [(show G2.2.1 (F p0 0) = G.2.1 (F p0 0) from (ld_c hG2))] at oq10d; exact oq10d
  have en13 : (cnv (gst (G10.2.1 (F a 0)) (G10.2.1 (F a 1)) (G10.2.1 (F a 2)) (G10.2.1 (F a 3)) (Int.toNat ((G10.1 a 4).toInt)), (vw (G10.2.1 (F p0 0))))) ≤ 1259 := (v_X2_cutRow_13_2 (K := K) (F := F) a p0 p1 G G10 G2 p2 p3 ha hp0 hp1 hro oq10 oq10a oq10b oq10c oq10d e1 e3 t10 (ld_at hG2))
  refine lv_iconst (v := 0) hx hb dX2_cutRow_13 (by decide) ?_
  refine lv_istore (lv' := [(5, .int 0), (0, .ref a), (1, .ref p0), (2, .ref p1), (3, .int p2), (4, .int p3)]) hx hb dX2_cutRow_14 hl (by decide) rfl (fun ls hl => ?_)
  have L16 : ∀ (N16 : Nat) (l5_16 : Int32) (G_16 : XG) (H : Heap) (locs : List Loc) (ls : Array Slot), XFr [(a, 4)] [F a 0, F a 1, F a 2, F a 3, F p0 0, F p0 1] [] G10 G_16 → CIv (gst (G_16.2.1 (F a 0)) (G_16.2.1 (F a 1)) (G_16.2.1 (F a 2)) (G_16.2.1 (F a 3)) (Int.toNat (((G_16.1 a 4).toInt))), (vw (G_16.2.1 (F p0 0)))) → CZ (clsA G (G.2.2.1 (F p1 0))) (gst (G_16.2.1 (F a 0)) (G_16.2.1 (F a 1)) (G_16.2.1 (F a 2)) (G_16.2.1 (F a 3)) (Int.toNat (((G_16.1 a 4).toInt))), (vw (G_16.2.1 (F p0 0)))).1 → cfin (clsA G (G.2.2.1 (F p1 0))) (clsT G (G.2.2.1 (F p1 0))) (clsC G (G.2.2.1 (F p1 0))) (gst (G_16.2.1 (F a 0)) (G_16.2.1 (F a 1)) (G_16.2.1 (F a 2)) (G_16.2.1 (F a 3)) (Int.toNat (((G_16.1 a 4).toInt))), (vw (G_16.2.1 (F p0 0)))) = cfin (clsA G (G.2.2.1 (F p1 0))) (clsT G (G.2.2.1 (F p1 0))) (clsC G (G.2.2.1 (F p1 0))) ([(p2.toInt, p3.toInt, 0, 0)], rfil (vw (G.2.1 (F p0 0))) p2.toInt p3.toInt (-2000) 3) → RO (vw (G_16.2.1 (F p0 0))) (aI (G_16.2.1 (F p0 1))) → 0 ≤ l5_16.toInt ∧ l5_16.toInt ≤ 1260 → 0 ≤ ((G_16.1 a 4).toInt) ∧ ((G_16.1 a 4).toInt) ≤ 90 → l5_16.toInt + (cnv (gst (G_16.2.1 (F a 0)) (G_16.2.1 (F a 1)) (G_16.2.1 (F a 2)) (G_16.2.1 (F a 3)) (Int.toNat ((G_16.1 a 4).toInt)), (vw (G_16.2.1 (F p0 0))))) ≤ 1259 → (0 : Int) ≤ l5_16.toInt → 2147483648 - l5_16.toInt < ((N16 : Nat) : Int) → TW E K F G_16 H → va_S (xA E) s.heap H locs → lv_has ls 6 [(0, .ref a), (1, .ref p0), (2, .ref p1), (5, .int l5_16)] → W p l e rm_X2_cutRow s m args below meth c H locs 0 0 Q (F0 m 16 ls []) := by
    intro N16
    induction N16 with
    | zero =>
      intro l5_16 G_16 H locs ls hF_16 iv cz fi ro I16_0 I16_1 I16_2 I16_3 hm16
      exact absurd hm16 (z_X2_cutRow_2 l5_16.toInt I16_0)
    | succ N16 ih16 =>
      intro l5_16 G_16 H locs ls hF_16 iv cz fi ro I16_0 I16_1 I16_2 I16_3 hm16 hT hS hl
      refine lv_iload hx hb dX2_cutRow_16 (lv_at hl 3 rfl) ?_
      refine lv_sipush (v := 1260) hx hb dX2_cutRow_18 (by decide) ?_
      refine xi_cge (tgt := 43) hx hb (rfl : Int32.toInt l5_16 = l5_16.toInt) ((by decide) : Int32.toInt 1260 = (1260 : Int)) dX2_cutRow_21 (by decide) (fun c21 => ?_) (fun c21 => ?_)
      · have z43 : 0 ≤ (cnv (gst (G_16.2.1 (F a 0)) (G_16.2.1 (F a 1)) (G_16.2.1 (F a 2)) (G_16.2.1 (F a 3)) (Int.toNat ((G_16.1 a 4).toInt)), (vw (G_16.2.1 (F p0 0))))) := (cnv_b iv).1
        exact x_rv hx hb hr hlk hQ (Nat.le_of_ble_eq_true rfl) (Nat.le_of_ble_eq_true rfl) hS dX2_cutRow_43 G_16 ⟨(XFr.call (XFr.call (by rw [hG2]; exact XFr.dput XFr.rf (List.mem_of_getElem? (i := 0) rfl)) hF10 (xm1 0 rfl xm0) (xm1 0 rfl (xm1 1 rfl (xm1 2 rfl (xm1 3 rfl (xm1 4 rfl (xm1 5 rfl xm0)))))) xm0) hF_16 (xm1 0 rfl xm0) (xm1 0 rfl (xm1 1 rfl (xm1 2 rfl (xm1 3 rfl (xm1 4 rfl (xm1 5 rfl xm0)))))) xm0), (v_X2_cutRow_43_3 (K := K) (F := F) a p0 p1 G G_16 G10 p2 p3 l5_16 N16 ha hp0 hp1 cz fi e1 e3 t10 en13 I16_0 I16_1 I16_2 I16_3 hm16 c21 z43), (v_X2_cutRow_43_4 (F := F) p0 G_16 ro)⟩ hT
      · refine lv_aload_n hx hb dX2_cutRow_24 rfl (lv_at hl 0 rfl) ?_
        refine gX2_4 S hK hT ha kf_X2_24 dX2_cutRow_25 (v := (G_16.1 a 4)) rfl (?_)
        refine xi_zle (tgt := 43) hx hb (rfl : Int32.toInt (G_16.1 a 4) = ((G_16.1 a 4).toInt)) dX2_cutRow_28 (by decide) (fun c28 => ?_) (fun c28 => ?_)
        · have z43 : 0 ≤ (cnv (gst (G_16.2.1 (F a 0)) (G_16.2.1 (F a 1)) (G_16.2.1 (F a 2)) (G_16.2.1 (F a 3)) (Int.toNat ((G_16.1 a 4).toInt)), (vw (G_16.2.1 (F p0 0))))) := (cnv_b iv).1
          exact x_rv hx hb hr hlk hQ (Nat.le_of_ble_eq_true rfl) (Nat.le_of_ble_eq_true rfl) hS dX2_cutRow_43 G_16 ⟨(XFr.call (XFr.call (by rw [hG2]; exact XFr.dput XFr.rf (List.mem_of_getElem? (i := 0) rfl)) hF10 (xm1 0 rfl xm0) (xm1 0 rfl (xm1 1 rfl (xm1 2 rfl (xm1 3 rfl (xm1 4 rfl (xm1 5 rfl xm0)))))) xm0) hF_16 (xm1 0 rfl xm0) (xm1 0 rfl (xm1 1 rfl (xm1 2 rfl (xm1 3 rfl (xm1 4 rfl (xm1 5 rfl xm0)))))) xm0), (v_X2_cutRow_43_5 (K := K) (F := F) a p0 p1 G G_16 G10 p2 p3 l5_16 N16 ha hp0 hp1 cz fi e1 e3 t10 en13 I16_0 I16_1 I16_2 I16_3 hm16 c21 c28 z43), (v_X2_cutRow_43_6 (F := F) p0 G_16 ro)⟩ hT
        · refine lv_aload_n hx hb dX2_cutRow_31 rfl (lv_at hl 0 rfl) ?_
          refine lv_aload_n hx hb dX2_cutRow_32 rfl (lv_at hl 1 rfl) ?_
          refine lv_aload_n hx hb dX2_cutRow_33 rfl (lv_at hl 2 rfl) ?_
          refine x_cv0 (x_runV (b := a) (As := [.ref p0, .ref p1]) (rest := []) S (c_X2_goOn l E K F G_16 a p0 p1 ha hp0 hp1 (z_X2_cutRow_3 ((G_16.1 a 4).toInt) I16_1 c28) (v_X2_cutRow_34_7 (F := F) p0 G_16 ro) (v_X2_cutRow_34_8 (K := K) (F := F) a p0 p1 G G_16 G10 p2 p3 l5_16 N16 ha hp0 hp1 hk9999 hj9999 hk9999a hj9999a hk9999b hj9999b hk9999c hj9999c hk9999d hj9999d hk9999e hj9999e hk9999f hj9999f (XFr.call (XFr.call (by rw [hG2]; exact XFr.dput XFr.rf (List.mem_of_getElem? (i := 0) rfl)) hF10 (xm1 0 rfl xm0) (xm1 0 rfl (xm1 1 rfl (xm1 2 rfl (xm1 3 rfl (xm1 4 rfl (xm1 5 rfl xm0)))))) xm0) hF_16 (xm1 0 rfl xm0) (xm1 0 rfl (xm1 1 rfl (xm1 2 rfl (xm1 3 rfl (xm1 4 rfl (xm1 5 rfl xm0)))))) xm0) bkn cz e1 e3 t10 en13 I16_0 I16_1 I16_2 I16_3 hm16 c21 c28 ((hF_16.2.2 _ xn0).trans ((hF10.2.2 _ xn0).trans (ld_r hG2)))) (v_X2_cutRow_34_9 (K := K) (F := F) a p0 p1 G G_16 G10 p2 p3 l5_16 N16 ha hp0 hp1 hk9999 hj9999 hk9999a hj9999a hk9999b hj9999b hk9999c hj9999c hk9999d hj9999d hk9999e hj9999e hk9999f hj9999f (XFr.call (XFr.call (by rw [hG2]; exact XFr.dput XFr.rf (List.mem_of_getElem? (i := 0) rfl)) hF10 (xm1 0 rfl xm0) (xm1 0 rfl (xm1 1 rfl (xm1 2 rfl (xm1 3 rfl (xm1 4 rfl (xm1 5 rfl xm0)))))) xm0) hF_16 (xm1 0 rfl xm0) (xm1 0 rfl (xm1 1 rfl (xm1 2 rfl (xm1 3 rfl (xm1 4 rfl (xm1 5 rfl xm0)))))) xm0) bkn hac cz e1 e3 t10 en13 I16_0 I16_1 I16_2 I16_3 hm16 c21 c28 ((hF_16.2.2 _ xn0).trans ((hF10.2.2 _ xn0).trans (ld_r hG2)))) (v_X2_cutRow_34_10 (F := F) a p0 G_16 iv) (v_X2_cutRow_34_11 (K := K) (F := F) a p0 p1 G G_16 G10 p2 p3 l5_16 N16 ha hp0 hp1 hk9999 hj9999 hk9999a hj9999a hk9999b hj9999b hk9999c hj9999c hk9999d hj9999d hk9999e hj9999e hk9999f hj9999f (XFr.call (XFr.call (by rw [hG2]; exact XFr.dput XFr.rf (List.mem_of_getElem? (i := 0) rfl)) hF10 (xm1 0 rfl xm0) (xm1 0 rfl (xm1 1 rfl (xm1 2 rfl (xm1 3 rfl (xm1 4 rfl (xm1 5 rfl xm0)))))) xm0) hF_16 (xm1 0 rfl xm0) (xm1 0 rfl (xm1 1 rfl (xm1 2 rfl (xm1 3 rfl (xm1 4 rfl (xm1 5 rfl xm0)))))) xm0) bkn cz e1 e3 t10 en13 I16_0 I16_1 I16_2 I16_3 hm16 c21 c28 ((hF_16.2.2 _ xn0).trans ((hF10.2.2 _ xn0).trans (ld_r hG2))))) mv_X2_goOn km_X2_32 rfl rfl ⟨Nat.le_of_ble_eq_true rfl, Nat.le_of_ble_eq_true rfl⟩ (rc_4 hK hT ha) hK (fun _ => XP.blind) (fun U hU hW => XP.at hK hz hS hT hU hW) rfl hl.1 (Nat.le_of_ble_eq_true rfl) dX2_cutRow_34 ⟨Nat.le_of_ble_eq_true rfl, Nat.le_of_ble_eq_true rfl⟩) hS ?_
          rintro G34 H locs ⟨hF34, t34, oq34, oq34a⟩ hT hS
          have t34 : 0 ≤ ((G34.1 a 4).toInt) ∧ ((G34.1 a 4).toInt) ≤ 90 := t34
          have z37 : (cnv (gst (G34.2.1 (F a 0)) (G34.2.1 (F a 1)) (G34.2.1 (F a 2)) (G34.2.1 (F a 3)) (Int.toNat ((G34.1 a 4).toInt)), (vw (G34.2.1 (F p0 0))))) = (cnv (gst (G_16.2.1 (F a 0)) (G_16.2.1 (F a 1)) (G_16.2.1 (F a 2)) (G_16.2.1 (F a 3)) (Int.toNat ((G_16.1 a 4).toInt)), (vw (G_16.2.1 (F p0 0))))) - 1 := oq34.2.2.2
          refine xi_iinc (n := 1) (lv' := fun z9 => [(5, .int z9), (0, .ref a), (1, .ref p0), (2, .ref p1)]) (k := 3) hx hb (rfl : Int32.toInt l5_16 = l5_16.toInt) (by decide) dX2_cutRow_37 hl rfl (by decide) (fun _ => rfl) (fun x37 ls t37 hl => ?_)
          have e37 : x37.toInt = (l5_16.toInt + 1) := (z_X2_cutRow_4 l5_16.toInt x37.toInt I16_0 t37)
          have hl : lv_has ls 6 [(5, .int x37), (0, .ref a), (1, .ref p0), (2, .ref p1)] := hl
          refine lv_goto (tgt := 16) hx hb dX2_cutRow_40 (by decide) ?_
          exact ih16 x37 G34 _ _ _ (XFr.call (XFr.call XFr.rf hF_16 (xm1 0 rfl xm0) (xm1 0 rfl (xm1 1 rfl (xm1 2 rfl (xm1 3 rfl (xm1 4 rfl (xm1 5 rfl xm0)))))) xm0) hF34 (xm1 0 rfl xm0) (xm1 0 rfl (xm1 1 rfl (xm1 2 rfl (xm1 3 rfl (xm1 4 rfl (xm1 5 rfl xm0)))))) xm0) (v_X2_cutRow_40_12 (F := F) a p0 p1 G34 G_16 oq34) (v_X2_cutRow_40_13 (K := K) (F := F) a p0 p1 G G34 G10 G_16 p2 p3 l5_16 N16 ha hp0 hp1 hk9999 hj9999 hk9999a hj9999a hk9999b hj9999b hk9999c hj9999c hk9999d hj9999d hk9999e hj9999e hk9999f hj9999f (XFr.call (XFr.call (XFr.call (by rw [hG2]; exact XFr.dput XFr.rf (List.mem_of_getElem? (i := 0) rfl)) hF10 (xm1 0 rfl xm0) (xm1 0 rfl (xm1 1 rfl (xm1 2 rfl (xm1 3 rfl (xm1 4 rfl (xm1 5 rfl xm0)))))) xm0) hF_16 (xm1 0 rfl xm0) (xm1 0 rfl (xm1 1 rfl (xm1 2 rfl (xm1 3 rfl (xm1 4 rfl (xm1 5 rfl xm0)))))) xm0) hF34 (xm1 0 rfl xm0) (xm1 0 rfl (xm1 1 rfl (xm1 2 rfl (xm1 3 rfl (xm1 4 rfl (xm1 5 rfl xm0)))))) xm0) hF34 bkn cz oq34 e1 e3 t10 en13 I16_0 I16_1 I16_2 I16_3 hm16 c21 c28 t34 z37 ((hF_16.2.2 _ xn0).trans ((hF10.2.2 _ xn0).trans (ld_r hG2)))) (v_X2_cutRow_40_14 (K := K) (F := F) a p0 p1 G G34 G10 G_16 p2 p3 l5_16 N16 ha hp0 hp1 hk9999 hj9999 hk9999a hj9999a hk9999b hj9999b hk9999c hj9999c hk9999d hj9999d hk9999e hj9999e hk9999f hj9999f (XFr.call (XFr.call (XFr.call (by rw [hG2]; exact XFr.dput XFr.rf (List.mem_of_getElem? (i := 0) rfl)) hF10 (xm1 0 rfl xm0) (xm1 0 rfl (xm1 1 rfl (xm1 2 rfl (xm1 3 rfl (xm1 4 rfl (xm1 5 rfl xm0)))))) xm0) hF_16 (xm1 0 rfl xm0) (xm1 0 rfl (xm1 1 rfl (xm1 2 rfl (xm1 3 rfl (xm1 4 rfl (xm1 5 rfl xm0)))))) xm0) hF34 (xm1 0 rfl xm0) (xm1 0 rfl (xm1 1 rfl (xm1 2 rfl (xm1 3 rfl (xm1 4 rfl (xm1 5 rfl xm0)))))) xm0) hF34 bkn cz fi oq34 e1 e3 t10 en13 I16_0 I16_1 I16_2 I16_3 hm16 c21 c28 t34 z37 ((hF_16.2.2 _ xn0).trans ((hF10.2.2 _ xn0).trans (ld_r hG2)))) (v_X2_cutRow_40_15 (F := F) p0 G34 oq34a) (by rw [(e37 : Int32.toInt x37 = (l5_16.toInt + 1))] <;> exact (z_X2_cutRow_5 l5_16.toInt I16_0 c21)) (t34) (by rw [(e37 : Int32.toInt x37 = (l5_16.toInt + 1))] <;> exact (z_X2_cutRow_7 l5_16.toInt (cnv (gst (G34.2.1 (F a 0)) (G34.2.1 (F a 1)) (G34.2.1 (F a 2)) (G34.2.1 (F a 3)) (Int.toNat ((G34.1 a 4).toInt)), (vw (G34.2.1 (F p0 0))))) (cnv (gst (G_16.2.1 (F a 0)) (G_16.2.1 (F a 1)) (G_16.2.1 (F a 2)) (G_16.2.1 (F a 3)) (Int.toNat ((G_16.1 a 4).toInt)), (vw (G_16.2.1 (F p0 0))))) I16_2 z37)) (by rw [(e37 : Int32.toInt x37 = (l5_16.toInt + 1))] <;> exact (z_X2_cutRow_8 l5_16.toInt I16_0)) (by rw [(e37 : Int32.toInt x37 = (l5_16.toInt + 1))] <;> exact (z_X2_cutRow_9 l5_16.toInt N16 hm16)) hT hS (lv_sub hl [1, 2, 3, 0] rfl)
  exact L16 4294967297 0 G10 _ _ _ XFr.rf (v_X2_cutRow_14_16 (K := K) (F := F) a p0 p1 G G10 G2 p2 p3 ha hp0 hp1 hro oq10 oq10a oq10b oq10c oq10d e1 e3 t10 en13 (ld_at hG2)) (v_X2_cutRow_14_17 (K := K) (F := F) a p0 p1 G G10 G2 p2 p3 ha hp0 hp1 oq10 oq10a oq10b oq10c e1 e3 t10 en13 (ld_at hG2)) (v_X2_cutRow_14_18 (K := K) (F := F) a p0 p1 G G10 G2 p2 p3 ha hp0 hp1 oq10 oq10a oq10b oq10c oq10d e1 e3 t10 en13 (ld_at hG2)) (v_X2_cutRow_14_19 (F := F) p0 G10 oq10e) (by decide) (z_X2_cutRow_10 ((G10.1 a 4).toInt) t10) (z_X2_cutRow_11 (cnv (gst (G10.2.1 (F a 0)) (G10.2.1 (F a 1)) (G10.2.1 (F a 2)) (G10.2.1 (F a 3)) (Int.toNat ((G10.1 a 4).toInt)), (vw (G10.2.1 (F p0 0))))) en13) (by decide) (by decide) hT hS (lv_sub hl [1, 2, 3, 0] rfl)

