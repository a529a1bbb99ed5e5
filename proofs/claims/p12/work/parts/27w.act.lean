theorem z_X10_tally_1 (a0 : Int) (h0 : -2147483648 ≤ a0 ∧ a0 < 2147483648) : ¬ (2147483648 - a0 < ((0 : Nat) : Int)) := by omega
theorem z_X10_tally_2 (a0 : Int) (a1 : Int) (a2 : Int) (h0 : (0 : Int) ≤ a0) (h1 : ¬ (a2 ≤ a0)) (h2 : a1 = (a0 + 1) ∨ (a0 + 1) < -2147483648 ∨ 2147483648 ≤ (a0 + 1)) (h3 : -2147483648 ≤ a2 ∧ a2 < 2147483648) : a1 = (a0 + 1) := by omega
theorem z_X10_tally_3 (a0 : Int) (h0 : (0 : Int) ≤ a0) : (0 : Int) ≤ (a0 + 1) := by omega
theorem z_X10_tally_4 (a0 : Int) (a1 : Nat) (h0 : 2147483648 - a0 < ((a1 + 1 : Nat) : Int)) : 2147483648 - (a0 + 1) < ((a1 : Nat) : Int) := by omega
abbrev rm_X10_tally : Room := { frames := 3, cells := 0, slots := 0, locals := 72 }
set_option maxHeartbeats 4000000 in
set_option maxRecDepth 100000 in
theorem c_X10_tally (l : Launch) (E : XE) (K : Nat → Nat) (F : Nat → Nat → Nat) (G : XG) (a : Nat) (p0 : Int32) (ha : K a = 12) (b0 : p0 = 0 ∨ p0 = 1) (rob : RO (vw (G.2.1 (F (F a 4) 0))) (aI (G.2.1 (F (F a 4) 1)))) (bkn : BKr K G (G.2.2.1 (F (F a 2) 0))) : Met l yX10_tally (xw yX10_tally cX10_tally 5 none) rm_X10_tally (va_Pc [.ref a, .int p0] (XP E K F G)) (XQv E (fun (u : XG) => XFr [] [F a 15] [] G u) (fun u H => TW E K F u H)) 0 0 (xA E) := by
  refine x_enter (by decide) (Nat.le_of_ble_eq_true rfl) ?_
  intro p e s m args below meth c Q S hr hlk hnm hQ hP ls hl
  obtain ⟨hz, hK, hT⟩ := hP
  obtain ⟨hx, hb, -, -, -⟩ := id S
  obtain ⟨H, hT, hS, hgo⟩ : ∃ H : Heap, TW E K F G H ∧ va_S (xA E) s.heap H [] ∧ H = s.heap := ⟨_, hT, va_S.rf, rfl⟩
  rw [← hgo]
  have hl : lv_has ls 5 [(0, .ref a), (1, .int p0)] := hl
  obtain ⟨hk9999, hj9999⟩ := fkX10_15 hT ha
  obtain ⟨hk9999a, hj9999a⟩ := fkX10_2 hT ha
  obtain ⟨hk9999b, hj9999b⟩ := fkX0_0 hT hk9999a
  obtain ⟨hk9999c, hj9999c⟩ := fkX10_4 hT ha
  obtain ⟨hk9999d, hj9999d⟩ := fkX6_0 hT hk9999c
  have hj9999e : F (F (F a 4) 0) 99 = 1 := by rw [hj9999d, hj9999c]
  obtain ⟨hk9999e, hj9999f⟩ := fkX6_1 hT hk9999c
  have hj9999g : F (F (F a 4) 1) 99 = 1 := by rw [hj9999f, hj9999c]
  refine lv_iconst (v := 0) hx hb dX10_tally_0 (by decide) ?_
  refine lv_istore_n (lv' := [(2, .int 0), (0, .ref a), (1, .int p0)]) hx hb dX10_tally_1 rfl hl (by decide) rfl (fun ls hl => ?_)
  have L2 : ∀ (N2 : Nat) (l2_2 : Int32) (G_2 : XG) (H : Heap) (locs : List Loc) (ls : Array Slot), XFr [] [F a 15] [] G G_2 → (0 : Int) ≤ l2_2.toInt → 2147483648 - l2_2.toInt < ((N2 : Nat) : Int) → TW E K F G_2 H → va_S (xA E) s.heap H locs → lv_has ls 5 [(0, .ref a), (1, .int p0), (2, .int l2_2)] → W p l e rm_X10_tally s m args below meth c H locs 0 0 Q (F0 m 2 ls []) := by
    intro N2
    induction N2 with
    | zero =>
      intro l2_2 G_2 H locs ls hF_2 I2_0 hm2
      exact absurd hm2 (z_X10_tally_1 l2_2.toInt (xr l2_2))
    | succ N2 ih2 =>
      intro l2_2 G_2 H locs ls hF_2 I2_0 hm2 hT hS hl
      refine lv_iload_n hx hb dX10_tally_2 rfl (lv_at hl 2 rfl) ?_
      refine lv_aload_n hx hb dX10_tally_3 rfl (lv_at hl 0 rfl) ?_
      obtain ⟨hk4, hj4⟩ := fkX10_9 hT ha
      refine gX10_9 S hK hT ha kf_X10_61 dX10_tally_4 (fun _ _ => ?_)
      refine x_clp (x_runV (b := (F a 9)) (As := []) (rest := [.int l2_2]) S (c_X4_size l E K F G_2 H (F a 9) hk4) mv_X4_size km_X10_232 rfl rfl ⟨Nat.le_of_ble_eq_true rfl, Nat.le_of_ble_eq_true rfl⟩ (rc_6 hK hT hk4) hK (fun _ => XPh.blind) (fun U hU hW => XPh.at hK hz hS hT hU hW) rfl hl.1 (Nat.le_of_ble_eq_true rfl) dX10_tally_7 ⟨Nat.le_of_ble_eq_true rfl, Nat.le_of_ble_eq_true rfl⟩) hS ?_
      rintro _ _ locs ⟨x7, rfl, t7⟩ hS
      have t7 : x7.toInt = ((G.1 (F a 9) 6).toInt) := by rw [(show (G_2.1 (F a 9) 6).toInt = ((G.1 (F a 9) 6).toInt) from (congrArg Int32.toInt (hF_2.1 _ _ xn0)).trans (rfl : Int32.toInt (G.1 (F a 9) 6) = ((G.1 (F a 9) 6).toInt)))] at t7; exact t7
      refine xi_cge (tgt := 132) hx hb (rfl : Int32.toInt l2_2 = l2_2.toInt) (t7 : Int32.toInt x7 = ((G.1 (F a 9) 6).toInt)) dX10_tally_10 (by decide) (fun c10 => ?_) (fun c10 => ?_)
      · exact x_rv hx hb hr hlk hQ (Nat.le_of_ble_eq_true rfl) (Nat.le_of_ble_eq_true rfl) hS dX10_tally_132 G_2 (XFr.call XFr.rf hF_2 xm0 (xm1 0 rfl xm0) xm0) hT
      · refine lv_aload_n hx hb dX10_tally_13 rfl (lv_at hl 0 rfl) ?_
        refine gX10_2 S hK hT ha kf_X10_30 dX10_tally_14 (fun _ _ => ?_)
        refine lv_aload_n hx hb dX10_tally_17 rfl (lv_at hl 0 rfl) ?_
        refine gX10_9 S hK hT ha kf_X10_61 dX10_tally_18 (fun _ _ => ?_)
        refine lv_iload_n hx hb dX10_tally_21 rfl (lv_at hl 2 rfl) ?_
        refine x_clp (x_runV (b := (F a 9)) (As := [.int l2_2]) (rest := [.ref (F a 2)]) S (c_X4_number l E K F G_2 H (F a 9) l2_2 hk4) mv_X4_number km_X10_301 rfl rfl ⟨Nat.le_of_ble_eq_true rfl, Nat.le_of_ble_eq_true rfl⟩ (rc_6 hK hT hk4) hK (fun _ => XPh.blind) (fun U hU hW => XPh.at hK hz hS hT hU hW) rfl hl.1 (Nat.le_of_ble_eq_true rfl) dX10_tally_22 ⟨Nat.le_of_ble_eq_true rfl, Nat.le_of_ble_eq_true rfl⟩) hS ?_
        rintro _ _ locs ⟨x22, rfl, t22⟩ hS
        obtain ⟨hk22, hj22⟩ := fkX4_0 hT hk4
        have hj22a : F (F (F a 9) 0) 99 = 10 * 1 + 0 := by rw [hj22, hj4]
        have t22 : ((0 ≤ l2_2.toInt ∧ l2_2.toInt < ((G.1 (F a 9) 6).toInt) ∧ l2_2.toInt < 1080) ∧ x22.toInt = (aI (G.2.1 (F (F a 9) 0)) (l2_2.toInt))) ∨ (¬ (0 ≤ l2_2.toInt ∧ l2_2.toInt < ((G.1 (F a 9) 6).toInt) ∧ l2_2.toInt < 1080) ∧ x22.toInt = -1) := by rw [(show (G_2.1 (F a 9) 6).toInt = ((G.1 (F a 9) 6).toInt) from (congrArg Int32.toInt (hF_2.1 _ _ xn0)).trans (rfl : Int32.toInt (G.1 (F a 9) 6) = ((G.1 (F a 9) 6).toInt)))] at t22; rw [(show G_2.2.1 (F (F a 9) 0) = G.2.1 (F (F a 9) 0) from (hF_2.2.1 _ (xn1 (xne_k hk22 hk9999 (by decide)) xn0)))] at t22; exact t22
        refine x_clp (x_runV (b := (F a 2)) (As := [.int x22]) (rest := []) S (c_X0_get l E K F G_2 H (F a 2) x22 hk9999a) mv_X0_get km_X10_159 rfl rfl ⟨Nat.le_of_ble_eq_true rfl, Nat.le_of_ble_eq_true rfl⟩ (rc_2 hK hT hk9999a) hK (fun _ => XPh.blind) (fun U hU hW => XPh.at hK hz hS hT hU hW) rfl hl.1 (Nat.le_of_ble_eq_true rfl) dX10_tally_25 ⟨Nat.le_of_ble_eq_true rfl, Nat.le_of_ble_eq_true rfl⟩) hS ?_
        rintro _ _ locs (⟨rfl, hn25⟩ | ⟨q25, rfl, hk25, ht25, hs25⟩) hS
        · refine lv_astore_nN (lv' := [(3, .null), (0, .ref a), (1, .int p0), (2, .int l2_2)]) hx hb dX10_tally_28 rfl hl (by decide) rfl (fun ls hl => ?_)
          refine lv_aload_nN hx hb dX10_tally_29 rfl (lv_at hl 0 rfl) ?_
          refine lv_ifnullN (tgt := 126) hx hb dX10_tally_30 (by decide) ?_
          refine xi_iinc (n := 1) (lv' := fun z9 => [(2, .int z9), (3, .null), (0, .ref a), (1, .int p0)]) (k := 3) hx hb (rfl : Int32.toInt l2_2 = l2_2.toInt) (by decide) dX10_tally_126 hl rfl (by decide) (fun _ => rfl) (fun x126 ls t126 hl => ?_)
          have e126 : x126.toInt = (l2_2.toInt + 1) := (z_X10_tally_2 l2_2.toInt x126.toInt ((G.1 (F a 9) 6).toInt) I2_0 c10 t126 (xr (G.1 (F a 9) 6)))
          have hl : lv_has ls 5 [(2, .int x126), (3, .null), (0, .ref a), (1, .int p0)] := hl
          refine lv_goto (tgt := 2) hx hb dX10_tally_129 (by decide) ?_
          exact ih2 x126 G_2 _ _ _ (XFr.call XFr.rf hF_2 xm0 (xm1 0 rfl xm0) xm0) (by rw [(e126 : Int32.toInt x126 = (l2_2.toInt + 1))] <;> exact (z_X10_tally_3 l2_2.toInt I2_0)) (by rw [(e126 : Int32.toInt x126 = (l2_2.toInt + 1))] <;> exact (z_X10_tally_4 l2_2.toInt N2 hm2)) hT hS (lv_sub hl [2, 3, 0] rfl)
        · have ht25 : 0 ≤ x22.toInt ∧ x22.toInt < 12 := ht25
          refine lv_astore_n (lv' := [(3, .ref q25), (0, .ref a), (1, .int p0), (2, .int l2_2)]) hx hb dX10_tally_28 rfl hl (by decide) rfl (fun ls hl => ?_)
          refine lv_aload_n hx hb dX10_tally_29 rfl (lv_at hl 0 rfl) ?_
          refine lv_ifnull hx hb dX10_tally_30 ?_
          refine lv_aload_n hx hb dX10_tally_33 rfl (lv_at hl 0 rfl) ?_
          refine gX7_9 S hK hT hk25 kf_X10_170 dX10_tally_34 (v := (G.1 q25 9)) (hF_2.1 _ _ xn0) (fun hz34 => ?_)
          refine xi_zne (tgt := 43) hx hb (rfl : Int32.toInt (G.1 q25 9) = ((G.1 q25 9).toInt)) dX10_tally_37 (by decide) (fun c37 => ?_) (fun c37 => ?_)
          · refine lv_aload_n hx hb dX10_tally_43 rfl (lv_at hl 0 rfl) ?_
            refine lv_aload_n hx hb dX10_tally_44 rfl (lv_at hl 1 rfl) ?_
            refine gX10_4 S hK hT ha kf_X10_41 dX10_tally_45 (fun _ _ => ?_)
            refine lv_aload_n hx hb dX10_tally_48 rfl (lv_at hl 1 rfl) ?_
            refine gX10_9 S hK hT ha kf_X10_61 dX10_tally_49 (fun _ _ => ?_)
            refine lv_iload_n hx hb dX10_tally_52 rfl (lv_at hl 3 rfl) ?_
            refine x_clp (x_runV (b := (F a 9)) (As := [.int l2_2]) (rest := [.ref (F a 4), .ref q25]) S (c_X4_subject l E K F G_2 H (F a 9) l2_2 hk4) mv_X4_subject km_X10_147 rfl rfl ⟨Nat.le_of_ble_eq_true rfl, Nat.le_of_ble_eq_true rfl⟩ (rc_6 hK hT hk4) hK (fun _ => XPh.blind) (fun U hU hW => XPh.at hK hz hS hT hU hW) rfl hl.1 (Nat.le_of_ble_eq_true rfl) dX10_tally_53 ⟨Nat.le_of_ble_eq_true rfl, Nat.le_of_ble_eq_true rfl⟩) hS ?_
            rintro _ _ locs ⟨x53, rfl, t53⟩ hS
            obtain ⟨hk53, hj53⟩ := fkX4_1 hT hk4
            have hj53a : F (F (F a 9) 1) 99 = 10 * 1 + 1 := by rw [hj53, hj4]
            have t53 : ((0 ≤ l2_2.toInt ∧ l2_2.toInt < ((G.1 (F a 9) 6).toInt) ∧ l2_2.toInt < 1080) ∧ x53.toInt = (aI (G.2.1 (F (F a 9) 1)) (l2_2.toInt))) ∨ (¬ (0 ≤ l2_2.toInt ∧ l2_2.toInt < ((G.1 (F a 9) 6).toInt) ∧ l2_2.toInt < 1080) ∧ x53.toInt = -1) := by rw [(show (G_2.1 (F a 9) 6).toInt = ((G.1 (F a 9) 6).toInt) from (congrArg Int32.toInt (hF_2.1 _ _ xn0)).trans (rfl : Int32.toInt (G.1 (F a 9) 6) = ((G.1 (F a 9) 6).toInt)))] at t53; rw [(show G_2.2.1 (F (F a 9) 1) = G.2.1 (F (F a 9) 1) from (hF_2.2.1 _ (xn1 (xne_k hk53 hk9999 (by decide)) xn0)))] at t53; exact t53
            refine x_clp (x_runV (b := q25) (As := [.ref (F a 4), .int x53]) (rest := []) S (c_X7_state l E K F G_2 H q25 (F a 4) x53 hk25 hk9999c (v_X10_tally_56_1 (F := F) a G G_2 rob (hF_2.2.1 _ (xn1 (xne_k hk9999d hk9999 (by decide)) xn0)) (hF_2.2.1 _ (xn1 (xne_k hk9999e hk9999 (by decide)) xn0))) (v_X10_tally_56_2 (K := K) (F := F) a q25 G G_2 x22 l2_2 N2 x53 ha bkn hs25 I2_0 hm2 c10 t22 ht25 (xzi hz34) c37 t53 (hF_2.2.2 _ xn0) (fr_A hF_2 (fun _ => xn0)))) mv_X7_state km_X10_328 rfl rfl ⟨Nat.le_of_ble_eq_true rfl, Nat.le_of_ble_eq_true rfl⟩ (rc_9 hK hT hk25) hK (fun _ => XPh.blind) (fun U hU hW => XPh.at hK hz hS hT hU hW) rfl hl.1 (Nat.le_of_ble_eq_true rfl) dX10_tally_56 ⟨Nat.le_of_ble_eq_true rfl, Nat.le_of_ble_eq_true rfl⟩) hS ?_
            rintro _ _ locs ⟨x56, rfl, t56⟩ hS
            have t56 : x56.toInt = (stt (vw (G.2.1 (F (F a 4) 0))) ((G.1 q25 0).toInt) ((G.1 q25 2).toInt) ((G.1 q25 3).toInt) ((G.1 q25 4).toInt) (x53.toInt)) := by rw [(show G_2.2.1 (F (F a 4) 0) = G.2.1 (F (F a 4) 0) from (hF_2.2.1 _ (xn1 (xne_k hk9999d hk9999 (by decide)) xn0)))] at t56; rw [(show (G_2.1 q25 0).toInt = ((G.1 q25 0).toInt) from (congrArg Int32.toInt (hF_2.1 _ _ xn0)).trans (rfl : Int32.toInt (G.1 q25 0) = ((G.1 q25 0).toInt)))] at t56; rw [(show (G_2.1 q25 2).toInt = ((G.1 q25 2).toInt) from (congrArg Int32.toInt (hF_2.1 _ _ xn0)).trans (rfl : Int32.toInt (G.1 q25 2) = ((G.1 q25 2).toInt)))] at t56; rw [(show (G_2.1 q25 3).toInt = ((G.1 q25 3).toInt) from (congrArg Int32.toInt (hF_2.1 _ _ xn0)).trans (rfl : Int32.toInt (G.1 q25 3) = ((G.1 q25 3).toInt)))] at t56; rw [(show (G_2.1 q25 4).toInt = ((G.1 q25 4).toInt) from (congrArg Int32.toInt (hF_2.1 _ _ xn0)).trans (rfl : Int32.toInt (G.1 q25 4) = ((G.1 q25 4).toInt)))] at t56; exact t56
            refine lv_istore (lv' := [(4, .int x56), (3, .ref q25), (0, .ref a), (1, .int p0), (2, .int l2_2)]) hx hb dX10_tally_59 hl (by decide) rfl (fun ls hl => ?_)
            refine lv_aload_n hx hb dX10_tally_61 rfl (lv_at hl 2 rfl) ?_
            refine gX10_9 S hK hT ha kf_X10_61 dX10_tally_62 (fun _ _ => ?_)
            refine lv_iload_n hx hb dX10_tally_65 rfl (lv_at hl 4 rfl) ?_
            refine x_clp (x_runV (b := (F a 9)) (As := [.int l2_2]) (rest := []) S (c_X4_before l E K F G_2 H (F a 9) l2_2 hk4) mv_X4_before km_X10_303 rfl rfl ⟨Nat.le_of_ble_eq_true rfl, Nat.le_of_ble_eq_true rfl⟩ (rc_6 hK hT hk4) hK (fun _ => XPh.blind) (fun U hU hW => XPh.at hK hz hS hT hU hW) rfl hl.1 (Nat.le_of_ble_eq_true rfl) dX10_tally_66 ⟨Nat.le_of_ble_eq_true rfl, Nat.le_of_ble_eq_true rfl⟩) hS ?_
            rintro _ _ locs ⟨x66, rfl, t66⟩ hS
            obtain ⟨hk66, hj66⟩ := fkX4_2 hT hk4
            have hj66a : F (F (F a 9) 2) 99 = 10 * 1 + 2 := by rw [hj66, hj4]
            have t66 : ((0 ≤ l2_2.toInt ∧ l2_2.toInt < ((G.1 (F a 9) 6).toInt) ∧ l2_2.toInt < 1080) ∧ x66.toInt = (aI (G.2.1 (F (F a 9) 2)) (l2_2.toInt))) ∨ (¬ (0 ≤ l2_2.toInt ∧ l2_2.toInt < ((G.1 (F a 9) 6).toInt) ∧ l2_2.toInt < 1080) ∧ x66.toInt = -2000) := by rw [(show (G_2.1 (F a 9) 6).toInt = ((G.1 (F a 9) 6).toInt) from (congrArg Int32.toInt (hF_2.1 _ _ xn0)).trans (rfl : Int32.toInt (G.1 (F a 9) 6) = ((G.1 (F a 9) 6).toInt)))] at t66; rw [(show G_2.2.1 (F (F a 9) 2) = G.2.1 (F (F a 9) 2) from (hF_2.2.1 _ (xn1 (xne_k hk66 hk9999 (by decide)) xn0)))] at t66; exact t66
            refine lv_iload hx hb dX10_tally_69 (lv_at hl 0 rfl) ?_
            refine xi_cne (tgt := 95) hx hb (rfl : Int32.toInt x66 = x66.toInt) (t56 : Int32.toInt x56 = (stt (vw (G.2.1 (F (F a 4) 0))) ((G.1 q25 0).toInt) ((G.1 q25 2).toInt) ((G.1 q25 3).toInt) ((G.1 q25 4).toInt) (x53.toInt))) dX10_tally_71 (by decide) (fun c71 => ?_) (fun c71 => ?_)
            · refine lv_aload_n hx hb dX10_tally_95 rfl (lv_at hl 2 rfl) ?_
              refine gX10_9 S hK hT ha kf_X10_61 dX10_tally_96 (fun _ _ => ?_)
              refine lv_iload_n hx hb dX10_tally_99 rfl (lv_at hl 4 rfl) ?_
              refine x_clp (x_runV (b := (F a 9)) (As := [.int l2_2]) (rest := []) S (c_X4_after l E K F G_2 H (F a 9) l2_2 hk4) mv_X4_after km_X10_306 rfl rfl ⟨Nat.le_of_ble_eq_true rfl, Nat.le_of_ble_eq_true rfl⟩ (rc_6 hK hT hk4) hK (fun _ => XPh.blind) (fun U hU hW => XPh.at hK hz hS hT hU hW) rfl hl.1 (Nat.le_of_ble_eq_true rfl) dX10_tally_100 ⟨Nat.le_of_ble_eq_true rfl, Nat.le_of_ble_eq_true rfl⟩) hS ?_
              rintro _ _ locs ⟨x100, rfl, t100⟩ hS
              obtain ⟨hk100, hj100⟩ := fkX4_3 hT hk4
              have hj100a : F (F (F a 9) 3) 99 = 10 * 1 + 3 := by rw [hj100, hj4]
              have t100 : ((0 ≤ l2_2.toInt ∧ l2_2.toInt < ((G.1 (F a 9) 6).toInt) ∧ l2_2.toInt < 1080) ∧ x100.toInt = (aI (G.2.1 (F (F a 9) 3)) (l2_2.toInt))) ∨ (¬ (0 ≤ l2_2.toInt ∧ l2_2.toInt < ((G.1 (F a 9) 6).toInt) ∧ l2_2.toInt < 1080) ∧ x100.toInt = -2000) := by rw [(show (G_2.1 (F a 9) 6).toInt = ((G.1 (F a 9) 6).toInt) from (congrArg Int32.toInt (hF_2.1 _ _ xn0)).trans (rfl : Int32.toInt (G.1 (F a 9) 6) = ((G.1 (F a 9) 6).toInt)))] at t100; rw [(show G_2.2.1 (F (F a 9) 3) = G.2.1 (F (F a 9) 3) from (hF_2.2.1 _ (xn1 (xne_k hk100 hk9999 (by decide)) xn0)))] at t100; exact t100
              refine lv_iload hx hb dX10_tally_103 (lv_at hl 0 rfl) ?_
              refine xi_cne (tgt := 126) hx hb (rfl : Int32.toInt x100 = x100.toInt) (t56 : Int32.toInt x56 = (stt (vw (G.2.1 (F (F a 4) 0))) ((G.1 q25 0).toInt) ((G.1 q25 2).toInt) ((G.1 q25 3).toInt) ((G.1 q25 4).toInt) (x53.toInt))) dX10_tally_105 (by decide) (fun c105 => ?_) (fun c105 => ?_)
              · refine xi_iinc (n := 1) (lv' := fun z9 => [(2, .int z9), (4, .int x56), (3, .ref q25), (0, .ref a), (1, .int p0)]) (k := 4) hx hb (rfl : Int32.toInt l2_2 = l2_2.toInt) (by decide) dX10_tally_126 hl rfl (by decide) (fun _ => rfl) (fun x126 ls t126 hl => ?_)
                have e126 : x126.toInt = (l2_2.toInt + 1) := (z_X10_tally_2 l2_2.toInt x126.toInt ((G.1 (F a 9) 6).toInt) I2_0 c10 t126 (xr (G.1 (F a 9) 6)))
                have hl : lv_has ls 5 [(2, .int x126), (4, .int x56), (3, .ref q25), (0, .ref a), (1, .int p0)] := hl
                refine lv_goto (tgt := 2) hx hb dX10_tally_129 (by decide) ?_
                exact ih2 x126 G_2 _ _ _ (XFr.call XFr.rf hF_2 xm0 (xm1 0 rfl xm0) xm0) (by rw [(e126 : Int32.toInt x126 = (l2_2.toInt + 1))] <;> exact (z_X10_tally_3 l2_2.toInt I2_0)) (by rw [(e126 : Int32.toInt x126 = (l2_2.toInt + 1))] <;> exact (z_X10_tally_4 l2_2.toInt N2 hm2)) hT hS (lv_sub hl [3, 4, 0] rfl)
              · refine lv_aload_n hx hb dX10_tally_108 rfl (lv_at hl 2 rfl) ?_
                refine gX10_15 S hK hT ha kf_X10_95 dX10_tally_109 (fun _ _ => ?_)
                refine lv_iload_n hx hb dX10_tally_112 rfl (lv_at hl 3 rfl) ?_
                refine xi_zeq (tgt := 120) hx hb (rfl : Int32.toInt p0 = p0.toInt) dX10_tally_113 (by decide) (fun c113 => ?_) (fun c113 => ?_)
                · refine lv_iconst (v := 1) hx hb dX10_tally_120 (by decide) ?_
                  refine lv_dup2_11 hx hb dX10_tally_121 rfl rfl ?_
                  refine al_0 S hK hT hk9999 ar_26 (by decide) (by decide) dX10_tally_122 (fun x122 hv122 o122 => ?_)
                  have hv122 : x122.toInt = (aI (G_2.2.1 (F a 15)) 1) := hv122.trans (by rw [((by decide) : Int32.toInt 1 = (1 : Int))])
                  refine lv_iconst (v := 1) hx hb dX10_tally_123 (by decide) ?_
                  refine xi_iadd hx hb (hv122 : Int32.toInt x122 = (aI (G_2.2.1 (F a 15)) 1)) ((by decide) : Int32.toInt 1 = (1 : Int)) dX10_tally_124 (fun x124 t124 => ?_)
                  refine as_0 (x := x124) S hK hT hS hk9999 ar_26 aw_26 (by decide) (by decide) dX10_tally_125 (fun H locs hT hS => ?_)
                  obtain ⟨G125, hG125⟩ : ∃ GG : XG, GG = cput G_2 (F a 15) (1 : Int32).toNatClampNeg x124 := ⟨_, rfl⟩
                  rw [← hG125] at hT
                  refine xi_iinc (n := 1) (lv' := fun z9 => [(2, .int z9), (4, .int x56), (3, .ref q25), (0, .ref a), (1, .int p0)]) (k := 4) hx hb (rfl : Int32.toInt l2_2 = l2_2.toInt) (by decide) dX10_tally_126 hl rfl (by decide) (fun _ => rfl) (fun x126 ls t126 hl => ?_)
                  have e126 : x126.toInt = (l2_2.toInt + 1) := (z_X10_tally_2 l2_2.toInt x126.toInt ((G.1 (F a 9) 6).toInt) I2_0 c10 t126 (xr (G.1 (F a 9) 6)))
                  have hl : lv_has ls 5 [(2, .int x126), (4, .int x56), (3, .ref q25), (0, .ref a), (1, .int p0)] := hl
                  refine lv_goto (tgt := 2) hx hb dX10_tally_129 (by decide) ?_
                  exact ih2 x126 G125 _ _ _ (by rw [hG125]; exact XFr.cput (XFr.call XFr.rf hF_2 xm0 (xm1 0 rfl xm0) xm0) (List.mem_of_getElem? (i := 0) rfl)) (by rw [(e126 : Int32.toInt x126 = (l2_2.toInt + 1))] <;> exact (z_X10_tally_3 l2_2.toInt I2_0)) (by rw [(e126 : Int32.toInt x126 = (l2_2.toInt + 1))] <;> exact (z_X10_tally_4 l2_2.toInt N2 hm2)) hT hS (lv_sub hl [3, 4, 0] rfl)
                · refine lv_iconst (v := 2) hx hb dX10_tally_116 (by decide) ?_
                  refine lv_goto (tgt := 121) hx hb dX10_tally_117 (by decide) ?_
                  refine lv_dup2_11 hx hb dX10_tally_121 rfl rfl ?_
                  refine al_0 S hK hT hk9999 ar_26 (by decide) (by decide) dX10_tally_122 (fun x122 hv122 o122 => ?_)
                  have hv122 : x122.toInt = (aI (G_2.2.1 (F a 15)) 2) := hv122.trans (by rw [((by decide) : Int32.toInt 2 = (2 : Int))])
                  refine lv_iconst (v := 1) hx hb dX10_tally_123 (by decide) ?_
                  refine xi_iadd hx hb (hv122 : Int32.toInt x122 = (aI (G_2.2.1 (F a 15)) 2)) ((by decide) : Int32.toInt 1 = (1 : Int)) dX10_tally_124 (fun x124 t124 => ?_)
                  refine as_0 (x := x124) S hK hT hS hk9999 ar_26 aw_26 (by decide) (by decide) dX10_tally_125 (fun H locs hT hS => ?_)
                  obtain ⟨G125, hG125⟩ : ∃ GG : XG, GG = cput G_2 (F a 15) (2 : Int32).toNatClampNeg x124 := ⟨_, rfl⟩
                  rw [← hG125] at hT
                  refine xi_iinc (n := 1) (lv' := fun z9 => [(2, .int z9), (4, .int x56), (3, .ref q25), (0, .ref a), (1, .int p0)]) (k := 4) hx hb (rfl : Int32.toInt l2_2 = l2_2.toInt) (by decide) dX10_tally_126 hl rfl (by decide) (fun _ => rfl) (fun x126 ls t126 hl => ?_)
                  have e126 : x126.toInt = (l2_2.toInt + 1) := (z_X10_tally_2 l2_2.toInt x126.toInt ((G.1 (F a 9) 6).toInt) I2_0 c10 t126 (xr (G.1 (F a 9) 6)))
                  have hl : lv_has ls 5 [(2, .int x126), (4, .int x56), (3, .ref q25), (0, .ref a), (1, .int p0)] := hl
                  refine lv_goto (tgt := 2) hx hb dX10_tally_129 (by decide) ?_
                  exact ih2 x126 G125 _ _ _ (by rw [hG125]; exact XFr.cput (XFr.call XFr.rf hF_2 xm0 (xm1 0 rfl xm0) xm0) (List.mem_of_getElem? (i := 0) rfl)) (by rw [(e126 : Int32.toInt x126 = (l2_2.toInt + 1))] <;> exact (z_X10_tally_3 l2_2.toInt I2_0)) (by rw [(e126 : Int32.toInt x126 = (l2_2.toInt + 1))] <;> exact (z_X10_tally_4 l2_2.toInt N2 hm2)) hT hS (lv_sub hl [3, 4, 0] rfl)
            · refine lv_aload_n hx hb dX10_tally_74 rfl (lv_at hl 2 rfl) ?_
              refine gX10_15 S hK hT ha kf_X10_95 dX10_tally_75 (fun _ _ => ?_)
              refine lv_iload_n hx hb dX10_tally_78 rfl (lv_at hl 3 rfl) ?_
              refine xi_zeq (tgt := 86) hx hb (rfl : Int32.toInt p0 = p0.toInt) dX10_tally_79 (by decide) (fun c79 => ?_) (fun c79 => ?_)
              · refine lv_iconst (v := 0) hx hb dX10_tally_86 (by decide) ?_
                refine lv_dup2_11 hx hb dX10_tally_87 rfl rfl ?_
                refine al_0 S hK hT hk9999 ar_26 (by decide) (by decide) dX10_tally_88 (fun x88 hv88 o88 => ?_)
                have hv88 : x88.toInt = (aI (G_2.2.1 (F a 15)) 0) := hv88.trans (by rw [((by decide) : Int32.toInt 0 = (0 : Int))])
                refine lv_iconst (v := 1) hx hb dX10_tally_89 (by decide) ?_
                refine xi_iadd hx hb (hv88 : Int32.toInt x88 = (aI (G_2.2.1 (F a 15)) 0)) ((by decide) : Int32.toInt 1 = (1 : Int)) dX10_tally_90 (fun x90 t90 => ?_)
                refine as_0 (x := x90) S hK hT hS hk9999 ar_26 aw_26 (by decide) (by decide) dX10_tally_91 (fun H locs hT hS => ?_)
                obtain ⟨G91, hG91⟩ : ∃ GG : XG, GG = cput G_2 (F a 15) (0 : Int32).toNatClampNeg x90 := ⟨_, rfl⟩
                rw [← hG91] at hT
                refine lv_goto (tgt := 126) hx hb dX10_tally_92 (by decide) ?_
                refine xi_iinc (n := 1) (lv' := fun z9 => [(2, .int z9), (4, .int x56), (3, .ref q25), (0, .ref a), (1, .int p0)]) (k := 4) hx hb (rfl : Int32.toInt l2_2 = l2_2.toInt) (by decide) dX10_tally_126 hl rfl (by decide) (fun _ => rfl) (fun x126 ls t126 hl => ?_)
                have e126 : x126.toInt = (l2_2.toInt + 1) := (z_X10_tally_2 l2_2.toInt x126.toInt ((G.1 (F a 9) 6).toInt) I2_0 c10 t126 (xr (G.1 (F a 9) 6)))
                have hl : lv_has ls 5 [(2, .int x126), (4, .int x56), (3, .ref q25), (0, .ref a), (1, .int p0)] := hl
                refine lv_goto (tgt := 2) hx hb dX10_tally_129 (by decide) ?_
                exact ih2 x126 G91 _ _ _ (by rw [hG91]; exact XFr.cput (XFr.call XFr.rf hF_2 xm0 (xm1 0 rfl xm0) xm0) (List.mem_of_getElem? (i := 0) rfl)) (by rw [(e126 : Int32.toInt x126 = (l2_2.toInt + 1))] <;> exact (z_X10_tally_3 l2_2.toInt I2_0)) (by rw [(e126 : Int32.toInt x126 = (l2_2.toInt + 1))] <;> exact (z_X10_tally_4 l2_2.toInt N2 hm2)) hT hS (lv_sub hl [3, 4, 0] rfl)
              · refine lv_iconst (v := 3) hx hb dX10_tally_82 (by decide) ?_
                refine lv_goto (tgt := 87) hx hb dX10_tally_83 (by decide) ?_
                refine lv_dup2_11 hx hb dX10_tally_87 rfl rfl ?_
                refine al_0 S hK hT hk9999 ar_26 (by decide) (by decide) dX10_tally_88 (fun x88 hv88 o88 => ?_)
                have hv88 : x88.toInt = (aI (G_2.2.1 (F a 15)) 3) := hv88.trans (by rw [((by decide) : Int32.toInt 3 = (3 : Int))])
                refine lv_iconst (v := 1) hx hb dX10_tally_89 (by decide) ?_
                refine xi_iadd hx hb (hv88 : Int32.toInt x88 = (aI (G_2.2.1 (F a 15)) 3)) ((by decide) : Int32.toInt 1 = (1 : Int)) dX10_tally_90 (fun x90 t90 => ?_)
                refine as_0 (x := x90) S hK hT hS hk9999 ar_26 aw_26 (by decide) (by decide) dX10_tally_91 (fun H locs hT hS => ?_)
                obtain ⟨G91, hG91⟩ : ∃ GG : XG, GG = cput G_2 (F a 15) (3 : Int32).toNatClampNeg x90 := ⟨_, rfl⟩
                rw [← hG91] at hT
                refine lv_goto (tgt := 126) hx hb dX10_tally_92 (by decide) ?_
                refine xi_iinc (n := 1) (lv' := fun z9 => [(2, .int z9), (4, .int x56), (3, .ref q25), (0, .ref a), (1, .int p0)]) (k := 4) hx hb (rfl : Int32.toInt l2_2 = l2_2.toInt) (by decide) dX10_tally_126 hl rfl (by decide) (fun _ => rfl) (fun x126 ls t126 hl => ?_)
                have e126 : x126.toInt = (l2_2.toInt + 1) := (z_X10_tally_2 l2_2.toInt x126.toInt ((G.1 (F a 9) 6).toInt) I2_0 c10 t126 (xr (G.1 (F a 9) 6)))
                have hl : lv_has ls 5 [(2, .int x126), (4, .int x56), (3, .ref q25), (0, .ref a), (1, .int p0)] := hl
                refine lv_goto (tgt := 2) hx hb dX10_tally_129 (by decide) ?_
                exact ih2 x126 G91 _ _ _ (by rw [hG91]; exact XFr.cput (XFr.call XFr.rf hF_2 xm0 (xm1 0 rfl xm0) xm0) (List.mem_of_getElem? (i := 0) rfl)) (by rw [(e126 : Int32.toInt x126 = (l2_2.toInt + 1))] <;> exact (z_X10_tally_3 l2_2.toInt I2_0)) (by rw [(e126 : Int32.toInt x126 = (l2_2.toInt + 1))] <;> exact (z_X10_tally_4 l2_2.toInt N2 hm2)) hT hS (lv_sub hl [3, 4, 0] rfl)
          · refine lv_goto (tgt := 126) hx hb dX10_tally_40 (by decide) ?_
            refine xi_iinc (n := 1) (lv' := fun z9 => [(2, .int z9), (3, .ref q25), (0, .ref a), (1, .int p0)]) (k := 3) hx hb (rfl : Int32.toInt l2_2 = l2_2.toInt) (by decide) dX10_tally_126 hl rfl (by decide) (fun _ => rfl) (fun x126 ls t126 hl => ?_)
            have e126 : x126.toInt = (l2_2.toInt + 1) := (z_X10_tally_2 l2_2.toInt x126.toInt ((G.1 (F a 9) 6).toInt) I2_0 c10 t126 (xr (G.1 (F a 9) 6)))
            have hl : lv_has ls 5 [(2, .int x126), (3, .ref q25), (0, .ref a), (1, .int p0)] := hl
            refine lv_goto (tgt := 2) hx hb dX10_tally_129 (by decide) ?_
            exact ih2 x126 G_2 _ _ _ (XFr.call XFr.rf hF_2 xm0 (xm1 0 rfl xm0) xm0) (by rw [(e126 : Int32.toInt x126 = (l2_2.toInt + 1))] <;> exact (z_X10_tally_3 l2_2.toInt I2_0)) (by rw [(e126 : Int32.toInt x126 = (l2_2.toInt + 1))] <;> exact (z_X10_tally_4 l2_2.toInt N2 hm2)) hT hS (lv_sub hl [2, 3, 0] rfl)
  exact L2 4294967297 0 G _ _ _ XFr.rf (by decide) (by decide) hT hS (lv_sub hl [1, 2, 0] rfl)

