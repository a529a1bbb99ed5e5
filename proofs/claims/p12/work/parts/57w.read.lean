theorem z_X5_takeWord_1 (a0 : Int) (h0 : ¬ (a0 ≠ 0)) : a0 = 0 := by omega
theorem z_X5_takeWord_2 (a0 : Int) (h0 : ¬ (a0 ≠ (1 : Int))) : a0 = 1 := by omega
theorem z_X5_takeWord_3 (a0 : Int) (a1 : Int) (a2 : Int) (a3 : Int) (h0 : 0 ≤ a1 ∧ a1 ≤ 80) (h1 : 0 ≤ a2 ∧ a2 ≤ a1) (h2 : 0 ≤ a3 ∧ a3 ≤ a1) (h3 : a0 = (a3 - a2) ∨ (a3 - a2) < -2147483648 ∨ 2147483648 ≤ (a3 - a2)) : a0 = (a3 - a2) := by omega
theorem z_X5_takeWord_4 (a0 : Int) (h0 : -2147483648 ≤ a0 ∧ a0 < 2147483648) : ¬ (2147483648 - a0 < ((0 : Nat) : Int)) := by omega
theorem z_X5_takeWord_7 (a0 : Int) (a1 : Int) (a2 : Int) (a3 : Nat) (a4 : Int) (a5 : Int) (a6 : Int) (h0 : 0 ≤ a4 ∧ a4 ≤ 80) (h1 : 0 ≤ a5 ∧ a5 ≤ a4) (h2 : 0 ≤ a6 ∧ a6 ≤ a4) (h3 : a1 = ((a3 : Nat) : Int)) (h4 : (a6 - a5) = a1) (h5 : 0 ≤ a0 ∧ a0 ≤ ((a3 : Nat) : Int)) (h6 : a2 = (a5 + a0) ∨ (a5 + a0) < -2147483648 ∨ 2147483648 ≤ (a5 + a0)) : a2 = (a5 + a0) := by omega
theorem z_X5_takeWord_9 (a0 : Int) (a1 : Int) (a2 : Nat) (h0 : 0 ≤ a0 ∧ a0 ≤ ((a2 : Nat) : Int)) (h1 : a1 = ((a2 : Nat) : Int)) (h2 : ¬ (a1 ≤ a0)) : 0 ≤ a0 ∧ a0 < ((a2 : Nat) : Int) := by omega
theorem z_X5_takeWord_10 (a0 : Int) (a1 : Nat) (h0 : 3 ≤ ((a1 : Nat) : Int) ∧ ((a1 : Nat) : Int) ≤ 7) (h1 : 0 ≤ a0 ∧ a0 ≤ ((a1 : Nat) : Int)) : 0 ≤ a0 ∧ a0 < 8 := by omega
theorem z_X5_takeWord_11 (a0 : Int) (a1 : Int) (a2 : Int) (a3 : Int) (a4 : Nat) (h0 : a1 = ((a4 : Nat) : Int)) (h1 : 0 ≤ a0 ∧ a0 ≤ ((a4 : Nat) : Int)) (h2 : a2 = ((a4 : Nat) : Int)) (h3 : ¬ (a2 ≤ a0)) (h4 : a3 = (a0 + 1) ∨ (a0 + 1) < -2147483648 ∨ 2147483648 ≤ (a0 + 1)) (h5 : -2147483648 ≤ a1 ∧ a1 < 2147483648) : a3 = (a0 + 1) := by omega
theorem z_X5_takeWord_12 (a0 : Int) (a1 : Int) (a2 : Nat) (h0 : 0 ≤ a0 ∧ a0 ≤ ((a2 : Nat) : Int)) (h1 : a1 = ((a2 : Nat) : Int)) (h2 : ¬ (a1 ≤ a0)) : 0 ≤ (a0 + 1) ∧ (a0 + 1) ≤ ((a2 : Nat) : Int) := by omega
theorem z_X5_takeWord_13 (a0 : Int) (a1 : Nat) (h0 : 0 ≤ a0 ∧ a0 ≤ ((a1 : Nat) : Int)) : (0 : Int) ≤ (a0 + 1) := by omega
theorem z_X5_takeWord_14 (a0 : Int) (a1 : Nat) (h0 : 2147483648 - a0 < ((a1 + 1 : Nat) : Int)) : 2147483648 - (a0 + 1) < ((a1 : Nat) : Int) := by omega
theorem z_X5_takeWord_15 (a0 : Nat) : 0 ≤ (0 : Int) ∧ (0 : Int) ≤ ((a0 : Nat) : Int) := by omega
abbrev rm_X5_takeWord : Room := { frames := 4, cells := 0, slots := 0, locals := 85 }
set_option maxHeartbeats 4000000 in
set_option maxRecDepth 100000 in
theorem c_X5_takeWord (l : Launch) (E : XE) (K : Nat → Nat) (F : Nat → Nat → Nat) (G : XG) (a : Nat) (p0 : Nat) (r1 : RSt) (ha : K a = 7) (hp0 : p0 < 10) (n0 : 0 ≤ ((G.1 (F a 0) 1).toInt) ∧ ((G.1 (F a 0) 1).toInt) ≤ 80) (hrd : RdI (tC (G.2.1 (F (F a 0) 0)) ((G.1 (F a 0) 1).toInt)) ((G.1 (F a 0) 1).toInt) r1 ((G.1 a 1).toInt) ((G.1 a 2).toInt) ((G.1 a 3).toInt) ((G.1 a 4).toInt) ((G.1 a 5).toInt)) : Met l yX5_takeWord (xw yX5_takeWord cX5_takeWord 3 (some .boolean)) rm_X5_takeWord (va_Pc [.ref a, .ref (E.2.2.2.2.1 p0)] (XP E K F G)) (XQ E (fun v (u : XG) => ∃ r : Int32, v = .int r ∧ (r = 0 ∨ r = 1) ∧ XFr [(a, 1), (a, 2), (a, 3), (a, 4)] [] [] G u ∧ (0 ≤ r.toInt ∧ r.toInt ≤ 1) ∧ (r.toInt = (tkW (tC (G.2.1 (F (F a 0) 0)) ((G.1 (F a 0) 1).toInt)) (kw p0) r1).1) ∧ (RdI (tC (G.2.1 (F (F a 0) 0)) ((G.1 (F a 0) 1).toInt)) ((G.1 (F a 0) 1).toInt) (tkW (tC (G.2.1 (F (F a 0) 0)) ((G.1 (F a 0) 1).toInt)) (kw p0) r1).2 ((u.1 a 1).toInt) ((u.1 a 2).toInt) ((u.1 a 3).toInt) ((u.1 a 4).toInt) ((u.1 a 5).toInt))) (fun u H => TW E K F u H)) 0 0 (xA E) := by
  refine x_enter (by decide) (Nat.le_of_ble_eq_true rfl) ?_
  intro p e s m args below meth c Q S hr hlk hnm hQ hP ls hl
  obtain ⟨hz, hK, hT⟩ := hP
  obtain ⟨hx, hb, -, -, -⟩ := id S
  obtain ⟨H, hT, hS, hgo⟩ : ∃ H : Heap, TW E K F G H ∧ va_S (xA E) s.heap H [] ∧ H = s.heap := ⟨_, hT, va_S.rf, rfl⟩
  rw [← hgo]
  have hl : lv_has ls 3 [(0, .ref a), (1, .ref (E.2.2.2.2.1 p0))] := hl
  obtain ⟨hk9999, hj9999⟩ := fkX5_0 hT ha
  obtain ⟨hk9999a, hj9999a⟩ := fkX8_0 hT hk9999
  have z0 : 0 ≤ ((G.1 a 2).toInt) ∧ ((G.1 a 2).toInt) ≤ ((G.1 (F a 0) 1).toInt) := hrd.2.2.2.1
  have z0a : 3 ≤ (((xlen.getD p0 0) : Nat) : Int) ∧ (((xlen.getD p0 0) : Nat) : Int) ≤ 7 := xlen_b hp0
  refine lv_aload_n hx hb dX5_takeWord_0 rfl (lv_at hl 0 rfl) ?_
  refine gX5_5 S hK hT ha kf_X5_15 dX5_takeWord_1 (v := (G.1 a 5)) rfl (fun hz1 => ?_)
  refine xi_zne (tgt := 31) hx hb (rfl : Int32.toInt (G.1 a 5) = ((G.1 a 5).toInt)) dX5_takeWord_4 (by decide) (fun c4 => ?_) (fun c4 => ?_)
  · refine lv_iconst (v := 0) hx hb dX5_takeWord_31 (by decide) ?_
    exact x_rz hx hb hr (xnz (Or.inl rfl)) hlk hQ (Nat.le_of_ble_eq_true rfl) (Nat.le_of_ble_eq_true rfl) hS dX5_takeWord_32 G ⟨_, rfl, (Or.inl rfl), XFr.rf, (by decide), (v_X5_takeWord_32_1 (K := K) (F := F) a G r1 p0 ha hrd hp0 n0 z0 z0a (xzi hz1) c4), (v_X5_takeWord_32_2 (K := K) (F := F) a G r1 p0 ha hrd hp0 n0 z0 z0a (xzi hz1) c4)⟩ hT
  · refine lv_aload_n hx hb dX5_takeWord_7 rfl (lv_at hl 0 rfl) ?_
    refine gX5_1 S hK hT ha kf_X5_75 dX5_takeWord_8 (v := (G.1 a 1)) rfl (?_)
    refine lv_iconst (v := 1) hx hb dX5_takeWord_11 (by decide) ?_
    refine xi_cne (tgt := 31) hx hb (rfl : Int32.toInt (G.1 a 1) = ((G.1 a 1).toInt)) ((by decide) : Int32.toInt 1 = (1 : Int)) dX5_takeWord_12 (by decide) (fun c12 => ?_) (fun c12 => ?_)
    · refine lv_iconst (v := 0) hx hb dX5_takeWord_31 (by decide) ?_
      exact x_rz hx hb hr (xnz (Or.inl rfl)) hlk hQ (Nat.le_of_ble_eq_true rfl) (Nat.le_of_ble_eq_true rfl) hS dX5_takeWord_32 G ⟨_, rfl, (Or.inl rfl), XFr.rf, (by decide), (v_X5_takeWord_32_3 (K := K) (F := F) a G r1 p0 ha hrd hp0 n0 z0 z0a (xzi hz1) c4 c12), (v_X5_takeWord_32_4 (K := K) (F := F) a G r1 p0 ha hrd hp0 n0 z0 z0a (xzi hz1) c4 c12)⟩ hT
    · have z15 : 0 ≤ ((G.1 a 3).toInt) ∧ ((G.1 a 3).toInt) ≤ ((G.1 (F a 0) 1).toInt) := rd_eb (tC_e _ _) hrd (z_X5_takeWord_1 ((G.1 a 5).toInt) c4) (Or.inl (z_X5_takeWord_2 ((G.1 a 1).toInt) c12))
      refine lv_aload_n hx hb dX5_takeWord_15 rfl (lv_at hl 0 rfl) ?_
      refine gX5_3 S hK hT ha kf_X5_19 dX5_takeWord_16 (v := (G.1 a 3)) rfl (?_)
      refine lv_aload_n hx hb dX5_takeWord_19 rfl (lv_at hl 0 rfl) ?_
      refine gX5_2 S hK hT ha kf_X5_78 dX5_takeWord_20 (v := (G.1 a 2)) rfl (?_)
      refine xi_isub hx hb (rfl : Int32.toInt (G.1 a 3) = ((G.1 a 3).toInt)) (rfl : Int32.toInt (G.1 a 2) = ((G.1 a 2).toInt)) dX5_takeWord_23 (fun x23 t23 => ?_)
      have e23 : x23.toInt = (((G.1 a 3).toInt) - ((G.1 a 2).toInt)) := (z_X5_takeWord_3 x23.toInt ((G.1 (F a 0) 1).toInt) ((G.1 a 2).toInt) ((G.1 a 3).toInt) n0 z0 z15 t23)
      refine lv_aload_n hx hb dX5_takeWord_24 rfl (lv_at hl 1 rfl) ?_
      refine x_clp (x_runV (b := (E.2.2.2.2.1 p0)) (As := []) (rest := [.int x23]) S (c_J0_length_8abf5 l E K F G H p0 (Nat.lt_of_lt_of_le hp0 (by decide))) mv_J0_length_8abf5 km_X5_92 rfl rfl ⟨Nat.le_of_ble_eq_true rfl, Nat.le_of_ble_eq_true rfl⟩ (vk_recv hK.2.2.2.1 (Nat.lt_of_lt_of_le hp0 (by decide)) hS) hK (fun _ => XPh.blind) (fun U hU hW => XPh.at hK hz hS hT hU hW) rfl hl.1 (Nat.le_of_ble_eq_true rfl) dX5_takeWord_25 ⟨Nat.le_of_ble_eq_true rfl, Nat.le_of_ble_eq_true rfl⟩) hS ?_
      rintro _ _ locs ⟨x25, rfl, t25⟩ hS
      refine xi_ceq (tgt := 33) hx hb (e23 : Int32.toInt x23 = (((G.1 a 3).toInt) - ((G.1 a 2).toInt))) (rfl : Int32.toInt x25 = x25.toInt) dX5_takeWord_28 (by decide) (fun c28 => ?_) (fun c28 => ?_)
      · refine lv_iconst (v := 0) hx hb dX5_takeWord_33 (by decide) ?_
        refine lv_istore_n (lv' := [(2, .int 0), (0, .ref a), (1, .ref (E.2.2.2.2.1 p0))]) hx hb dX5_takeWord_34 rfl hl (by decide) rfl (fun ls hl => ?_)
        have L35 : ∀ (N35 : Nat) (l2_35 : Int32) (H : Heap) (locs : List Loc) (ls : Array Slot), (∀ i : Nat, (i : Int) < l2_35.toInt → (tC (G.2.1 (F (F a 0) 0)) ((G.1 (F a 0) 1).toInt)) ((G.1 a 2).toInt + (i : Int)) = (kw p0).getD i 0) → 0 ≤ l2_35.toInt ∧ l2_35.toInt ≤ (((xlen.getD p0 0) : Nat) : Int) → (0 : Int) ≤ l2_35.toInt → 2147483648 - l2_35.toInt < ((N35 : Nat) : Int) → TW E K F G H → va_S (xA E) s.heap H locs → lv_has ls 3 [(0, .ref a), (1, .ref (E.2.2.2.2.1 p0)), (2, .int l2_35)] → W p l e rm_X5_takeWord s m args below meth c H locs 0 0 Q (F0 m 35 ls []) := by
          intro N35
          induction N35 with
          | zero =>
            intro l2_35 H locs ls pw I35_0 I35_1 hm35
            exact absurd hm35 (z_X5_takeWord_4 l2_35.toInt (xr l2_35))
          | succ N35 ih35 =>
            intro l2_35 H locs ls pw I35_0 I35_1 hm35 hT hS hl
            refine lv_iload_n hx hb dX5_takeWord_35 rfl (lv_at hl 2 rfl) ?_
            refine lv_aload_n hx hb dX5_takeWord_36 rfl (lv_at hl 1 rfl) ?_
            refine x_clp (x_runV (b := (E.2.2.2.2.1 p0)) (As := []) (rest := [.int l2_35]) S (c_J0_length_8abf5 l E K F G H p0 (Nat.lt_of_lt_of_le hp0 (by decide))) mv_J0_length_8abf5 km_X5_92 rfl rfl ⟨Nat.le_of_ble_eq_true rfl, Nat.le_of_ble_eq_true rfl⟩ (vk_recv hK.2.2.2.1 (Nat.lt_of_lt_of_le hp0 (by decide)) hS) hK (fun _ => XPh.blind) (fun U hU hW => XPh.at hK hz hS hT hU hW) rfl hl.1 (Nat.le_of_ble_eq_true rfl) dX5_takeWord_37 ⟨Nat.le_of_ble_eq_true rfl, Nat.le_of_ble_eq_true rfl⟩) hS ?_
            rintro _ _ locs ⟨x37, rfl, t37⟩ hS
            refine xi_cge (tgt := 72) hx hb (rfl : Int32.toInt l2_35 = l2_35.toInt) (rfl : Int32.toInt x37 = x37.toInt) dX5_takeWord_40 (by decide) (fun c40 => ?_) (fun c40 => ?_)
            · refine lv_aload_n hx hb dX5_takeWord_72 rfl (lv_at hl 0 rfl) ?_
              refine x_cv0 (x_runV (b := a) (As := []) (rest := []) S (c_X5_advance l E K F G a ha (n0) (z15)) mv_X5_advance km_X5_23 rfl rfl ⟨Nat.le_of_ble_eq_true rfl, Nat.le_of_ble_eq_true rfl⟩ (rc_7 hK hT ha) hK (fun _ => XP.blind) (fun U hU hW => XP.at hK hz hS hT hU hW) rfl hl.1 (Nat.le_of_ble_eq_true rfl) dX5_takeWord_73 ⟨Nat.le_of_ble_eq_true rfl, Nat.le_of_ble_eq_true rfl⟩) hS ?_
              rintro G73 H locs ⟨hF73, t73, oq73⟩ hT hS
              have t73 : (0 ≤ ((G73.1 a 2).toInt) ∧ ((G73.1 a 2).toInt) ≤ ((G.1 (F a 0) 1).toInt)) ∧ (0 ≤ ((G73.1 a 3).toInt) ∧ ((G73.1 a 3).toInt) ≤ ((G.1 (F a 0) 1).toInt)) := t73
              refine lv_iconst (v := 1) hx hb dX5_takeWord_76 (by decide) ?_
              exact x_rz hx hb hr (xnz (Or.inr rfl)) hlk hQ (Nat.le_of_ble_eq_true rfl) (Nat.le_of_ble_eq_true rfl) hS dX5_takeWord_77 G73 ⟨_, rfl, (Or.inr rfl), (XFr.call XFr.rf hF73 (xm1 0 rfl (xm1 1 rfl (xm1 2 rfl (xm1 3 rfl xm0)))) xm0 xm0), (by decide), (v_X5_takeWord_77_5 (K := K) (F := F) a G G73 r1 p0 l2_35 x25 N35 x37 ha hrd hp0 pw oq73 n0 z0 z0a (xzi hz1) c4 c12 z15 t25 c28 I35_0 I35_1 hm35 t37 c40 t73), (v_X5_takeWord_77_6 (K := K) (F := F) a G G73 r1 p0 l2_35 x25 N35 x37 ha hrd hp0 pw oq73 n0 z0 z0a (xzi hz1) c4 c12 z15 t25 c28 I35_0 I35_1 hm35 t37 c40 t73 (hF73.1 _ _ (xnj (by decide) (xnj (by decide) (xnj (by decide) (xnj (by decide) xn0))))))⟩ hT
            · refine lv_aload_n hx hb dX5_takeWord_43 rfl (lv_at hl 0 rfl) ?_
              refine gX5_0 S hK hT ha kf_X5_9 dX5_takeWord_44 (fun _ _ => ?_)
              refine lv_aload_n hx hb dX5_takeWord_47 rfl (lv_at hl 0 rfl) ?_
              refine gX5_2 S hK hT ha kf_X5_78 dX5_takeWord_48 (v := (G.1 a 2)) rfl (?_)
              refine lv_iload_n hx hb dX5_takeWord_51 rfl (lv_at hl 2 rfl) ?_
              refine xi_iadd hx hb (rfl : Int32.toInt (G.1 a 2) = ((G.1 a 2).toInt)) (rfl : Int32.toInt l2_35 = l2_35.toInt) dX5_takeWord_52 (fun x52 t52 => ?_)
              have e52 : x52.toInt = (((G.1 a 2).toInt) + l2_35.toInt) := (z_X5_takeWord_7 l2_35.toInt x25.toInt x52.toInt (xlen.getD p0 0) ((G.1 (F a 0) 1).toInt) ((G.1 a 2).toInt) ((G.1 a 3).toInt) n0 z0 z15 t25 c28 I35_0 t52)
              refine x_clp (x_runV (b := (F a 0)) (As := [.int x52]) (rest := []) S (c_X8_signAt l E K F G H (F a 0) x52 hk9999 (n0)) mv_X8_signAt km_X5_97 rfl rfl ⟨Nat.le_of_ble_eq_true rfl, Nat.le_of_ble_eq_true rfl⟩ (rc_10 hK hT hk9999) hK (fun _ => XPh.blind) (fun U hU hW => XPh.at hK hz hS hT hU hW) rfl hl.1 (Nat.le_of_ble_eq_true rfl) dX5_takeWord_53 ⟨Nat.le_of_ble_eq_true rfl, Nat.le_of_ble_eq_true rfl⟩) hS ?_
              rintro _ _ locs ⟨x53, rfl, b53, t53⟩ hS
              have t53 : x53.toInt = (tC (G.2.1 (F (F a 0) 0)) ((G.1 (F a 0) 1).toInt) (((G.1 a 2).toInt) + l2_35.toInt)) := by rw [(e52 : Int32.toInt x52 = (((G.1 a 2).toInt) + l2_35.toInt))] at t53; exact t53
              refine lv_aload_n hx hb dX5_takeWord_56 rfl (lv_at hl 1 rfl) ?_
              refine lv_iload_n hx hb dX5_takeWord_57 rfl (lv_at hl 2 rfl) ?_
              refine x_clp (x_runV (b := (E.2.2.2.2.1 p0)) (As := [.int l2_35]) (rest := [.int x53]) S (c_J0_charAtc l E K F G H p0 l2_35 (Nat.lt_of_lt_of_le hp0 (by decide)) (z_X5_takeWord_9 l2_35.toInt x37.toInt (xlen.getD p0 0) I35_0 t37 c40)) mv_J0_charAt_5068e km_X5_103 rfl rfl ⟨Nat.le_of_ble_eq_true rfl, Nat.le_of_ble_eq_true rfl⟩ (vk_recv hK.2.2.2.1 (Nat.lt_of_lt_of_le hp0 (by decide)) hS) hK (fun _ => XPh.blind) (fun U hU hW => XPh.at hK hz hS hT hU hW) rfl hl.1 (Nat.le_of_ble_eq_true rfl) dX5_takeWord_58 ⟨Nat.le_of_ble_eq_true rfl, Nat.le_of_ble_eq_true rfl⟩) hS ?_
              rintro _ _ locs ⟨x58, rfl, o58, t58⟩ hS
              have z61 : (xch p0 (l2_35.toInt)) = ((kw p0).getD (Int.toNat (l2_35.toInt)) 0) := xch_k hp0 (z_X5_takeWord_10 l2_35.toInt (xlen.getD p0 0) z0a I35_0)
              refine xi_ceq (tgt := 66) hx hb (rfl : Int32.toInt x53 = x53.toInt) (rfl : Int32.toInt x58 = x58.toInt) dX5_takeWord_61 (by decide) (fun c61 => ?_) (fun c61 => ?_)
              · refine xi_iinc (n := 1) (lv' := fun z9 => [(2, .int z9), (0, .ref a), (1, .ref (E.2.2.2.2.1 p0))]) (k := 2) hx hb (rfl : Int32.toInt l2_35 = l2_35.toInt) (by decide) dX5_takeWord_66 hl rfl (by decide) (fun _ => rfl) (fun x66 ls t66 hl => ?_)
                have e66 : x66.toInt = (l2_35.toInt + 1) := (z_X5_takeWord_11 l2_35.toInt x25.toInt x37.toInt x66.toInt (xlen.getD p0 0) t25 I35_0 t37 c40 t66 (xr x25))
                have hl : lv_has ls 3 [(2, .int x66), (0, .ref a), (1, .ref (E.2.2.2.2.1 p0))] := hl
                refine lv_goto (tgt := 35) hx hb dX5_takeWord_69 (by decide) ?_
                exact ih35 x66 _ _ _ (by rw [(e66 : Int32.toInt x66 = (l2_35.toInt + 1))] <;> exact (v_X5_takeWord_69_7 (K := K) (F := F) a G p0 l2_35 x25 N35 x37 x53 x58 ha hp0 pw n0 z0 z0a (xzi hz1) c4 c12 z15 t25 c28 I35_0 I35_1 hm35 t37 c40 t53 t58 z61 c61)) (by rw [(e66 : Int32.toInt x66 = (l2_35.toInt + 1))] <;> exact (z_X5_takeWord_12 l2_35.toInt x37.toInt (xlen.getD p0 0) I35_0 t37 c40)) (by rw [(e66 : Int32.toInt x66 = (l2_35.toInt + 1))] <;> exact (z_X5_takeWord_13 l2_35.toInt (xlen.getD p0 0) I35_0)) (by rw [(e66 : Int32.toInt x66 = (l2_35.toInt + 1))] <;> exact (z_X5_takeWord_14 l2_35.toInt N35 hm35)) hT hS (lv_sub hl [1, 2, 0] rfl)
              · refine lv_iconst (v := 0) hx hb dX5_takeWord_64 (by decide) ?_
                exact x_rz hx hb hr (xnz (Or.inl rfl)) hlk hQ (Nat.le_of_ble_eq_true rfl) (Nat.le_of_ble_eq_true rfl) hS dX5_takeWord_65 G ⟨_, rfl, (Or.inl rfl), XFr.rf, (by decide), (v_X5_takeWord_65_8 (K := K) (F := F) a G r1 p0 l2_35 x25 N35 x37 x53 x58 ha hrd hp0 n0 z0 z0a (xzi hz1) c4 c12 z15 t25 c28 I35_0 I35_1 hm35 t37 c40 t53 t58 z61 c61), (v_X5_takeWord_65_9 (K := K) (F := F) a G r1 p0 l2_35 x25 N35 x37 x53 x58 ha hrd hp0 n0 z0 z0a (xzi hz1) c4 c12 z15 t25 c28 I35_0 I35_1 hm35 t37 c40 t53 t58 z61 c61)⟩ hT
        exact L35 4294967297 0 _ _ _ (v_X5_takeWord_34_10 (K := K) (F := F) a G p0 x25 ha hp0 n0 z0 z0a (xzi hz1) c4 c12 z15 t25 c28) (z_X5_takeWord_15 (xlen.getD p0 0)) (by decide) (by decide) hT hS (lv_sub hl [1, 2, 0] rfl)
      · refine lv_iconst (v := 0) hx hb dX5_takeWord_31 (by decide) ?_
        exact x_rz hx hb hr (xnz (Or.inl rfl)) hlk hQ (Nat.le_of_ble_eq_true rfl) (Nat.le_of_ble_eq_true rfl) hS dX5_takeWord_32 G ⟨_, rfl, (Or.inl rfl), XFr.rf, (by decide), (v_X5_takeWord_32_11 (K := K) (F := F) a G r1 p0 x25 ha hrd hp0 n0 z0 z0a (xzi hz1) c4 c12 z15 t25 c28), (v_X5_takeWord_32_12 (K := K) (F := F) a G r1 p0 x25 ha hrd hp0 n0 z0 z0a (xzi hz1) c4 c12 z15 t25 c28)⟩ hT

theorem z_X5_takeNumber_2 (a0 : Int) (h0 : ¬ (a0 ≠ (2 : Int))) : a0 = 2 := by omega
abbrev rm_X5_takeNumber : Room := { frames := 3, cells := 0, slots := 0, locals := 64 }
set_option maxHeartbeats 4000000 in
set_option maxRecDepth 100000 in
theorem c_X5_takeNumber (l : Launch) (E : XE) (K : Nat → Nat) (F : Nat → Nat → Nat) (G : XG) (a : Nat) (p0 : Int32) (p1 : Int32) (r1 : RSt) (ha : K a = 7) (n0 : 0 ≤ ((G.1 (F a 0) 1).toInt) ∧ ((G.1 (F a 0) 1).toInt) ≤ 80) (hrd : RdI (tC (G.2.1 (F (F a 0) 0)) ((G.1 (F a 0) 1).toInt)) ((G.1 (F a 0) 1).toInt) r1 ((G.1 a 1).toInt) ((G.1 a 2).toInt) ((G.1 a 3).toInt) ((G.1 a 4).toInt) ((G.1 a 5).toInt)) : Met l yX5_takeNumber (xw yX5_takeNumber cX5_takeNumber 4 (some .int)) rm_X5_takeNumber (va_Pc [.ref a, .int p0, .int p1] (XP E K F G)) (XQ E (fun v (u : XG) => ∃ r : Int32, v = .int r ∧ XFr [(a, 1), (a, 2), (a, 3), (a, 4), (a, 5)] [] [] G u ∧ (r.toInt = (tkN (tC (G.2.1 (F (F a 0) 0)) ((G.1 (F a 0) 1).toInt)) p0.toInt p1.toInt r1).1) ∧ (RdI (tC (G.2.1 (F (F a 0) 0)) ((G.1 (F a 0) 1).toInt)) ((G.1 (F a 0) 1).toInt) (tkN (tC (G.2.1 (F (F a 0) 0)) ((G.1 (F a 0) 1).toInt)) p0.toInt p1.toInt r1).2 ((u.1 a 1).toInt) ((u.1 a 2).toInt) ((u.1 a 3).toInt) ((u.1 a 4).toInt) ((u.1 a 5).toInt))) (fun u H => TW E K F u H)) 0 0 (xA E) := by
  refine x_enter (by decide) (Nat.le_of_ble_eq_true rfl) ?_
  intro p e s m args below meth c Q S hr hlk hnm hQ hP ls hl
  obtain ⟨hz, hK, hT⟩ := hP
  obtain ⟨hx, hb, -, -, -⟩ := id S
  obtain ⟨H, hT, hS, hgo⟩ : ∃ H : Heap, TW E K F G H ∧ va_S (xA E) s.heap H [] ∧ H = s.heap := ⟨_, hT, va_S.rf, rfl⟩
  rw [← hgo]
  have hl : lv_has ls 4 [(0, .ref a), (1, .int p0), (2, .int p1)] := hl
  obtain ⟨hk9999, hj9999⟩ := fkX5_0 hT ha
  obtain ⟨hk9999a, hj9999a⟩ := fkX8_0 hT hk9999
  have z0 : 0 ≤ ((G.1 a 2).toInt) ∧ ((G.1 a 2).toInt) ≤ ((G.1 (F a 0) 1).toInt) := hrd.2.2.2.1
  refine lv_aload_n hx hb dX5_takeNumber_0 rfl (lv_at hl 0 rfl) ?_
  refine gX5_5 S hK hT ha kf_X5_15 dX5_takeNumber_1 (v := (G.1 a 5)) rfl (fun hz1 => ?_)
  refine xi_zne (tgt := 31) hx hb (rfl : Int32.toInt (G.1 a 5) = ((G.1 a 5).toInt)) dX5_takeNumber_4 (by decide) (fun c4 => ?_) (fun c4 => ?_)
  · refine lv_aload_n hx hb dX5_takeNumber_31 rfl (lv_at hl 0 rfl) ?_
    refine lv_iconst (v := 1) hx hb dX5_takeNumber_32 (by decide) ?_
    refine pX5_5 (v := 1) S hK hT hS ha kf_X5_15 (Or.inr rfl) dX5_takeNumber_33 (fun H locs hT hS => ?_)
    obtain ⟨G33, hG33⟩ : ∃ GG : XG, GG = dput G a 5 1 := ⟨_, rfl⟩
    rw [← hG33] at hT
    refine lv_iconst (v := 0) hx hb dX5_takeNumber_36 (by decide) ?_
    exact x_ri hx hb hr hlk hQ (Nat.le_of_ble_eq_true rfl) (Nat.le_of_ble_eq_true rfl) hS dX5_takeNumber_37 G33 ⟨_, rfl, (by rw [hG33]; exact XFr.dput XFr.rf (List.mem_of_getElem? (i := 4) rfl)), (v_X5_takeNumber_37_1 (K := K) (F := F) a G r1 p0 p1 ha hrd n0 z0 (xzi hz1) c4), (v_X5_takeNumber_37_2 (K := K) (F := F) a G33 G r1 p0 p1 ha hrd n0 z0 (xzi hz1) c4 (ld_j hG33 (by decide)) (ld_j hG33 (by decide)) (ld_j hG33 (by decide)) (ld_j hG33 (by decide)) (ld_at hG33))⟩ hT
  · refine lv_aload_n hx hb dX5_takeNumber_7 rfl (lv_at hl 0 rfl) ?_
    refine gX5_1 S hK hT ha kf_X5_75 dX5_takeNumber_8 (v := (G.1 a 1)) rfl (?_)
    refine lv_iconst (v := 2) hx hb dX5_takeNumber_11 (by decide) ?_
    refine xi_cne (tgt := 31) hx hb (rfl : Int32.toInt (G.1 a 1) = ((G.1 a 1).toInt)) ((by decide) : Int32.toInt 2 = (2 : Int)) dX5_takeNumber_12 (by decide) (fun c12 => ?_) (fun c12 => ?_)
    · refine lv_aload_n hx hb dX5_takeNumber_31 rfl (lv_at hl 0 rfl) ?_
      refine lv_iconst (v := 1) hx hb dX5_takeNumber_32 (by decide) ?_
      refine pX5_5 (v := 1) S hK hT hS ha kf_X5_15 (Or.inr rfl) dX5_takeNumber_33 (fun H locs hT hS => ?_)
      obtain ⟨G33, hG33⟩ : ∃ GG : XG, GG = dput G a 5 1 := ⟨_, rfl⟩
      rw [← hG33] at hT
      refine lv_iconst (v := 0) hx hb dX5_takeNumber_36 (by decide) ?_
      exact x_ri hx hb hr hlk hQ (Nat.le_of_ble_eq_true rfl) (Nat.le_of_ble_eq_true rfl) hS dX5_takeNumber_37 G33 ⟨_, rfl, (by rw [hG33]; exact XFr.dput XFr.rf (List.mem_of_getElem? (i := 4) rfl)), (v_X5_takeNumber_37_3 (K := K) (F := F) a G r1 p0 p1 ha hrd n0 z0 (xzi hz1) c4 c12), (v_X5_takeNumber_37_4 (K := K) (F := F) a G33 G r1 p0 p1 ha hrd n0 z0 (xzi hz1) c4 c12 (ld_j hG33 (by decide)) (ld_j hG33 (by decide)) (ld_j hG33 (by decide)) (ld_j hG33 (by decide)) (ld_at hG33))⟩ hT
    · refine lv_aload_n hx hb dX5_takeNumber_15 rfl (lv_at hl 0 rfl) ?_
      refine gX5_4 S hK hT ha kf_X5_89 dX5_takeNumber_16 (v := (G.1 a 4)) rfl (?_)
      refine lv_iload_n hx hb dX5_takeNumber_19 rfl (lv_at hl 1 rfl) ?_
      refine xi_clt (tgt := 31) hx hb (rfl : Int32.toInt (G.1 a 4) = ((G.1 a 4).toInt)) (rfl : Int32.toInt p0 = p0.toInt) dX5_takeNumber_20 (by decide) (fun c20 => ?_) (fun c20 => ?_)
      · refine lv_aload_n hx hb dX5_takeNumber_31 rfl (lv_at hl 0 rfl) ?_
        refine lv_iconst (v := 1) hx hb dX5_takeNumber_32 (by decide) ?_
        refine pX5_5 (v := 1) S hK hT hS ha kf_X5_15 (Or.inr rfl) dX5_takeNumber_33 (fun H locs hT hS => ?_)
        obtain ⟨G33, hG33⟩ : ∃ GG : XG, GG = dput G a 5 1 := ⟨_, rfl⟩
        rw [← hG33] at hT
        refine lv_iconst (v := 0) hx hb dX5_takeNumber_36 (by decide) ?_
        exact x_ri hx hb hr hlk hQ (Nat.le_of_ble_eq_true rfl) (Nat.le_of_ble_eq_true rfl) hS dX5_takeNumber_37 G33 ⟨_, rfl, (by rw [hG33]; exact XFr.dput XFr.rf (List.mem_of_getElem? (i := 4) rfl)), (v_X5_takeNumber_37_5 (K := K) (F := F) a G r1 p0 p1 ha hrd n0 z0 (xzi hz1) c4 c12 c20), (v_X5_takeNumber_37_6 (K := K) (F := F) a G33 G r1 p0 p1 ha hrd n0 z0 (xzi hz1) c4 c12 c20 (ld_j hG33 (by decide)) (ld_j hG33 (by decide)) (ld_j hG33 (by decide)) (ld_j hG33 (by decide)) (ld_at hG33))⟩ hT
      · refine lv_aload_n hx hb dX5_takeNumber_23 rfl (lv_at hl 0 rfl) ?_
        refine gX5_4 S hK hT ha kf_X5_89 dX5_takeNumber_24 (v := (G.1 a 4)) rfl (?_)
        refine lv_iload_n hx hb dX5_takeNumber_27 rfl (lv_at hl 2 rfl) ?_
        refine xi_cle (tgt := 38) hx hb (rfl : Int32.toInt (G.1 a 4) = ((G.1 a 4).toInt)) (rfl : Int32.toInt p1 = p1.toInt) dX5_takeNumber_28 (by decide) (fun c28 => ?_) (fun c28 => ?_)
        · have z38 : 0 ≤ ((G.1 a 3).toInt) ∧ ((G.1 a 3).toInt) ≤ ((G.1 (F a 0) 1).toInt) := rd_eb (tC_e _ _) hrd (z_X5_takeWord_1 ((G.1 a 5).toInt) c4) (Or.inr (z_X5_takeNumber_2 ((G.1 a 1).toInt) c12))
          refine lv_aload_n hx hb dX5_takeNumber_38 rfl (lv_at hl 0 rfl) ?_
          refine gX5_4 S hK hT ha kf_X5_89 dX5_takeNumber_39 (v := (G.1 a 4)) rfl (?_)
          refine lv_istore_n (lv' := [(3, .int (G.1 a 4)), (0, .ref a), (1, .int p0), (2, .int p1)]) hx hb dX5_takeNumber_42 rfl hl (by decide) rfl (fun ls hl => ?_)
          refine lv_aload_n hx hb dX5_takeNumber_43 rfl (lv_at hl 1 rfl) ?_
          refine x_cv0 (x_runV (b := a) (As := []) (rest := []) S (c_X5_advance l E K F G a ha (n0) (z38)) mv_X5_advance km_X5_23 rfl rfl ⟨Nat.le_of_ble_eq_true rfl, Nat.le_of_ble_eq_true rfl⟩ (rc_7 hK hT ha) hK (fun _ => XP.blind) (fun U hU hW => XP.at hK hz hS hT hU hW) rfl hl.1 (Nat.le_of_ble_eq_true rfl) dX5_takeNumber_44 ⟨Nat.le_of_ble_eq_true rfl, Nat.le_of_ble_eq_true rfl⟩) hS ?_
          rintro G44 H locs ⟨hF44, t44, oq44⟩ hT hS
          have t44 : (0 ≤ ((G44.1 a 2).toInt) ∧ ((G44.1 a 2).toInt) ≤ ((G.1 (F a 0) 1).toInt)) ∧ (0 ≤ ((G44.1 a 3).toInt) ∧ ((G44.1 a 3).toInt) ≤ ((G.1 (F a 0) 1).toInt)) := t44
          refine lv_iload_n hx hb dX5_takeNumber_47 rfl (lv_at hl 0 rfl) ?_
          exact x_ri hx hb hr hlk hQ (Nat.le_of_ble_eq_true rfl) (Nat.le_of_ble_eq_true rfl) hS dX5_takeNumber_48 G44 ⟨_, rfl, (XFr.call XFr.rf hF44 (xm1 0 rfl (xm1 1 rfl (xm1 2 rfl (xm1 3 rfl xm0)))) xm0 xm0), (v_X5_takeNumber_48_7 (K := K) (F := F) a G G44 r1 p0 p1 ha hrd oq44 n0 z0 (xzi hz1) c4 c12 c20 c28 z38 t44), (v_X5_takeNumber_48_8 (K := K) (F := F) a G G44 r1 p0 p1 ha hrd oq44 n0 z0 (xzi hz1) c4 c12 c20 c28 z38 t44 (hF44.1 _ _ (xnj (by decide) (xnj (by decide) (xnj (by decide) (xnj (by decide) xn0))))))⟩ hT
        · refine lv_aload_n hx hb dX5_takeNumber_31 rfl (lv_at hl 0 rfl) ?_
          refine lv_iconst (v := 1) hx hb dX5_takeNumber_32 (by decide) ?_
          refine pX5_5 (v := 1) S hK hT hS ha kf_X5_15 (Or.inr rfl) dX5_takeNumber_33 (fun H locs hT hS => ?_)
          obtain ⟨G33, hG33⟩ : ∃ GG : XG, GG = dput G a 5 1 := ⟨_, rfl⟩
          rw [← hG33] at hT
          refine lv_iconst (v := 0) hx hb dX5_takeNumber_36 (by decide) ?_
          exact x_ri hx hb hr hlk hQ (Nat.le_of_ble_eq_true rfl) (Nat.le_of_ble_eq_true rfl) hS dX5_takeNumber_37 G33 ⟨_, rfl, (by rw [hG33]; exact XFr.dput XFr.rf (List.mem_of_getElem? (i := 4) rfl)), (v_X5_takeNumber_37_9 (K := K) (F := F) a G r1 p0 p1 ha hrd n0 z0 (xzi hz1) c4 c12 c20 c28), (v_X5_takeNumber_37_10 (K := K) (F := F) a G33 G r1 p0 p1 ha hrd n0 z0 (xzi hz1) c4 c12 c20 c28 (ld_j hG33 (by decide)) (ld_j hG33 (by decide)) (ld_j hG33 (by decide)) (ld_j hG33 (by decide)) (ld_at hG33))⟩ hT

theorem z_X5_takeKind_1 (a0 : Int) (h0 : 0 ≤ a0 ∧ a0 ≤ 6) : ¬ (2147483648 - a0 < ((0 : Nat) : Int)) := by omega
theorem z_X5_takeKind_3 (a0 : Int) (a1 : Int) (h0 : 0 ≤ a0 ∧ a0 ≤ 6) (h1 : a1 = (a0 + 1) ∨ (a0 + 1) < -2147483648 ∨ 2147483648 ≤ (a0 + 1)) : a1 = (a0 + 1) := by omega
theorem z_X5_takeKind_4 (a0 : Int) (h0 : 0 ≤ a0 ∧ a0 ≤ 6) (h1 : ¬ ((6 : Int) ≤ a0)) : 0 ≤ (a0 + 1) ∧ (a0 + 1) ≤ 6 := by omega
theorem z_X5_takeKind_5 (a0 : Int) (h0 : 0 ≤ a0 ∧ a0 ≤ 6) : (0 : Int) ≤ (a0 + 1) := by omega
theorem z_X5_takeKind_7 (a0 : Int) (h0 : 0 ≤ a0 ∧ a0 ≤ 6) (h1 : ¬ ((6 : Int) ≤ a0)) : 0 ≤ a0 ∧ a0 ≤ 5 := by omega
abbrev rm_X5_takeKind : Room := { frames := 5, cells := 0, slots := 0, locals := 107 }
set_option maxHeartbeats 4000000 in
set_option maxRecDepth 100000 in
theorem c_X5_takeKind (l : Launch) (E : XE) (K : Nat → Nat) (F : Nat → Nat → Nat) (G : XG) (a : Nat) (r1 : RSt) (ha : K a = 7) (n0 : 0 ≤ ((G.1 (F a 0) 1).toInt) ∧ ((G.1 (F a 0) 1).toInt) ≤ 80) (hrd : RdI (tC (G.2.1 (F (F a 0) 0)) ((G.1 (F a 0) 1).toInt)) ((G.1 (F a 0) 1).toInt) r1 ((G.1 a 1).toInt) ((G.1 a 2).toInt) ((G.1 a 3).toInt) ((G.1 a 4).toInt) ((G.1 a 5).toInt)) : Met l yX5_takeKind (xw yX5_takeKind cX5_takeKind 2 (some .int)) rm_X5_takeKind (va_Pc [.ref a] (XP E K F G)) (XQ E (fun v (u : XG) => ∃ r : Int32, v = .int r ∧ XFr [(a, 1), (a, 2), (a, 3), (a, 4), (a, 5)] [] [] G u ∧ (0 ≤ r.toInt ∧ r.toInt ≤ 5) ∧ (r.toInt = (tkK (tC (G.2.1 (F (F a 0) 0)) ((G.1 (F a 0) 1).toInt)) r1).1) ∧ (RdI (tC (G.2.1 (F (F a 0) 0)) ((G.1 (F a 0) 1).toInt)) ((G.1 (F a 0) 1).toInt) (tkK (tC (G.2.1 (F (F a 0) 0)) ((G.1 (F a 0) 1).toInt)) r1).2 ((u.1 a 1).toInt) ((u.1 a 2).toInt) ((u.1 a 3).toInt) ((u.1 a 4).toInt) ((u.1 a 5).toInt))) (fun u H => TW E K F u H)) 0 0 (xA E) := by
  refine x_enter (by decide) (Nat.le_of_ble_eq_true rfl) ?_
  intro p e s m args below meth c Q S hr hlk hnm hQ hP ls hl
  obtain ⟨hz, hK, hT⟩ := hP
  obtain ⟨hx, hb, -, -, -⟩ := id S
  obtain ⟨H, hT, hS, hgo⟩ : ∃ H : Heap, TW E K F G H ∧ va_S (xA E) s.heap H [] ∧ H = s.heap := ⟨_, hT, va_S.rf, rfl⟩
  rw [← hgo]
  have hl : lv_has ls 2 [(0, .ref a)] := hl
  obtain ⟨hk9999, hj9999⟩ := fkX5_0 hT ha
  obtain ⟨hk9999a, hj9999a⟩ := fkX8_0 hT hk9999
  refine lv_iconst (v := 0) hx hb dX5_takeKind_0 (by decide) ?_
  refine lv_istore_n (lv' := [(1, .int 0), (0, .ref a)]) hx hb dX5_takeKind_1 rfl hl (by decide) rfl (fun ls hl => ?_)
  have L2 : ∀ (N2 : Nat) (l1_2 : Int32) (G_2 : XG) (H : Heap) (locs : List Loc) (ls : Array Slot), XFr [(a, 1), (a, 2), (a, 3), (a, 4)] [] [] G G_2 → (∀ k : Nat, (k : Int) < l1_2.toInt → (tkW (tC (G.2.1 (F (F a 0) 0)) ((G.1 (F a 0) 1).toInt)) (kw k) r1).1 ≠ 1) → RdI (tC (G.2.1 (F (F a 0) 0)) ((G.1 (F a 0) 1).toInt)) ((G.1 (F a 0) 1).toInt) r1 ((G_2.1 a 1).toInt) ((G_2.1 a 2).toInt) ((G_2.1 a 3).toInt) ((G_2.1 a 4).toInt) ((G.1 a 5).toInt) → 0 ≤ l1_2.toInt ∧ l1_2.toInt ≤ 6 → (0 : Int) ≤ l1_2.toInt → 2147483648 - l1_2.toInt < ((N2 : Nat) : Int) → TW E K F G_2 H → va_S (xA E) s.heap H locs → lv_has ls 2 [(0, .ref a), (1, .int l1_2)] → W p l e rm_X5_takeKind s m args below meth c H locs 0 0 Q (F0 m 2 ls []) := by
    intro N2
    induction N2 with
    | zero =>
      intro l1_2 G_2 H locs ls hF_2 pk rd I2_0 I2_1 hm2
      exact absurd hm2 (z_X5_takeKind_1 l1_2.toInt I2_0)
    | succ N2 ih2 =>
      intro l1_2 G_2 H locs ls hF_2 pk rd I2_0 I2_1 hm2 hT hS hl
      refine lv_iload_n hx hb dX5_takeKind_2 rfl (lv_at hl 1 rfl) ?_
      refine lv_bipush (v := 6) hx hb dX5_takeKind_3 (by decide) ?_
      refine xi_cge (tgt := 27) hx hb (rfl : Int32.toInt l1_2 = l1_2.toInt) ((by decide) : Int32.toInt 6 = (6 : Int)) dX5_takeKind_5 (by decide) (fun c5 => ?_) (fun c5 => ?_)
      · refine lv_aload_n hx hb dX5_takeKind_27 rfl (lv_at hl 0 rfl) ?_
        refine lv_iconst (v := 1) hx hb dX5_takeKind_28 (by decide) ?_
        refine pX5_5 (v := 1) S hK hT hS ha kf_X5_15 (Or.inr rfl) dX5_takeKind_29 (fun H locs hT hS => ?_)
        obtain ⟨G29, hG29⟩ : ∃ GG : XG, GG = dput G_2 a 5 1 := ⟨_, rfl⟩
        rw [← hG29] at hT
        refine lv_iconst (v := 0) hx hb dX5_takeKind_32 (by decide) ?_
        exact x_ri hx hb hr hlk hQ (Nat.le_of_ble_eq_true rfl) (Nat.le_of_ble_eq_true rfl) hS dX5_takeKind_33 G29 ⟨_, rfl, (by rw [hG29]; exact XFr.dput (XFr.call XFr.rf hF_2 (xm1 0 rfl (xm1 1 rfl (xm1 2 rfl (xm1 3 rfl xm0)))) xm0 xm0) (List.mem_of_getElem? (i := 4) rfl)), (by decide), (v_X5_takeKind_33_1 (K := K) (F := F) a G r1 l1_2 N2 ha pk n0 I2_0 I2_1 hm2 c5), (v_X5_takeKind_33_2 (K := K) (F := F) a G G_2 G29 r1 l1_2 N2 ha pk rd n0 I2_0 I2_1 hm2 c5 (ld_j hG29 (by decide)) (ld_j hG29 (by decide)) (ld_j hG29 (by decide)) (ld_j hG29 (by decide)) (ld_at hG29))⟩ hT
      · refine lv_aload_n hx hb dX5_takeKind_8 rfl (lv_at hl 0 rfl) ?_
        refine lv_iload_n hx hb dX5_takeKind_9 rfl (lv_at hl 1 rfl) ?_
        refine x_clp (x_runSN (As := [.int l1_2]) (rest := [.ref a]) S (c_X10_wordOf l E K F G_2 H l1_2) ms_X10_wordOf (by decide +kernel) rfl rfl ⟨Nat.le_of_ble_eq_true rfl, Nat.le_of_ble_eq_true rfl⟩ hK (fun _ => XPh.blind) (fun U hU hW => XPh.at hK hz hS hT hU hW) rfl hl.1 (Nat.le_of_ble_eq_true rfl) dX5_takeKind_10 ⟨Nat.le_of_ble_eq_true rfl, Nat.le_of_ble_eq_true rfl⟩) hS ?_
        rintro _ _ locs ⟨q10, hi10, rfl, hw10⟩ hS
        refine x_cl0 (x_runV (b := a) (As := [.ref (E.2.2.2.2.1 q10)]) (rest := []) S (c_X5_takeWord l E K F G_2 a q10 r1 ha (Nat.lt_of_lt_of_le hi10 (by decide)) (by rw [(show (G_2.1 (F a 0) 1).toInt = ((G.1 (F a 0) 1).toInt) from (congrArg Int32.toInt (hF_2.1 _ _ (xna (xne_k hk9999 ha (by decide)) (xnj (by decide) (xnj (by decide) (xnj (by decide) xn0)))))).trans (rfl : Int32.toInt (G.1 (F a 0) 1) = ((G.1 (F a 0) 1).toInt)))] <;> exact (n0)) (v_X5_takeKind_13_3 (F := F) a G G_2 r1 rd (hF_2.2.1 _ xn0) (hF_2.1 _ _ (xna (xne_k hk9999 ha (by decide)) (xnj (by decide) (xnj (by decide) (xnj (by decide) xn0))))) (hF_2.1 _ _ (xnj (by decide) (xnj (by decide) (xnj (by decide) (xnj (by decide) xn0))))))) mv_X5_takeWord km_X5_65 rfl rfl ⟨Nat.le_of_ble_eq_true rfl, Nat.le_of_ble_eq_true rfl⟩ (rc_7 hK hT ha) hK (fun _ => XP.blind) (fun U hU hW => XP.at hK hz hS hT hU hW) rfl hl.1 (Nat.le_of_ble_eq_true rfl) dX5_takeKind_13 ⟨Nat.le_of_ble_eq_true rfl, Nat.le_of_ble_eq_true rfl⟩) hS ?_
        rintro _ G13 H locs ⟨x13, rfl, b13, hF13, t13, oq13, oq13a⟩ hT hS
        have t13 : 0 ≤ x13.toInt ∧ x13.toInt ≤ 1 := t13
        have oq13 : x13.toInt = (tkW (tC (G.2.1 (F (F a 0) 0)) ((G.1 (F a 0) 1).toInt)) (kw q10) r1).1 := by simp only [(show G_2.2.1 (F (F a 0) 0) = G.2.1 (F (F a 0) 0) from (hF_2.2.1 _ xn0)), (show G_2.1 (F a 0) 1 = G.1 (F a 0) 1 from (hF_2.1 _ _ (xna (xne_k hk9999 ha (by decide)) (xnj (by decide) (xnj (by decide) (xnj (by decide) xn0))))))] at oq13; exact oq13
        have oq13a : RdI (tC (G.2.1 (F (F a 0) 0)) ((G.1 (F a 0) 1).toInt)) ((G.1 (F a 0) 1).toInt) (tkW (tC (G.2.1 (F (F a 0) 0)) ((G.1 (F a 0) 1).toInt)) (kw q10) r1).2 ((G13.1 a 1).toInt) ((G13.1 a 2).toInt) ((G13.1 a 3).toInt) ((G13.1 a 4).toInt) ((G13.1 a 5).toInt) := by simp only [(show G_2.2.1 (F (F a 0) 0) = G.2.1 (F (F a 0) 0) from (hF_2.2.1 _ xn0)), (show G_2.1 (F a 0) 1 = G.1 (F a 0) 1 from (hF_2.1 _ _ (xna (xne_k hk9999 ha (by decide)) (xnj (by decide) (xnj (by decide) (xnj (by decide) xn0))))))] at oq13a; exact oq13a
        refine xi_zeq (tgt := 21) hx hb (rfl : Int32.toInt x13 = x13.toInt) dX5_takeKind_16 (by decide) (fun c16 => ?_) (fun c16 => ?_)
        · refine xi_iinc (n := 1) (lv' := fun z9 => [(1, .int z9), (0, .ref a)]) (k := 1) hx hb (rfl : Int32.toInt l1_2 = l1_2.toInt) (by decide) dX5_takeKind_21 hl rfl (by decide) (fun _ => rfl) (fun x21 ls t21 hl => ?_)
          have e21 : x21.toInt = (l1_2.toInt + 1) := (z_X5_takeKind_3 l1_2.toInt x21.toInt I2_0 t21)
          have hl : lv_has ls 2 [(1, .int x21), (0, .ref a)] := hl
          refine lv_goto (tgt := 2) hx hb dX5_takeKind_24 (by decide) ?_
          exact ih2 x21 G13 _ _ _ (XFr.call (XFr.call XFr.rf hF_2 (xm1 0 rfl (xm1 1 rfl (xm1 2 rfl (xm1 3 rfl xm0)))) xm0 xm0) hF13 (xm1 0 rfl (xm1 1 rfl (xm1 2 rfl (xm1 3 rfl xm0)))) xm0 xm0) (by rw [(e21 : Int32.toInt x21 = (l1_2.toInt + 1))] <;> exact (v_X5_takeKind_24_4 (K := K) (F := F) a G r1 l1_2 x13 q10 N2 ha pk oq13 n0 I2_0 I2_1 hm2 c5 hw10 t13 (xzi b13) c16)) (v_X5_takeKind_24_5 (K := K) (F := F) a G G13 r1 l1_2 x13 q10 N2 ha oq13 oq13a n0 I2_0 I2_1 hm2 c5 hw10 t13 (xzi b13) c16 ((hF13.1 _ _ (xnj (by decide) (xnj (by decide) (xnj (by decide) (xnj (by decide) xn0))))).trans (hF_2.1 _ _ (xnj (by decide) (xnj (by decide) (xnj (by decide) (xnj (by decide) xn0))))))) (by rw [(e21 : Int32.toInt x21 = (l1_2.toInt + 1))] <;> exact (z_X5_takeKind_4 l1_2.toInt I2_0 c5)) (by rw [(e21 : Int32.toInt x21 = (l1_2.toInt + 1))] <;> exact (z_X5_takeKind_5 l1_2.toInt I2_0)) (by rw [(e21 : Int32.toInt x21 = (l1_2.toInt + 1))] <;> exact (z_X5_takeWord_14 l1_2.toInt N2 hm2)) hT hS (lv_sub hl [1, 0] rfl)
        · refine lv_iload_n hx hb dX5_takeKind_19 rfl (lv_at hl 1 rfl) ?_
          exact x_ri hx hb hr hlk hQ (Nat.le_of_ble_eq_true rfl) (Nat.le_of_ble_eq_true rfl) hS dX5_takeKind_20 G13 ⟨_, rfl, (XFr.call (XFr.call XFr.rf hF_2 (xm1 0 rfl (xm1 1 rfl (xm1 2 rfl (xm1 3 rfl xm0)))) xm0 xm0) hF13 (xm1 0 rfl (xm1 1 rfl (xm1 2 rfl (xm1 3 rfl xm0)))) xm0 xm0), (z_X5_takeKind_7 l1_2.toInt I2_0 c5), (v_X5_takeKind_20_6 (K := K) (F := F) a G r1 l1_2 x13 q10 N2 ha pk oq13 n0 I2_0 I2_1 hm2 c5 hw10 t13 (xzi b13) c16), (v_X5_takeKind_20_7 (K := K) (F := F) a G G13 r1 l1_2 x13 q10 N2 ha pk oq13 oq13a n0 I2_0 I2_1 hm2 c5 hw10 t13 (xzi b13) c16)⟩ hT
  exact L2 4294967297 0 G _ _ _ XFr.rf (v_X5_takeKind_1_8 (K := K) (F := F) a G r1 ha n0) (v_X5_takeKind_1_9 (F := F) a G r1 hrd) (by decide) (by decide) (by decide) hT hS (lv_sub hl [1, 0] rfl)

abbrev rm_X5_takeAction : Room := { frames := 5, cells := 0, slots := 0, locals := 107 }
set_option maxHeartbeats 4000000 in
set_option maxRecDepth 100000 in
theorem c_X5_takeAction (l : Launch) (E : XE) (K : Nat → Nat) (F : Nat → Nat → Nat) (G : XG) (a : Nat) (r1 : RSt) (ha : K a = 7) (n0 : 0 ≤ ((G.1 (F a 0) 1).toInt) ∧ ((G.1 (F a 0) 1).toInt) ≤ 80) (hrd : RdI (tC (G.2.1 (F (F a 0) 0)) ((G.1 (F a 0) 1).toInt)) ((G.1 (F a 0) 1).toInt) r1 ((G.1 a 1).toInt) ((G.1 a 2).toInt) ((G.1 a 3).toInt) ((G.1 a 4).toInt) ((G.1 a 5).toInt)) : Met l yX5_takeAction (xw yX5_takeAction cX5_takeAction 1 (some .int)) rm_X5_takeAction (va_Pc [.ref a] (XP E K F G)) (XQ E (fun v (u : XG) => ∃ r : Int32, v = .int r ∧ XFr [(a, 1), (a, 2), (a, 3), (a, 4)] [] [] G u ∧ (0 ≤ r.toInt ∧ r.toInt ≤ 2) ∧ (r.toInt = (tkA (tC (G.2.1 (F (F a 0) 0)) ((G.1 (F a 0) 1).toInt)) r1).1) ∧ (RdI (tC (G.2.1 (F (F a 0) 0)) ((G.1 (F a 0) 1).toInt)) ((G.1 (F a 0) 1).toInt) (tkA (tC (G.2.1 (F (F a 0) 0)) ((G.1 (F a 0) 1).toInt)) r1).2 ((u.1 a 1).toInt) ((u.1 a 2).toInt) ((u.1 a 3).toInt) ((u.1 a 4).toInt) ((u.1 a 5).toInt))) (fun u H => TW E K F u H)) 0 0 (xA E) := by
  refine x_enter (by decide) (Nat.le_of_ble_eq_true rfl) ?_
  intro p e s m args below meth c Q S hr hlk hnm hQ hP ls hl
  obtain ⟨hz, hK, hT⟩ := hP
  obtain ⟨hx, hb, -, -, -⟩ := id S
  obtain ⟨H, hT, hS, hgo⟩ : ∃ H : Heap, TW E K F G H ∧ va_S (xA E) s.heap H [] ∧ H = s.heap := ⟨_, hT, va_S.rf, rfl⟩
  rw [← hgo]
  have hl : lv_has ls 1 [(0, .ref a)] := hl
  obtain ⟨hk9999, hj9999⟩ := fkX5_0 hT ha
  obtain ⟨hk9999a, hj9999a⟩ := fkX8_0 hT hk9999
  refine lv_aload_n hx hb dX5_takeAction_0 rfl (lv_at hl 0 rfl) ?_
  refine va_ldcS hx hb S.2.2.2.1 (hK.2.2.1 6 ("LateRules$Reader", 85, "cascade") rfl) dX5_takeAction_1 ?_
  refine x_cl0 (x_runV (b := a) (As := [.ref (E.2.2.2.2.1 6)]) (rest := []) S (c_X5_takeWord l E K F G a 6 r1 ha (show 6 < 10 by decide) (n0) (v_X5_takeAction_3_1 (F := F) a G r1 hrd)) mv_X5_takeWord km_X5_65 rfl rfl ⟨Nat.le_of_ble_eq_true rfl, Nat.le_of_ble_eq_true rfl⟩ (rc_7 hK hT ha) hK (fun _ => XP.blind) (fun U hU hW => XP.at hK hz hS hT hU hW) rfl hl.1 (Nat.le_of_ble_eq_true rfl) dX5_takeAction_3 ⟨Nat.le_of_ble_eq_true rfl, Nat.le_of_ble_eq_true rfl⟩) hS ?_
  rintro _ G3 H locs ⟨x3, rfl, b3, hF3, t3, oq3, oq3a⟩ hT hS
  have t3 : 0 ≤ x3.toInt ∧ x3.toInt ≤ 1 := t3
  refine xi_zeq (tgt := 11) hx hb (rfl : Int32.toInt x3 = x3.toInt) dX5_takeAction_6 (by decide) (fun c6 => ?_) (fun c6 => ?_)
  · refine lv_aload_n hx hb dX5_takeAction_11 rfl (lv_at hl 0 rfl) ?_
    refine va_ldcS hx hb S.2.2.2.1 (hK.2.2.1 7 ("LateRules$Reader", 87, "clear") rfl) dX5_takeAction_12 ?_
    refine x_cl0 (x_runV (b := a) (As := [.ref (E.2.2.2.2.1 7)]) (rest := []) S (c_X5_takeWord l E K F G3 a 7 r1 ha (show 7 < 10 by decide) (by rw [(show (G3.1 (F a 0) 1).toInt = ((G.1 (F a 0) 1).toInt) from (congrArg Int32.toInt (hF3.1 _ _ (xna (xne_k hk9999 ha (by decide)) (xnj (by decide) (xnj (by decide) (xnj (by decide) xn0)))))).trans (rfl : Int32.toInt (G.1 (F a 0) 1) = ((G.1 (F a 0) 1).toInt)))] <;> exact (n0)) (v_X5_takeAction_14_2 (K := K) (F := F) a G G3 r1 x3 ha oq3 oq3a n0 t3 (xzi b3) c6 (hF3.2.1 _ xn0) (hF3.1 _ _ (xna (xne_k hk9999 ha (by decide)) (xnj (by decide) (xnj (by decide) (xnj (by decide) xn0))))))) mv_X5_takeWord km_X5_65 rfl rfl ⟨Nat.le_of_ble_eq_true rfl, Nat.le_of_ble_eq_true rfl⟩ (rc_7 hK hT ha) hK (fun _ => XP.blind) (fun U hU hW => XP.at hK hz hS hT hU hW) rfl hl.1 (Nat.le_of_ble_eq_true rfl) dX5_takeAction_14 ⟨Nat.le_of_ble_eq_true rfl, Nat.le_of_ble_eq_true rfl⟩) hS ?_
    rintro _ G14 H locs ⟨x14, rfl, b14, hF14, t14, oq14, oq14a⟩ hT hS
    have t14 : 0 ≤ x14.toInt ∧ x14.toInt ≤ 1 := t14
    have oq14 : x14.toInt = (tkW (tC (G.2.1 (F (F a 0) 0)) ((G.1 (F a 0) 1).toInt)) (kw 7) r1).1 := by simp only [(show G3.2.1 (F (F a 0) 0) = G.2.1 (F (F a 0) 0) from (hF3.2.1 _ xn0)), (show G3.1 (F a 0) 1 = G.1 (F a 0) 1 from (hF3.1 _ _ (xna (xne_k hk9999 ha (by decide)) (xnj (by decide) (xnj (by decide) (xnj (by decide) xn0))))))] at oq14; exact oq14
    have oq14a : RdI (tC (G.2.1 (F (F a 0) 0)) ((G.1 (F a 0) 1).toInt)) ((G.1 (F a 0) 1).toInt) (tkW (tC (G.2.1 (F (F a 0) 0)) ((G.1 (F a 0) 1).toInt)) (kw 7) r1).2 ((G14.1 a 1).toInt) ((G14.1 a 2).toInt) ((G14.1 a 3).toInt) ((G14.1 a 4).toInt) ((G14.1 a 5).toInt) := by simp only [(show G3.2.1 (F (F a 0) 0) = G.2.1 (F (F a 0) 0) from (hF3.2.1 _ xn0)), (show G3.1 (F a 0) 1 = G.1 (F a 0) 1 from (hF3.1 _ _ (xna (xne_k hk9999 ha (by decide)) (xnj (by decide) (xnj (by decide) (xnj (by decide) xn0))))))] at oq14a; exact oq14a
    refine xi_zeq (tgt := 24) hx hb (rfl : Int32.toInt x14 = x14.toInt) dX5_takeAction_17 (by decide) (fun c17 => ?_) (fun c17 => ?_)
    · refine lv_iconst (v := 0) hx hb dX5_takeAction_24 (by decide) ?_
      exact x_ri hx hb hr hlk hQ (Nat.le_of_ble_eq_true rfl) (Nat.le_of_ble_eq_true rfl) hS dX5_takeAction_25 G14 ⟨_, rfl, (XFr.call (XFr.call XFr.rf hF3 (xm1 0 rfl (xm1 1 rfl (xm1 2 rfl (xm1 3 rfl xm0)))) xm0 xm0) hF14 (xm1 0 rfl (xm1 1 rfl (xm1 2 rfl (xm1 3 rfl xm0)))) xm0 xm0), (by decide), (v_X5_takeAction_25_3 (K := K) (F := F) a G r1 x3 x14 ha oq3 oq14 n0 t3 (xzi b3) c6 t14 (xzi b14) c17), (v_X5_takeAction_25_4 (K := K) (F := F) a G G14 r1 x3 x14 ha oq3 oq14 oq14a n0 t3 (xzi b3) c6 t14 (xzi b14) c17)⟩ hT
    · refine lv_iconst (v := 2) hx hb dX5_takeAction_20 (by decide) ?_
      refine lv_goto (tgt := 25) hx hb dX5_takeAction_21 (by decide) ?_
      exact x_ri hx hb hr hlk hQ (Nat.le_of_ble_eq_true rfl) (Nat.le_of_ble_eq_true rfl) hS dX5_takeAction_25 G14 ⟨_, rfl, (XFr.call (XFr.call XFr.rf hF3 (xm1 0 rfl (xm1 1 rfl (xm1 2 rfl (xm1 3 rfl xm0)))) xm0 xm0) hF14 (xm1 0 rfl (xm1 1 rfl (xm1 2 rfl (xm1 3 rfl xm0)))) xm0 xm0), (by decide), (v_X5_takeAction_25_5 (K := K) (F := F) a G r1 x3 x14 ha oq3 oq14 n0 t3 (xzi b3) c6 t14 (xzi b14) c17), (v_X5_takeAction_25_6 (K := K) (F := F) a G G14 r1 x3 x14 ha oq3 oq14 oq14a n0 t3 (xzi b3) c6 t14 (xzi b14) c17)⟩ hT
  · refine lv_iconst (v := 1) hx hb dX5_takeAction_9 (by decide) ?_
    exact x_ri hx hb hr hlk hQ (Nat.le_of_ble_eq_true rfl) (Nat.le_of_ble_eq_true rfl) hS dX5_takeAction_10 G3 ⟨_, rfl, (XFr.call XFr.rf hF3 (xm1 0 rfl (xm1 1 rfl (xm1 2 rfl (xm1 3 rfl xm0)))) xm0 xm0), (by decide), (v_X5_takeAction_10_7 (K := K) (F := F) a G r1 x3 ha oq3 n0 t3 (xzi b3) c6), (v_X5_takeAction_10_8 (K := K) (F := F) a G G3 r1 x3 ha oq3 oq3a n0 t3 (xzi b3) c6)⟩ hT

