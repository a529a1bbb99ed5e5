theorem z_X5_takeWord_1 (a0 : Int) (h0 : ¬ (a0 ≠ 0)) : a0 = 0 := by omega
theorem z_X5_takeWord_2 (a0 : Int) (h0 : ¬ (a0 ≠ (1 : Int))) : a0 = 1 := by omega
theorem z_X5_takeWord_3 (a0 : Int) (a1 : Int) (a2 : Int) (a3 : Int) (h0 : 0 ≤ a1 ∧ a1 ≤ 80) (h1 : 0 ≤ a2 ∧ a2 ≤ a1) (h2 : 0 ≤ a3 ∧ a3 ≤ a1) (h3 : a0 = (a3 - a2) ∨ (a3 - a2) < -2147483648 ∨ 2147483648 ≤ (a3 - a2)) : a0 = (a3 - a2) := by omega
theorem z_X5_takeWord_4 (a0 : Int) (h0 : -2147483648 ≤ a0 ∧ a0 < 2147483648) : ¬ (2147483648 - a0 < ((0 : Nat) : Int)) := by omega
theorem z_X5_takeWord_7 (a0 : Int) (a1 : Int) (a2 : Int) (a3 : Nat) (a4 : Int) (a5 : Int) (a6 : Int) (h0 : 0 ≤ a4 ∧ a4 ≤ 80) (h1 : 0 ≤ a5 ∧ a5 ≤ a4) (h2 : 0 ≤ a6 ∧ a6 ≤ a4) (h3 : a1 = ((a3 : Nat) : Int)) (h4 : (a6 - a5) = a1) (h5 : 0 ≤ a0 ∧ a0 ≤ ((a3 : Nat) : Int)) (h6 : a2 = (a5 + a0) ∨ (a5 + a0) < -2147483648 ∨ 2147483648 ≤ (a5 + a0)) : a2 = (a5 + a0) := by omega
theorem z_X5_takeWord_9 (a0 : Int) (a1 : Int) (a2 : Nat) (h0 : 0 ≤ a0 ∧ a0 ≤ ((a2 : Nat) : Int)) (h1 : a1 = ((a2 : Nat) : Int)) (h2 : ¬ (a1 ≤ a0)) : 0 ≤ a0 ∧ a0 < ((a2 : Nat) : Int) := by omega
theorem z_X5_takeWord_10 (a0 : Int) (a1 : Nat) (h0 : 3 ≤ ((a1 : Nat) : Int) ∧ ((a1 : Nat) : Int) ≤ 7) (h1 : 0 ≤ a0 ∧ a0 ≤ ((a1 : Nat) : Int)) : 0 ≤ a0 ∧ a0 < 8 := by omega
theorem z_X5_takeWord_11 (a0 : Int) (a1 : Int) (a2 : Int) (a3 : Int) (a4 : Nat) (h0 : a1 = ((a4 : Nat) : Int)) (h1 : 0 ≤ a0 ∧ a0 ≤ ((a4 : Nat) : Int)) (h2 : a2 = ((a4 : Nat) : Int)) (h3 : ¬ (a2 ≤ a0)) (h4 : a3 = (a0 + 1) ∨ (a0 + 1) < -2147483648 ∨ 2147483648 ≤ (a0 + 1)) (h5 : -2147483648 ≤ a1 ∧ a1 < 2147483648) : a3 = (a0 + 1) := by omega
theorem z_X5_takeWord_12 (a0 : Int) (a1 : Int) (a2 : Nat) (h0 : 0 ≤ a0 ∧ a0 ≤ ((a2 : Nat) : Int)) (h1 : a1 = ((a2 : Nat) : Int)) (h2 : ¬ (a1 ≤ a0)) : 0 ≤ (a0 + 1) ∧ (a0 + 1) ≤ ((a2 : Nat) : Int) := by omega
theorem z_X5_takeWord_13 (a0 : Int) (a1 : Nat) (h0 : 0 ≤ a0 ∧ a0 ≤ ((a1 : Nat) : Int)) : (0 : Int) ≤ (a0 + 1) := by omega
theorem z_X5_takeWord_14 (a0 : Int) (a1 : Nat) (h0 : 2147483648 - a0 < ((a1 + 1 : Nat) : Int)) : 2147483648 - (a0 + 1) < ((a1 : Nat) : Int) := by omega
theorem z_X5_takeWord_15 (a0 : Nat) : 0 ≤ (0 : Int) ∧ (0 : Int) ≤ ((a0 : Nat) : Int) := by omega
abbrev rm_X5_takeWord : Room := { frames := 4, cells := 0, slots := 0, locals := 85 }
set_option maxHeartbeats 4000000 in
set_option maxRecDepth 100000 in
theorem c_X5_takeWord (l : Launch) (E : XE) (K : Nat → Nat) (F : Nat → Nat → Nat) (G : XG) (a : Nat) (p0 : Nat) (r1 : RSt) (ha : K a = 7) (hp0 : p0 < 10) (n0 : 0 ≤ ((G.1 (F a 0) 1).toInt) ∧ ((G.1 (F a 0) 1).toInt) ≤ 80) (hrd : RdI (tC (G.2.1 (F (F a 0) 0)) ((G.1 (F a 0) 1).toInt)) ((G.1 (F a 0) 1).toInt) r1 ((G.1 a 1).toInt) ((G.1 a 2).toInt) ((G.1 a 3).toInt) ((G.1 a 4).toInt) ((G.1 a 5).toInt)) : Met l yX5_takeWord (xw yX5_takeWord cX5_takeWord 3 (some .boolean)) rm_X5_takeWord (va_Pc [.ref a, .ref (E.2.2.2.2.1 p0)] (XP E K F G)) (XQ E (fun v (u : XG) => ∃ r : Int32, v = .int r ∧ (r = 0 ∨ r = 1) ∧ XFr [(a, 1), (a, 2), (a, 3), (a, 4)] [] [] G u ∧ (0 ≤ r.toInt ∧ r.toInt ≤ 1) ∧ (r.toInt = (tkW (tC (G.2.1 (F (F a 0) 0)) ((G.1 (F a 0) 1).toInt)) (kw p0) r1).1) ∧ (RdI (tC (G.2.1 (F (F a 0) 0)) ((G.1 (F a 0) 1).toInt)) ((G.1 (F a 0) 1).toInt) (tkW (tC (G.2.1 (F (F a 0) 0)) ((G.1 (F a 0) 1).toInt)) (kw p0) r1).2 ((u.1 a 1).toInt) ((u.1 a 2).toInt) ((u.1 a 3).toInt) ((u.1 a 4).toInt) ((u.1 a 5).toInt))) (fun u H => TW E K F u H)) 0 0 (xA E) := by
  refine x_enter (by decide) (Nat.le_of_ble_eq_true rfl) ?_
  intro p e s m args below meth c Q S hr hlk hnm hQ hP ls hl
  obtain ⟨hz, hK, hT⟩ := hP
  obtain ⟨hx, hb, -, -, -⟩ := id S
  obtain ⟨H, hT, hS, hgo⟩ : ∃ H : Heap, TW E K F G H ∧ va_S (xA E) s.heap H [] ∧ H = s.heap := ⟨_, hT, va_S.rf, rfl⟩
  rw [← hgo]
  have hl : lv_has ls 3 [(0, .ref a), (1, .ref (E.2.2.2.2.1 p0))] := hl
  obtain ⟨hk9999, hj9999⟩ := fkX5_0 hT ha
  obtain ⟨hk9999a, hj9999a⟩ := fkX8_0 hT hk9999
  have z0 : 0 ≤ ((G.1 a 2).toInt) ∧ ((G.1 a 2).toInt) ≤ ((G.1 (F a 0) 1).toInt) := hrd.2.2.2.1
  have z0a : 3 ≤ (((xlen.getD p0 0) : Nat) : Int) ∧ (((xlen.getD p0 0) : Nat) : Int) ≤ 7 := xlen_b hp0
  refine lv_aload_n hx hb dX5_takeWord_0 rfl (lv_at hl 0 rfl) ?_
  refine gX5_5 S hK hT ha kf_X5_15 dX5_takeWord_1 (v := (G.1 a 5)) rfl (fun hz1 => ?_)
  refine xi_zne (tgt := 31) hx hb (rfl : Int32.toInt (G.1 a 5) = ((G.1 a 5).toInt)) dX5_takeWord_4 (by decide) (fun c4 => ?_) (fun c4 => ?_)
  · refine lv_iconst (v := 0) hx hb dX5_takeWord_31 (by decide) ?_
    exact x_rz hx hb hr (xnz (Or.inl rfl)) hlk hQ (Nat.le_of_ble_eq_true rfl) (Nat.le_of_ble_eq_true rfl) hS dX5_takeWord_32 G ⟨_, rfl, (Or.inl rfl), XFr.rf, (by decide), (v_X5_takeWord_32_1 (K := K) (F := F) a G r1 p0 ha hrd hp0 n0 z0 z0a (xzi hz1) c4), (v_X5_takeWord_32_2 (K := K) (F := F) a G r1 p0 ha hrd hp0 n0 z0 z0a (xzi hz1) c4)⟩ hT
  · refine lv_aload_n hx hb dX5_takeWord_7 rfl (lv_at hl 0 rfl) ?_
    refine gX5_1 S hK hT ha kf_X5_75 dX5_takeWord_8 (v := (G.1 a 1)) rfl (?_)
    refine lv_iconst (v := 1) hx hb dX5_takeWord_11 (by decide) ?_
    refine xi_cne (tgt := 31) hx hb (rfl : Int32.toInt (G.1 a 1) = ((G.1 a 1).toInt)) ((by decide) : Int32.toInt 1 = (1 : Int)) dX5_takeWord_12 (by decide) (fun c12 => ?_) (fun c12 => ?_)
    · refine lv_iconst (v := 0) hx hb dX5_takeWord_31 (by decide) ?_
      exact x_rz hx hb hr (xnz (Or.inl rfl)) hlk hQ (Nat.le_of_ble_eq_true rfl) (Nat.le_of_ble_eq_true rfl) hS dX5_takeWord_32 G ⟨_, rfl, (Or.inl rfl), XFr.rf, (by decide), (v_X5_takeWord_32_3 (K := K) (F := F) a G r1 p0 ha hrd hp0 n0 z0 z0a (xzi hz1) c4 c12), (v_X5_takeWord_32_4 (K := K) (F := F) a G r1 p0 ha hrd hp0 n0 z0 z0a (xzi hz1) c4 c12)⟩ hT
    · have z15 : 0 ≤ ((G.1 a 3).toInt) ∧ ((G.1 a 3).toInt) ≤ ((G.1 (F a 0) 1).toInt) := rd_eb (tC_e _ _) hrd (z_X5_takeWord_1 ((G.1 a 5).toInt) c4) (Or.inl (z_X5_takeWord_2 ((G.1 a 1).toInt) c12))
      refine lv_aload_n hx hb dX5_takeWord_15 rfl (lv_at hl 0 rfl) ?_
      refine gX5_3 S hK hT ha kf_X5_19 dX5_takeWord_16 (v := (G.1 a 3)) rfl (?_)
      refine lv_aload_n hx hb dX5_takeWord_19 rfl (lv_at hl 0 rfl) ?_
      refine gX5_2 S hK hT ha kf_X5_78 dX5_takeWord_20 (v := (G.1 a 2)) rfl (?_)
      refine xi_isub hx hb (rfl : Int32.toInt (G.1 a 3) = ((G.1 a 3).toInt)) (rfl : Int32.toInt (G.1 a 2) = ((G.1 a 2).toInt)) dX5_takeWord_23 (fun x23 t23 => ?_)
      have e23 : x23.toInt = (((G.1 a 3).toInt) - ((G.1 a 2).toInt)) := (z_X5_takeWord_3 x23.toInt ((G.1 (F a 0) 1).toInt) ((G.1 a 2).toInt) ((G.1 a 3).toInt) n0 z0 z15 t23)
      refine lv_aload_n hx hb dX5_takeWord_24 rfl (lv_at hl 1 rfl) ?_
      refine x_clp (x_runV (b := (E.2.2.2.2.1 p0)) (As := []) (rest := [.int x23]) S (c_J0_length_8abf5 l E K F G H p0 (Nat.lt_of_lt_of_le hp0 (by decide))) mv_J0_length_8abf5 km_X5_92 rfl rfl ⟨Nat.le_of_ble_eq_true rfl, Nat.le_of_ble_eq_true rfl⟩ (vk_recv hK.2.2.2.1 (Nat.lt_of_lt_of_le hp0 (by decide)) hS) hK (fun _ => XPh.blind) (fun U hU hW => XPh.at hK hz hS hT hU hW) rfl hl.1 (Nat.le_of_ble_eq_true rfl) dX5_takeWord_25 ⟨Nat.le_of_ble_eq_true rfl, Nat.le_of_ble_eq_true rfl⟩) hS ?_
      rintro _ _ locs ⟨x25, rfl, t25⟩ hS
      refine xi_ceq (tgt := 33) hx hb (e23 : Int32.toInt x23 = (((G.1 a 3).toInt) - ((G.1 a 2).toInt))) (rfl : Int32.toInt x25 = x25.toInt) dX5_takeWord_28 (by decide) (fun c28 => ?_) (fun c28 => ?_)
      · refine lv_iconst (v := 0) hx hb dX5_takeWord_33 (by decide) ?_
        refine lv_istore_n (lv' := [(2, .int 0), (0, .ref a), (1, .ref (E.2.2.2.2.1 p0))]) hx hb dX5_takeWord_34 rfl hl (by decide) rfl (fun ls hl => ?_)
        have L35 : ∀ (N35 : Nat) (l2_35 : Int32) (H : Heap) (locs : List Loc) (ls : Array Slot), (∀ i : Nat, (i : Int) < l2_35.toInt → (tC (G.2.1 (F (F a 0) 0)) ((G.1 (F a 0) 1).toInt)) ((G.1 a 2).toInt + (i : Int)) = (kw p0).getD i 0) → 0 ≤ l2_35.toInt ∧ l2_35.toInt ≤ (((xlen.getD p0 0) : Nat) : Int) → (0 : Int) ≤ l2_35.toInt → 2147483648 - l2_35.toInt < ((N35 : Nat) : Int) → TW E K F G H → va_S (xA E) s.heap H locs → lv_has ls 3 [(0, .ref a), (1, .ref (E.2.2.2.2.1 p0)), (2, .int l2_35)] → W p l e rm_X5_takeWord s m args below meth c H locs 0 0 Q (F0 m 35 ls []) := by
          intro N35
          induction N35 with
          | zero =>
            intro l2_35 H locs ls pw I35_0 I35_1 hm35
            exact absurd hm35 (z_X5_takeWord_4 l2_35.toInt (xr l2_35))
          | succ N35 ih35 =>
            intro l2_35 H locs ls pw I35_0 I35_1 hm35 hT hS hl
            refine lv_iload_n hx hb dX5_takeWord_35 rfl (lv_at hl 2 rfl) ?_
            refine lv_aload_n hx hb dX5_takeWord_36 rfl (lv_at hl 1 rfl) ?_
            refine x_clp (x_runV (b := (E.2.2.2.2.1 p0)) (As := []) (rest := [.int l2_35]) S (c_J0_length_8abf5 l E K F G H p0 (Nat.lt_of_lt_of_le hp0 (by decide))) mv_J0_length_8abf5 km_X5_92 rfl rfl ⟨Nat.le_of_ble_eq_true rfl, Nat.le_of_ble_eq_true rfl⟩ (vk_recv hK.2.2.2.1 (Nat.lt_of_lt_of_le hp0 (by decide)) hS) hK (fun _ => XPh.blind) (fun U hU hW => XPh.at hK hz hS hT hU hW) rfl hl.1 (Nat.le_of_ble_eq_true rfl) dX5_takeWord_37 ⟨Nat.le_of_ble_eq_true rfl, Nat.le_of_ble_eq_true rfl⟩) hS ?_
            rintro _ _ locs ⟨x37, rfl, t37⟩ hS
            refine xi_cge (tgt := 72) hx hb (rfl : Int32.toInt l2_35 = l2_35.toInt) (rfl : Int32.toInt x37 = x37.toInt) dX5_takeWord_40 (by decide) (fun c40 => ?_) (fun c40 => ?_)
            · refine lv_aload_n hx hb dX5_takeWord_72 rfl (lv_at hl 0 rfl) ?_
              refine x_cv0 (x_runV (b := a) (As := []) (rest := []) S (c_X5_advance l E K F G a ha (n0) (z15)) mv_X5_advance km_X5_23 rfl rfl ⟨Nat.le_of_ble_eq_true rfl, Nat.le_of_ble_eq_true rfl⟩ (rc_7 hK hT ha) hK (fun _ => XP.blind) (fun U hU hW => XP.at hK hz hS hT hU hW) rfl hl.1 (Nat.le_of_ble_eq_true rfl) dX5_takeWord_73 ⟨Nat.le_of_ble_eq_true rfl, Nat.le_of_ble_eq_true rfl⟩) hS ?_
              rintro G73 H locs ⟨hF73, t73, oq73⟩ hT hS
              have t73 : (0 ≤ ((G73.1 a 2).toInt) ∧ ((G73.1 a 2).toInt) ≤ ((G.1 (F a 0) 1).toInt)) ∧ (0 ≤ ((G73.1 a 3).toInt) ∧ ((G73.1 a 3).toInt) ≤ ((G.1 (F a 0) 1).toInt)) := t73
              refine lv_iconst (v := 1) hx hb dX5_takeWord_76 (by decide) ?_
              exact x_rz hx hb hr (xnz (Or.inr rfl)) hlk hQ (Nat.le_of_ble_eq_true rfl) (Nat.le_of_ble_eq_true rfl) hS dX5_takeWord_77 G73 ⟨_, rfl, (Or.inr rfl), (XFr.call XFr.rf hF73 (xm1 0 rfl (xm1 1 rfl (xm1 2 rfl (xm1 3 rfl xm0)))) xm0 xm0), (by decide), (v_X5_takeWord_77_5 (K := K) (F := F) a G G73 r1 p0 l2_35 x25 N35 x37 ha hrd hp0 pw oq73 n0 z0 z0a (xzi hz1) c4 c12 z15 t25 c28 I35_0 I35_1 hm35 t37 c40 t73), (v_X5_takeWord_77_6 (K := K) (F := F) a G G73 r1 p0 l2_35 x25 N35 x37 ha hrd hp0 pw oq73 n0 z0 z0a (xzi hz1) c4 c12 z15 t25 c28 I35_0 I35_1 hm35 t37 c40 t73 (hF73.1 _ _ (xnj (by decide) (xnj (by decide) (xnj (by decide) (xnj (by decide) xn0))))))⟩ hT
            · refine lv_aload_n hx hb dX5_takeWord_43 rfl (lv_at hl 0 rfl) ?_
              refine gX5_0 S hK hT ha kf_X5_9 dX5_takeWord_44 (fun _ _ => ?_)
              refine lv_aload_n hx hb dX5_takeWord_47 rfl (lv_at hl 0 rfl) ?_
              refine gX5_2 S hK hT ha kf_X5_78 dX5_takeWord_48 (v := (G.1 a 2)) rfl (?_)
              refine lv_iload_n hx hb dX5_takeWord_51 rfl (lv_at hl 2 rfl) ?_
              refine xi_iadd hx hb (rfl : Int32.toInt (G.1 a 2) = ((G.1 a 2).toInt)) (rfl : Int32.toInt l2_35 = l2_35.toInt) dX5_takeWord_52 (fun x52 t52 => ?_)
              have e52 : x52.toInt = (((G.1 a 2).toInt) + l2_35.toInt) := (z_X5_takeWord_7 l2_35.toInt x25.toInt x52.toInt (xlen.getD p0 0) ((G.1 (F a 0) 1).toInt) ((G.1 a 2).toInt) ((G.1 a 3).toInt) n0 z0 z15 t25 c28 I35_0 t52)
              refine x_clp (x_runV (b := (F a 0)) (As := [.int x52]) (rest := []) S (c_X8_signAt l E K F G H (F a 0) x52 hk9999 (n0)) mv_X8_signAt km_X5_97 rfl rfl ⟨Nat.le_of_ble_eq_true rfl, Nat.le_of_ble_eq_true rfl⟩ (rc_10 hK hT hk9999) hK (fun _ => XPh.blind) (fun U hU hW => XPh.at hK hz hS hT hU hW) rfl hl.1 (Nat.le_of_ble_eq_true rfl) dX5_takeWord_53 ⟨Nat.le_of_ble_eq_true rfl, Nat.le_of_ble_eq_true rfl⟩) hS ?_
              rintro _ _ locs ⟨x53, rfl, b53, t53⟩ hS
              have t53 : x53.toInt = (tC (G.2.1 (F (F a 0) 0)) ((G.1 (F a 0) 1).toInt) (((G.1 a 2).toInt) + l2_35.toInt)) := by rw [(e52 : Int32.toInt x52 = (((G.1 a 2).toInt) + l2_35.toInt))] at t53; exact t53
              refine lv_aload_n hx hb dX5_takeWord_56 rfl (lv_at hl 1 rfl) ?_
              refine lv_iload_n hx hb dX5_takeWord_57 rfl (lv_at hl 2 rfl) ?_
              refine x_clp (x_runV (b := (E.2.2.2.2.1 p0)) (As := [.int l2_35]) (rest := [.int x53]) S (c_J0_charAtc l E K F G H p0 l2_35 (Nat.lt_of_lt_of_le hp0 (by decide)) (z_X5_takeWord_9 l2_35.toInt x37.toInt (xlen.getD p0 0) I35_0 t37 c40)) mv_J0_charAt_5068e km_X5_103 rfl rfl ⟨Nat.le_of_ble_eq_true rfl, Nat.le_of_ble_eq_true rfl⟩ (vk_recv hK.2.2.2.1 (Nat.lt_of_lt_of_le hp0 (by decide)) hS) hK (fun _ => XPh.blind) (fun U hU hW => XPh.at hK hz hS hT hU hW) rfl hl.1 (Nat.le_of_ble_eq_true rfl) dX5_takeWord_58 ⟨Nat.le_of_ble_eq_true rfl, Nat.le_of_ble_eq_true rfl⟩) hS ?_
              rintro _ _ locs ⟨x58, rfl, o58, t58⟩ hS
              have z61 : (xch p0 (l2_35.toInt)) = ((kw p0).getD (Int.toNat (l2_35.toInt)) 0) := xch_k hp0 (z_X5_takeWord_10 l2_35.toInt (xlen.getD p0 0) z0a I35_0)
              refine xi_ceq (tgt := 66) hx hb (rfl : Int32.toInt x53 = x53.toInt) (rfl : Int32.toInt x58 = x58.toInt) dX5_takeWord_61 (by decide) (fun c61 => ?_) (fun c61 => ?_)
              · refine xi_iinc (n := 1) (lv' := fun z9 => [(2, .int z9), (0, .ref a), (1, .ref (E.2.2.2.2.1 p0))]) (k := 2) hx hb (rfl : Int32.toInt l2_35 = l2_35.toInt) (by decide) dX5_takeWord_66 hl rfl (by decide) (fun _ => rfl) (fun x66 ls t66 hl => ?_)
                have e66 : x66.toInt = (l2_35.toInt + 1) := (z_X5_takeWord_11 l2_35.toInt x25.toInt x37.toInt x66.toInt (xlen.getD p0 0) t25 I35_0 t37 c40 t66 (xr x25))
                have hl : lv_has ls 3 [(2, .int x66), (0, .ref a), (1, .ref (E.2.2.2.2.1 p0))] := hl
                refine lv_goto (tgt := 35) hx hb dX5_takeWord_69 (by decide) ?_
                exact ih35 x66 _ _ _ (by rw [(e66 : Int32.toInt x66 = (l2_35.toInt + 1))] <;> exact (v_X5_takeWord_69_7 (K := K) (F := F) a G p0 l2_35 x25 N35 x37 x53 x58 ha hp0 pw n0 z0 z0a (xzi hz1) c4 c12 z15 t25 c28 I35_0 I35_1 hm35 t37 c40 t53 t58 z61 c61)) (by rw [(e66 : Int32.toInt x66 = (l2_35.toInt + 1))] <;> exact (z_X5_takeWord_12 l2_35.toInt x37.toInt (xlen.getD p0 0) I35_0 t37 c40)) (by rw [(e66 : Int32.toInt x66 = (l2_35.toInt + 1))] <;> exact (z_X5_takeWord_13 l2_35.toInt (xlen.getD p0 0) I35_0)) (by rw [(e66 : Int32.toInt x66 = (l2_35.toInt + 1))] <;> exact (z_X5_takeWord_14 l2_35.toInt N35 hm35)) hT hS (lv_sub hl [1, 2, 0] rfl)
              · refine lv_iconst (v := 0) hx hb dX5_takeWord_64 (by decide) ?_
                exact x_rz hx hb hr (xnz (Or.inl rfl)) hlk hQ (Nat.le_of_ble_eq_true rfl) (Nat.le_of_ble_eq_true rfl) hS dX5_takeWord_65 G ⟨_, rfl, (Or.inl rfl), XFr.rf, (by decide), (v_X5_takeWord_65_8 (K := K) (F := F) a G r1 p0 l2_35 x25 N35 x37 x53 x58 ha hrd hp0 n0 z0 z0a (xzi hz1) c4 c12 z15 t25 c28 I35_0 I35_1 hm35 t37 c40 t53 t58 z61 c61), (v_X5_takeWord_65_9 (K := K) (F := F) a G r1 p0 l2_35 x25 N35 x37 x53 x58 ha hrd hp0 n0 z0 z0a (xzi hz1) c4 c12 z15 t25 c28 I35_0 I35_1 hm35 t37 c40 t53 t58 z61 c61)⟩ hT
        exact L35 4294967297 0 _ _ _ (v_X5_takeWord_34_10 (K := K) (F := F) a G p0 x25 ha hp0 n0 z0 z0a (xzi hz1) c4 c12 z15 t25 c28) (z_X5_takeWord_15 (xlen.getD p0 0)) (by decide) (by decide) hT hS (lv_sub hl [1, 2, 0] rfl)
      · refine lv_iconst (v := 0) hx hb dX5_takeWord_31 (by decide) ?_
        exact x_rz hx hb hr (xnz (Or.inl rfl)) hlk hQ (Nat.le_of_ble_eq_true rfl) (Nat.le_of_ble_eq_true rfl) hS dX5_takeWord_32 G ⟨_, rfl, (Or.inl rfl), XFr.rf, (by decide), (v_X5_takeWord_32_11 (K := K) (F := F) a G r1 p0 x25 ha hrd hp0 n0 z0 z0a (xzi hz1) c4 c12 z15 t25 c28), (v_X5_takeWord_32_12 (K := K) (F := F) a G r1 p0 x25 ha hrd hp0 n0 z0 z0a (xzi hz1) c4 c12 z15 t25 c28)⟩ hT

theorem z_X5_takeNumber_2 (a0 : Int) (h0 : ¬ (a0 ≠ (2 : Int))) : a0 = 2 := by omega
abbrev rm_X5_takeNumber : Room := { frames := 3, cells := 0, slots := 0, locals := 64 }
set_option maxHeartbeats 4000000 in
set_option maxRecDepth 100000 in
theorem c_X5_takeNumber (l : Launch) (E : XE) (K : Nat → Nat) (F : Nat → Nat → Nat) (G : XG) (a : Nat) (p0 : Int32) (p1 : Int32) (r1 : RSt) (ha : K a = 7) (n0 : 0 ≤ ((G.1 (F a 0) 1).toInt) ∧ ((G.1 (F a 0) 1).toInt) ≤ 80) (hrd : RdI (tC (G.2.1 (F (F a 0) 0)) ((G.1 (F a 0) 1).toInt)) ((G.1 (F a 0) 1).toInt) r1 ((G.1 a 1).toInt) ((G.1 a 2).toInt) ((G.1 a 3).toInt) ((G.1 a 4).toInt) ((G.1 a 5).toInt)) : Met l yX5_takeNumber (xw yX5_takeNumber cX5_takeNumber 4 (some .int)) rm_X5_takeNumber (va_Pc [.ref a, .int p0, .int p1] (XP E K F G)) (XQ E (fun v (u : XG) => ∃ r : Int32, v = .int r ∧ XFr [(a, 1), (a, 2), (a, 3), (a, 4), (a, 5)] [] [] G u ∧ (r.toInt = (tkN (tC (G.2.1 (F (F a 0) 0)) ((G.1 (F a 0) 1).toInt)) p0.toInt p1.toInt r1).1) ∧ (RdI (tC (G.2.1 (F (F a 0) 0)) ((G.1 (F a 0) 1).toInt)) ((G.1 (F a 0) 1).toInt) (tkN (tC (G.2.1 (F (F a 0) 0)) ((G.1 (F a 0) 1).toInt)) p0.toInt p1.toInt r1).2 ((u.1 a 1).toInt) ((u.1 a 2).toInt) ((u.1 a 3).toInt) ((u.1 a 4).toInt) ((u.1 a 5).toInt))) (fun u H => TW E K F u H)) 0 0 (xA E) := by
  refine x_enter (by decide) (Nat.le_of_ble_eq_true rfl) ?_
  intro p e s m args below meth c Q S hr hlk hnm hQ hP ls hl
  obtain ⟨hz, hK, hT⟩ := hP
  obtain ⟨hx, hb, -, -, -⟩ := id S
  obtain ⟨H, hT, hS, hgo⟩ : ∃ H : Heap, TW E K F G H ∧ va_S (xA E) s.heap H [] ∧ H = s.heap := ⟨_, hT, va_S.rf, rfl⟩
  rw [← hgo]
  have hl : lv_has ls 4 [(0, .ref a), (1, .int p0), (2, .int p1)] := hl
  obtain ⟨hk9999, hj9999⟩ := fkX5_0 hT ha
  obtain ⟨hk9999a, hj9999a⟩ := fkX8_0 hT hk9999
  have z0 : 0 ≤ ((G.1 a 2).toInt) ∧ ((G.1 a 2).toInt) ≤ ((G.1 (F a 0) 1).toInt) := hrd.2.2.2.1
  refine lv_aload_n hx hb dX5_takeNumber_0 rfl (lv_at hl 0 rfl) ?_
  refine gX5_5 S hK hT ha kf_X5_15 dX5_takeNumber_1 (v := (G.1 a 5)) rfl (fun hz1 => ?_)
  refine xi_zne (tgt := 31) hx hb (rfl : Int32.toInt (G.1 a 5) = ((G.1 a 5).toInt)) dX5_takeNumber_4 (by decide) (fun c4 => ?_) (fun c4 => ?_)
  · refine lv_aload_n hx hb dX5_takeNumber_31 rfl (lv_at hl 0 rfl) ?_
    refine lv_iconst (v := 1) hx hb dX5_takeNumber_32 (by decide) ?_
    refine pX5_5 (v := 1) S hK hT hS ha kf_X5_15 (Or.inr rfl) dX5_takeNumber_33 (fun H locs hT hS => ?_)
    obtain ⟨G33, hG33⟩ : ∃ GG : XG, GG = dput G a 5 1 := ⟨_, rfl⟩
    rw [← hG33] at hT
    refine lv_iconst (v := 0) hx hb dX5_takeNumber_36 (by decide) ?_
    exact x_ri hx hb hr hlk hQ (Nat.le_of_ble_eq_true rfl) (Nat.le_of_ble_eq_true rfl) hS dX5_takeNumber_37 G33 ⟨_, rfl, (by rw [hG33]; exact XFr.dput XFr.rf (List.mem_of_getElem? (i := 4) rfl)), (v_X5_takeNumber_37_1 (K := K) (F := F) a G r1 p0 p1 ha hrd n0 z0 (xzi hz1) c4), (v_X5_takeNumber_37_2 (K := K) (F := F) a G33 G r1 p0 p1 ha hrd n0 z0 (xzi hz1) c4 (ld_j hG33 (by decide)) (ld_j hG33 (by decide)) (ld_j hG33 (by decide)) (ld_j hG33 (by decide)) (ld_at hG33))⟩ hT
  · refine lv_aload_n hx hb dX5_takeNumber_7 rfl (lv_at hl 0 rfl) ?_
    refine gX5_1 S hK hT ha kf_X5_75 dX5_takeNumber_8 (v := (G.1 a 1)) rfl (?_)
    refine lv_iconst (v := 2) hx hb dX5_takeNumber_11 (by decide) ?_
    refine xi_cne (tgt := 31) hx hb (rfl : Int32.toInt (G.1 a 1) = ((G.1 a 1).toInt)) ((by decide) : Int32.toInt 2 = (2 : Int)) dX5_takeNumber_12 (by decide) (fun c12 => ?_) (fun c12 => ?_)
    · refine lv_aload_n hx hb dX5_takeNumber_31 rfl (lv_at hl 0 rfl) ?_
      refine lv_iconst (v := 1) hx hb dX5_takeNumber_32 (by decide) ?_
      refine pX5_5 (v := 1) S hK hT hS ha kf_X5_15 (Or.inr rfl) dX5_takeNumber_33 (fun H locs hT hS => ?_)
      obtain ⟨G33, hG33⟩ : ∃ GG : XG, GG = dput G a 5 1 := ⟨_, rfl⟩
      rw [← hG33] at hT
      refine lv_iconst (v := 0) hx hb dX5_takeNumber_36 (by decide) ?_
      exact x_ri hx hb hr hlk hQ (Nat.le_of_ble_eq_true rfl) (Nat.le_of_ble_eq_true rfl) hS dX5_takeNumber_37 G33 ⟨_, rfl, (by rw [hG33]; exact XFr.dput XFr.rf (List.mem_of_getElem? (i := 4) rfl)), (v_X5_takeNumber_37_3 (K := K) (F := F) a G r1 p0 p1 ha hrd n0 z0 (xzi hz1) c4 c12), (v_X5_takeNumber_37_4 (K := K) (F := F) a G33 G r1 p0 p1 ha hrd n0 z0 (xzi hz1) c4 c12 (ld_j hG33 (by decide)) (ld_j hG33 (by decide)) (ld_j hG33 (by decide)) (ld_j hG33 (by decide)) (ld_at hG33))⟩ hT
    · refine lv_aload_n hx hb dX5_takeNumber_15 rfl (lv_at hl 0 rfl) ?_
      refine gX5_4 S hK hT ha kf_X5_89 dX5_takeNumber_16 (v := (G.1 a 4)) rfl (?_)
      refine lv_iload_n hx hb dX5_takeNumber_19 rfl (lv_at hl 1 rfl) ?_
      refine xi_clt (tgt := 31) hx hb (rfl : Int32.toInt (G.1 a 4) = ((G.1 a 4).toInt)) (rfl : Int32.toInt p0 = p0.toInt) dX5_takeNumber_20 (by decide) (fun c20 => ?_) (fun c20 => ?_)
      · refine lv_aload_n hx hb dX5_takeNumber_31 rfl (lv_at hl 0 rfl) ?_
        refine lv_iconst (v := 1) hx hb dX5_takeNumber_32 (by decide) ?_
        refine pX5_5 (v := 1) S hK hT hS ha kf_X5_15 (Or.inr rfl) dX5_takeNumber_33 (fun H locs hT hS => ?_)
        obtain ⟨G33, hG33⟩ : ∃ GG : XG, GG = dput G a 5 1 := ⟨_, rfl⟩
        rw [← hG33] at hT
        refine lv_iconst (v := 0) hx hb dX5_takeNumber_36 (by decide) ?_
        exact x_ri hx hb hr hlk hQ (Nat.le_of_ble_eq_true rfl) (Nat.le_of_ble_eq_true rfl) hS dX5_takeNumber_37 G33 ⟨_, rfl, (by rw [hG33]; exact XFr.dput XFr.rf (List.mem_of_getElem? (i := 4) rfl)), (v_X5_takeNumber_37_5 (K := K) (F := F) a G r1 p0 p1 ha hrd n0 z0 (xzi hz1) c4 c12 c20), (v_X5_takeNumber_37_6 (K := K) (F := F) a G33 G r1 p0 p1 ha hrd n0 z0 (xzi hz1) c4 c12 c20 (ld_j hG33 (by decide)) (ld_j hG33 (by decide)) (ld_j hG33 (by decide)) (ld_j hG33 (by decide)) (ld_at hG33))⟩ hT
      · refine lv_aload_n hx hb dX5_takeNumber_23 rfl (lv_at hl 0 rfl) ?_
        refine gX5_4 S hK hT ha kf_X5_89 dX5_takeNumber_24 (v := (G.1 a 4)) rfl (?_)
        refine lv_iload_n hx hb dX5_takeNumber_27 rfl (lv_at hl 2 rfl) ?_
        refine xi_cle (tgt := 38) hx hb (rfl : Int32.toInt (G.1 a 4) = ((G.1 a 4).toInt)) (rfl : Int32.toInt p1 = p1.toInt) dX5_takeNumber_28 (by decide) (fun c28 => ?_) (fun c28 => ?_)
        · have z38 : 0 ≤ ((G.1 a 3).toInt) ∧ ((G.1 a 3).toInt) ≤ ((G.1 (F a 0) 1).toInt) := rd_eb (tC_e _ _) hrd (z_X5_takeWord_1 ((G.1 a 5).toInt) c4) (Or.inr (z_X5_takeNumber_2 ((G.1 a 1).toInt) c12))
          refine lv_aload_n hx hb dX5_takeNumber_38 rfl (lv_at hl 0 rfl) ?_
          refine gX5_4 S hK hT ha kf_X5_89 dX5_takeNumber_39 (v := (G.1 a 4)) rfl (?_)
          refine lv_istore_n (lv' := [(3, .int (G.1 a 4)), (0, .ref a), (1, .int p0), (2, .int p1)]) hx hb dX5_takeNumber_42 rfl hl (by decide) rfl (fun ls hl => ?_)
          refine lv_aload_n hx hb dX5_takeNumber_43 rfl (lv_at hl 1 rfl) ?_
          refine x_cv0 (x_runV (b := a) (As := []) (rest := []) S (c_X5_advance l E K F G a ha (n0) (z38)) mv_X5_advance km_X5_23 rfl rfl ⟨Nat.le_of_ble_eq_true rfl, Nat.le_of_ble_eq_true rfl⟩ (rc_7 hK hT ha) hK (fun _ => XP.blind) (fun U hU hW => XP.at hK hz hS hT hU hW) rfl hl.1 (Nat.le_of_ble_eq_true rfl) dX5_takeNumber_44 ⟨Nat.le_of_ble_eq_true rfl, Nat.le_of_ble_eq_true rfl⟩) hS ?_
          rintro G44 H locs ⟨hF44, t44, oq44⟩ hT hS
          have t44 : (0 ≤ ((G44.1 a 2).toInt) ∧ ((G44.1 a 2).toInt) ≤ ((G.1 (F a 0) 1).toInt)) ∧ (0 ≤ ((G44.1 a 3).toInt) ∧ ((G44.1 a 3).toInt) ≤ ((G.1 (F a 0) 1).toInt)) := t44
          refine lv_iload_n hx hb dX5_takeNumber_47 rfl (lv_at hl 0 rfl) ?_
          exact x_ri hx hb hr hlk hQ (Nat.le_of_ble_eq_true rfl) (Nat.le_of_ble_eq_true rfl) hS dX5_takeNumber_48 G44 ⟨_, rfl, (XFr.call XFr.rf hF44 (xm1 0 rfl (xm1 1 rfl (xm1 2 rfl (xm1 3 rfl xm0)))) xm0 xm0), (v_X5_takeNumber_48_7 (K := K) (F := F) a G G44 r1 p0 p1 ha hrd oq44 n0 z0 (xzi hz1) c4 c12 c20 c28 z38 t44), (v_X5_takeNumber_48_8 (K := K) (F := F) a G G44 r1 p0 p1 ha hrd oq44 n0 z0 (xzi hz1) c4 c12 c20 c28 z38 t44 (hF44.1 _ _ (xnj (by decide) (xnj (by decide) (xnj (by decide) (xnj (by decide) xn0))))))⟩ hT
        · refine lv_aload_n hx hb dX5_takeNumber_31 rfl (lv_at hl 0 rfl) ?_
          refine lv_iconst (v := 1) hx hb dX5_takeNumber_32 (by decide) ?_
          refine pX5_5 (v := 1) S hK hT hS ha kf_X5_15 (Or.inr rfl) dX5_takeNumber_33 (fun H locs hT hS => ?_)
          obtain ⟨G33, hG33⟩ : ∃ GG : XG, GG = dput G a 5 1 := ⟨_, rfl⟩
          rw [← hG33] at hT
          refine lv_iconst (v := 0) hx hb dX5_takeNumber_36 (by decide) ?_
          exact x_ri hx hb hr hlk hQ (Nat.le_of_ble_eq_true rfl) (Nat.le_of_ble_eq_true rfl) hS dX5_takeNumber_37 G33 ⟨_, rfl, (by rw [hG33]; exact XFr.dput XFr.rf (List.mem_of_getElem? (i := 4) rfl)), (v_X5_takeNumber_37_9 (K := K) (F := F) a G r1 p0 p1 ha hrd n0 z0 (xzi hz1) c4 c12 c20 c28), (v_X5_takeNumber_37_10 (K := K) (F := F) a G33 G r1 p0 p1 ha hrd n0 z0 (xzi hz1) c4 c12 c20 c28 (ld_j hG33 (by decide)) (ld_j hG33 (by decide)) (ld_j hG33 (by decide)) (ld_j hG33 (by decide)) (ld_at hG33))⟩ hT

theorem z_X5_takeKind_1 (a0 : Int) (h0 : 0 ≤ a0 ∧ a0 ≤ 6) : ¬ (2147483648 - a0 < ((0 : Nat) : Int)) := by omega
theorem z_X5_takeKind_3 (a0 : Int) (a1 : Int) (h0 : 0 ≤ a0 ∧ a0 ≤ 6) (h1 : a1 = (a0 + 1) ∨ (a0 + 1) < -2147483648 ∨ 2147483648 ≤ (a0 + 1)) : a1 = (a0 + 1) := by omega
theorem z_X5_takeKind_4 (a0 : Int) (h0 : 0 ≤ a0 ∧ a0 ≤ 6) (h1 : ¬ ((6 : Int) ≤ a0)) : 0 ≤ (a0 + 1) ∧ (a0 + 1) ≤ 6 := by omega
theorem z_X5_takeKind_5 (a0 : Int) (h0 : 0 ≤ a0 ∧ a0 ≤ 6) : (0 : Int) ≤ (a0 + 1) := by omega
theorem z_X5_takeKind_7 (a0 : Int) (h0 : 0 ≤ a0 ∧ a0 ≤ 6) (h1 : ¬ ((6 : Int) ≤ a0)) : 0 ≤ a0 ∧ a0 ≤ 5 := by omega
abbrev rm_X5_takeKind : Room := { frames := 5, cells := 0, slots := 0, locals := 107 }
set_option maxHeartbeats 4000000 in
set_option maxRecDepth 100000 in
theorem c_X5_takeKind (l : Launch) (E : XE) (K : Nat → Nat) (F : Nat → Nat → Nat) (G : XG) (a : Nat) (r1 : RSt) (ha : K a = 7) (n0 : 0 ≤ ((G.1 (F a 0) 1).toInt) ∧ ((G.1 (F a 0) 1).toInt) ≤ 80) (hrd : RdI (tC (G.2.1 (F (F a 0) 0)) ((G.1 (F a 0) 1).toInt)) ((G.1 (F a 0) 1).toInt) r1 ((G.1 a 1).toInt) ((G.1 a 2).toInt) ((G.1 a 3).toInt) ((G.1 a 4).toInt) ((G.1 a 5).toInt)) : Met l yX5_takeKind (xw yX5_takeKind cX5_takeKind 2 (some .int)) rm_X5_takeKind (va_Pc [.ref a] (XP E K F G)) (XQ E (fun v (u : XG) => ∃ r : Int32, v = .int r ∧ XFr [(a, 1), (a, 2), (a, 3), (a, 4), (a, 5)] [] [] G u ∧ (0 ≤ r.toInt ∧ r.toInt ≤ 5) ∧ (r.toInt = (tkK (tC (G.2.1 (F (F a 0) 0)) ((G.1 (F a 0) 1).toInt)) r1).1) ∧ (RdI (tC (G.2.1 (F (F a 0) 0)) ((G.1 (F a 0) 1).toInt)) ((G.1 (F a 0) 1).toInt) (tkK (tC (G.2.1 (F (F a 0) 0)) ((G.1 (F a 0) 1).toInt)) r1).2 ((u.1 a 1).toInt) ((u.1 a 2).toInt) ((u.1 a 3).toInt) ((u.1 a 4).toInt) ((u.1 a 5).toInt))) (fun u H => TW E K F u H)) 0 0 (xA E) := by
  refine x_enter (by decide) (Nat.le_of_ble_eq_true rfl) ?_
  intro p e s m args below meth c Q S hr hlk hnm hQ hP ls hl
  obtain ⟨hz, hK, hT⟩ := hP
  obtain ⟨hx, hb, -, -, -⟩ := id S
  obtain ⟨H, hT, hS, hgo⟩ : ∃ H : Heap, TW E K F G H ∧ va_S (xA E) s.heap H [] ∧ H = s.heap := ⟨_, hT, va_S.rf, rfl⟩
  rw [← hgo]
  have hl : lv_has ls 2 [(0, .ref a)] := hl
  obtain ⟨hk9999, hj9999⟩ := fkX5_0 hT ha
  obtain ⟨hk9999a, hj9999a⟩ := fkX8_0 hT hk9999
  refine lv_iconst (v := 0) hx hb dX5_takeKind_0 (by decide) ?_
  refine lv_istore_n (lv' := [(1, .int 0), (0, .ref a)]) hx hb dX5_takeKind_1 rfl hl (by decide) rfl (fun ls hl => ?_)
  have L2 : ∀ (N2 : Nat) (l1_2 : Int32) (G_2 : XG) (H : Heap) (locs : List Loc) (ls : Array Slot), XFr [(a, 1), (a, 2), (a, 3), (a, 4)] [] [] G G_2 → (∀ k : Nat, (k : Int) < l1_2.toInt → (tkW (tC (G.2.1 (F (F a 0) 0)) ((G.1 (F a 0) 1).toInt)) (kw k) r1).1 ≠ 1) → RdI (tC (G.2.1 (F (F a 0) 0)) ((G.1 (F a 0) 1).toInt)) ((G.1 (F a 0) 1).toInt) r1 ((G_2.1 a 1).toInt) ((G_2.1 a 2).toInt) ((G_2.1 a 3).toInt) ((G_2.1 a 4).toInt) ((G.1 a 5).toInt) → 0 ≤ l1_2.toInt ∧ l1_2.toInt ≤ 6 → (0 : Int) ≤ l1_2.toInt → 2147483648 - l1_2.toInt < ((N2 : Nat) : Int) → TW E K F G_2 H → va_S (xA E) s.heap H locs → lv_has ls 2 [(0, .ref a), (1, .int l1_2)] → W p l e rm_X5_takeKind s m args below meth c H locs 0 0 Q (F0 m 2 ls []) := by
    intro N2
    induction N2 with
    | zero =>
      intro l1_2 G_2 H locs ls hF_2 pk rd I2_0 I2_1 hm2
      exact absurd hm2 (z_X5_takeKind_1 l1_2.toInt I2_0)
    | succ N2 ih2 =>
      intro l1_2 G_2 H locs ls hF_2 pk rd I2_0 I2_1 hm2 hT hS hl
      refine lv_iload_n hx hb dX5_takeKind_2 rfl (lv_at hl 1 rfl) ?_
      refine lv_bipush (v := 6) hx hb dX5_takeKind_3 (by decide) ?_
      refine xi_cge (tgt := 27) hx hb (rfl : Int32.toInt l1_2 = l1_2.toInt) ((by decide) : Int32.toInt 6 = (6 : Int)) dX5_takeKind_5 (by decide) (fun c5 => ?_) (fun c5 => ?_)
      · refine lv_aload_n hx hb dX5_takeKind_27 rfl (lv_at hl 0 rfl) ?_
        refine lv_iconst (v := 1) hx hb dX5_takeKind_28 (by decide) ?_
        refine pX5_5 (v := 1) S hK hT hS ha kf_X5_15 (Or.inr rfl) dX5_takeKind_29 (fun H locs hT hS => ?_)
        obtain ⟨G29, hG29⟩ : ∃ GG : XG, GG = dput G_2 a 5 1 := ⟨_, rfl⟩
        rw [← hG29] at hT
        refine lv_iconst (v := 0) hx hb dX5_takeKind_32 (by decide) ?_
        exact x_ri hx hb hr hlk hQ (Nat.le_of_ble_eq_true rfl) (Nat.le_of_ble_eq_true rfl) hS dX5_takeKind_33 G29 ⟨_, rfl, (by rw [hG29]; exact XFr.dput (XFr.call XFr.rf hF_2 (xm1 0 rfl (xm1 1 rfl (xm1 2 rfl (xm1 3 rfl xm0)))) xm0 xm0) (List.mem_of_getElem? (i := 4) rfl)), (by decide), (v_X5_takeKind_33_1 (K := K) (F := F) a G r1 l1_2 N2 ha pk n0 I2_0 I2_1 hm2 c5), (v_X5_takeKind_33_2 (K := K) (F := F) a G G_2 G29 r1 l1_2 N2 ha pk rd n0 I2_0 I2_1 hm2 c5 (ld_j hG29 (by decide)) (ld_j hG29 (by decide)) (ld_j hG29 (by decide)) (ld_j hG29 (by decide)) (ld_at hG29))⟩ hT
      · refine lv_aload_n hx hb dX5_takeKind_8 rfl (lv_at hl 0 rfl) ?_
        refine lv_iload_n hx hb dX5_takeKind_9 rfl (lv_at hl 1 rfl) ?_
        refine x_clp (x_runSN (As := [.int l1_2]) (rest := [.ref a]) S (c_X10_wordOf l E K F G_2 H l1_2) ms_X10_wordOf (by decide +kernel) rfl rfl ⟨Nat.le_of_ble_eq_true rfl, Nat.le_of_ble_eq_true rfl⟩ hK (fun _ => XPh.blind) (fun U hU hW => XPh.at hK hz hS hT hU hW) rfl hl.1 (Nat.le_of_ble_eq_true rfl) dX5_takeKind_10 ⟨Nat.le_of_ble_eq_true rfl, Nat.le_of_ble_eq_true rfl⟩) hS ?_
        rintro _ _ locs ⟨q10, hi10, rfl, hw10⟩ hS
        refine x_cl0 (x_runV (b := a) (As := [.ref (E.2.2.2.2.1 q10)]) (rest := []) S (c_X5_takeWord l E K F G_2 a q10 r1 ha (Nat.lt_of_lt_of_le hi10 (by decide)) (by rw [(show (G_2.1 (F a 0) 1).toInt = ((G.1 (F a 0) 1).toInt) from (congrArg Int32.toInt (hF_2.1 _ _ (xna (xne_k hk9999 ha (by decide)) (xnj (by decide) (xnj (by decide) (xnj (by decide) xn0)))))).trans (rfl : Int32.toInt (G.1 (F a 0) 1) = ((G.1 (F a 0) 1).toInt)))] <;> exact (n0)) (v_X5_takeKind_13_3 (F := F) a G G_2 r1 rd (hF_2.2.1 _ xn0) (hF_2.1 _ _ (xna (xne_k hk9999 ha (by decide)) (xnj (by decide) (xnj (by decide) (xnj (by decide) xn0))))) (hF_2.1 _ _ (xnj (by decide) (xnj (by decide) (xnj (by decide) (xnj (by decide) xn0))))))) mv_X5_takeWord km_X5_65 rfl rfl ⟨Nat.le_of_ble_eq_true rfl, Nat.le_of_ble_eq_true rfl⟩ (rc_7 hK hT ha) hK (fun _ => XP.blind) (fun U hU hW => XP.at hK hz hS hT hU hW) rfl hl.1 (Nat.le_of_ble_eq_true rfl) dX5_takeKind_13 ⟨Nat.le_of_ble_eq_true rfl, Nat.le_of_ble_eq_true rfl⟩) hS ?_
        rintro _ G13 H locs ⟨x13, rfl, b13, hF13, t13, oq13, oq13a⟩ hT hS
        have t13 : 0 ≤ x13.toInt ∧ x13.toInt ≤ 1 := t13
        have oq13 : x13.toInt = (tkW (tC (G.2.1 (F (F a 0) 0)) ((G.1 (F a 0) 1).toInt)) (kw q10) r1).1 := by simp only [(show G_2.2.1 (F (F a 0) 0) = G.2.1 (F (F a 0) 0) from (hF_2.2.1 _ xn0)), (show G_2.1 (F a 0) 1 = G.1 (F a 0) 1 from (hF_2.1 _ _ (xna (xne_k hk9999 ha (by decide)) (xnj (by decide) (xnj (by decide) (xnj (by decide) xn0))))))] at oq13; exact oq13
        have oq13a : RdI (tC (G.2.1 (F (F a 0) 0)) ((G.1 (F a 0) 1).toInt)) ((G.1 (F a 0) 1).toInt) (tkW (tC (G.2.1 (F (F a 0) 0)) ((G.1 (F a 0) 1).toInt)) (kw q10) r1).2 ((G13.1 a 1).toInt) ((G13.1 a 2).toInt) ((G13.1 a 3).toInt) ((G13.1 a 4).toInt) ((G13.1 a 5).toInt) := by simp only [(show G_2.2.1 (F (F a 0) 0) = G.2.1 (F (F a 0) 0) from (hF_2.2.1 _ xn0)), (show G_2.1 (F a 0) 1 = G.1 (F a 0) 1 from (hF_2.1 _ _ (xna (xne_k hk9999 ha (by decide)) (xnj (by decide) (xnj (by decide) (xnj (by decide) xn0))))))] at oq13a; exact oq13a
        refine xi_zeq (tgt := 21) hx hb (rfl : Int32.toInt x13 = x13.toInt) dX5_takeKind_16 (by decide) (fun c16 => ?_) (fun c16 => ?_)
        · refine xi_iinc (n := 1) (lv' := fun z9 => [(1, .int z9), (0, .ref a)]) (k := 1) hx hb (rfl : Int32.toInt l1_2 = l1_2.toInt) (by decide) dX5_takeKind_21 hl rfl (by decide) (fun _ => rfl) (fun x21 ls t21 hl => ?_)
          have e21 : x21.toInt = (l1_2.toInt + 1) := (z_X5_takeKind_3 l1_2.toInt x21.toInt I2_0 t21)
          have hl : lv_has ls 2 [(1, .int x21), (0, .ref a)] := hl
          refine lv_goto (tgt := 2) hx hb dX5_takeKind_24 (by decide) ?_
          exact ih2 x21 G13 _ _ _ (XFr.call (XFr.call XFr.rf hF_2 (xm1 0 rfl (xm1 1 rfl (xm1 2 rfl (xm1 3 rfl xm0)))) xm0 xm0) hF13 (xm1 0 rfl (xm1 1 rfl (xm1 2 rfl (xm1 3 rfl xm0)))) xm0 xm0) (by rw [(e21 : Int32.toInt x21 = (l1_2.toInt + 1))] <;> exact (v_X5_takeKind_24_4 (K := K) (F := F) a G r1 l1_2 x13 q10 N2 ha pk oq13 n0 I2_0 I2_1 hm2 c5 hw10 t13 (xzi b13) c16)) (v_X5_takeKind_24_5 (K := K) (F := F) a G G13 r1 l1_2 x13 q10 N2 ha oq13 oq13a n0 I2_0 I2_1 hm2 c5 hw10 t13 (xzi b13) c16 ((hF13.1 _ _ (xnj (by decide) (xnj (by decide) (xnj (by decide) (xnj (by decide) xn0))))).trans (hF_2.1 _ _ (xnj (by decide) (xnj (by decide) (xnj (by decide) (xnj (by decide) xn0))))))) (by rw [(e21 : Int32.toInt x21 = (l1_2.toInt + 1))] <;> exact (z_X5_takeKind_4 l1_2.toInt I2_0 c5)) (by rw [(e21 : Int32.toInt x21 = (l1_2.toInt + 1))] <;> exact (z_X5_takeKind_5 l1_2.toInt I2_0)) (by rw [(e21 : Int32.toInt x21 = (l1_2.toInt + 1))] <;> exact (z_X5_takeWord_14 l1_2.toInt N2 hm2)) hT hS (lv_sub hl [1, 0] rfl)
        · refine lv_iload_n hx hb dX5_takeKind_19 rfl (lv_at hl 1 rfl) ?_
          exact x_ri hx hb hr hlk hQ (Nat.le_of_ble_eq_true rfl) (Nat.le_of_ble_eq_true rfl) hS dX5_takeKind_20 G13 ⟨_, rfl, (XFr.call (XFr.call XFr.rf hF_2 (xm1 0 rfl (xm1 1 rfl (xm1 2 rfl (xm1 3 rfl xm0)))) xm0 xm0) hF13 (xm1 0 rfl (xm1 1 rfl (xm1 2 rfl (xm1 3 rfl xm0)))) xm0 xm0), (z_X5_takeKind_7 l1_2.toInt I2_0 c5), (v_X5_takeKind_20_6 (K := K) (F := F) a G r1 l1_2 x13 q10 N2 ha pk oq13 n0 I2_0 I2_1 hm2 c5 hw10 t13 (xzi b13) c16), (v_X5_takeKind_20_7 (K := K) (F := F) a G G13 r1 l1_2 x13 q10 N2 ha pk oq13 oq13a n0 I2_0 I2_1 hm2 c5 hw10 t13 (xzi b13) c16)⟩ hT
  exact L2 4294967297 0 G _ _ _ XFr.rf (v_X5_takeKind_1_8 (K := K) (F := F) a G r1 ha n0) (v_X5_takeKind_1_9 (F := F) a G r1 hrd) (by decide) (by decide) (by decide) hT hS (lv_sub hl [1, 0] rfl)

abbrev rm_X5_takeAction : Room := { frames := 5, cells := 0, slots := 0, locals := 107 }
set_option maxHeartbeats 4000000 in
set_option maxRecDepth 100000 in
theorem c_X5_takeAction (l : Launch) (E : XE) (K : Nat → Nat) (F : Nat → Nat → Nat) (G : XG) (a : Nat) (r1 : RSt) (ha : K a = 7) (n0 : 0 ≤ ((G.1 (F a 0) 1).toInt) ∧ ((G.1 (F a 0) 1).toInt) ≤ 80) (hrd : RdI (tC (G.2.1 (F (F a 0) 0)) ((G.1 (F a 0) 1).toInt)) ((G.1 (F a 0) 1).toInt) r1 ((G.1 a 1).toInt) ((G.1 a 2).toInt) ((G.1 a 3).toInt) ((G.1 a 4).toInt) ((G.1 a 5).toInt)) : Met l yX5_takeAction (xw yX5_takeAction cX5_takeAction 1 (some .int)) rm_X5_takeAction (va_Pc [.ref a] (XP E K F G)) (XQ E (fun v (u : XG) => ∃ r : Int32, v = .int r ∧ XFr [(a, 1), (a, 2), (a, 3), (a, 4)] [] [] G u ∧ (0 ≤ r.toInt ∧ r.toInt ≤ 2) ∧ (r.toInt = (tkA (tC (G.2.1 (F (F a 0) 0)) ((G.1 (F a 0) 1).toInt)) r1).1) ∧ (RdI (tC (G.2.1 (F (F a 0) 0)) ((G.1 (F a 0) 1).toInt)) ((G.1 (F a 0) 1).toInt) (tkA (tC (G.2.1 (F (F a 0) 0)) ((G.1 (F a 0) 1).toInt)) r1).2 ((u.1 a 1).toInt) ((u.1 a 2).toInt) ((u.1 a 3).toInt) ((u.1 a 4).toInt) ((u.1 a 5).toInt))) (fun u H => TW E K F u H)) 0 0 (xA E) := by
  refine x_enter (by decide) (Nat.le_of_ble_eq_true rfl) ?_
  intro p e s m args below meth c Q S hr hlk hnm hQ hP ls hl
  obtain ⟨hz, hK, hT⟩ := hP
  obtain ⟨hx, hb, -, -, -⟩ := id S
  obtain ⟨H, hT, hS, hgo⟩ : ∃ H : Heap, TW E K F G H ∧ va_S (xA E) s.heap H [] ∧ H = s.heap := ⟨_, hT, va_S.rf, rfl⟩
  rw [← hgo]
  have hl : lv_has ls 1 [(0, .ref a)] := hl
  obtain ⟨hk9999, hj9999⟩ := fkX5_0 hT ha
  obtain ⟨hk9999a, hj9999a⟩ := fkX8_0 hT hk9999
  refine lv_aload_n hx hb dX5_takeAction_0 rfl (lv_at hl 0 rfl) ?_
  refine va_ldcS hx hb S.2.2.2.1 (hK.2.2.1 6 ("LateRules$Reader", 85, "cascade") rfl) dX5_takeAction_1 ?_
  refine x_cl0 (x_runV (b := a) (As := [.ref (E.2.2.2.2.1 6)]) (rest := []) S (c_X5_takeWord l E K F G a 6 r1 ha (show 6 < 10 by decide) (n0) (v_X5_takeAction_3_1 (F := F) a G r1 hrd)) mv_X5_takeWord km_X5_65 rfl rfl ⟨Nat.le_of_ble_eq_true rfl, Nat.le_of_ble_eq_true rfl⟩ (rc_7 hK hT ha) hK (fun _ => XP.blind) (fun U hU hW => XP.at hK hz hS hT hU hW) rfl hl.1 (Nat.le_of_ble_eq_true rfl) dX5_takeAction_3 ⟨Nat.le_of_ble_eq_true rfl, Nat.le_of_ble_eq_true rfl⟩) hS ?_
  rintro _ G3 H locs ⟨x3, rfl, b3, hF3, t3, oq3, oq3a⟩ hT hS
  have t3 : 0 ≤ x3.toInt ∧ x3.toInt ≤ 1 := t3
  refine xi_zeq (tgt := 11) hx hb (rfl : Int32.toInt x3 = x3.toInt) dX5_takeAction_6 (by decide) (fun c6 => ?_) (fun c6 => ?_)
  · refine lv_aload_n hx hb dX5_takeAction_11 rfl (lv_at hl 0 rfl) ?_
    refine va_ldcS hx hb S.2.2.2.1 (hK.2.2.1 7 ("LateRules$Reader", 87, "clear") rfl) dX5_takeAction_12 ?_
    refine x_cl0 (x_runV (b := a) (As := [.ref (E.2.2.2.2.1 7)]) (rest := []) S (c_X5_takeWord l E K F G3 a 7 r1 ha (show 7 < 10 by decide) (by rw [(show (G3.1 (F a 0) 1).toInt = ((G.1 (F a 0) 1).toInt) from (congrArg Int32.toInt (hF3.1 _ _ (xna (xne_k hk9999 ha (by decide)) (xnj (by decide) (xnj (by decide) (xnj (by decide) xn0)))))).trans (rfl : Int32.toInt (G.1 (F a 0) 1) = ((G.1 (F a 0) 1).toInt)))] <;> exact (n0)) (v_X5_takeAction_14_2 (K := K) (F := F) a G G3 r1 x3 ha oq3 oq3a n0 t3 (xzi b3) c6 (hF3.2.1 _ xn0) (hF3.1 _ _ (xna (xne_k hk9999 ha (by decide)) (xnj (by decide) (xnj (by decide) (xnj (by decide) xn0))))))) mv_X5_takeWord km_X5_65 rfl rfl ⟨Nat.le_of_ble_eq_true rfl, Nat.le_of_ble_eq_true rfl⟩ (rc_7 hK hT ha) hK (fun _ => XP.blind) (fun U hU hW => XP.at hK hz hS hT hU hW) rfl hl.1 (Nat.le_of_ble_eq_true rfl) dX5_takeAction_14 ⟨Nat.le_of_ble_eq_true rfl, Nat.le_of_ble_eq_true rfl⟩) hS ?_
    rintro _ G14 H locs ⟨x14, rfl, b14, hF14, t14, oq14, oq14a⟩ hT hS
    have t14 : 0 ≤ x14.toInt ∧ x14.toInt ≤ 1 := t14
    have oq14 : x14.toInt = (tkW (tC (G.2.1 (F (F a 0) 0)) ((G.1 (F a 0) 1).toInt)) (kw 7) r1).1 := by simp only [(show G3.2.1 (F (F a 0) 0) = G.2.1 (F (F a 0) 0) from (hF3.2.1 _ xn0)), (show G3.1 (F a 0) 1 = G.1 (F a 0) 1 from (hF3.1 _ _ (xna (xne_k hk9999 ha (by decide)) (xnj (by decide) (xnj (by decide) (xnj (by decide) xn0))))))] at oq14; exact oq14
    have oq14a : RdI (tC (G.2.1 (F (F a 0) 0)) ((G.1 (F a 0) 1).toInt)) ((G.1 (F a 0) 1).toInt) (tkW (tC (G.2.1 (F (F a 0) 0)) ((G.1 (F a 0) 1).toInt)) (kw 7) r1).2 ((G14.1 a 1).toInt) ((G14.1 a 2).toInt) ((G14.1 a 3).toInt) ((G14.1 a 4).toInt) ((G14.1 a 5).toInt) := by simp only [(show G3.2.1 (F (F a 0) 0) = G.2.1 (F (F a 0) 0) from (hF3.2.1 _ xn0)), (show G3.1 (F a 0) 1 = G.1 (F a 0) 1 from (hF3.1 _ _ (xna (xne_k hk9999 ha (by decide)) (xnj (by decide) (xnj (by decide) (xnj (by decide) xn0))))))] at oq14a; exact oq14a
    refine xi_zeq (tgt := 24) hx hb (rfl : Int32.toInt x14 = x14.toInt) dX5_takeAction_17 (by decide) (fun c17 => ?_) (fun c17 => ?_)
    · refine lv_iconst (v := 0) hx hb dX5_takeAction_24 (by decide) ?_
      exact x_ri hx hb hr hlk hQ (Nat.le_of_ble_eq_true rfl) (Nat.le_of_ble_eq_true rfl) hS dX5_takeAction_25 G14 ⟨_, rfl, (XFr.call (XFr.call XFr.rf hF3 (xm1 0 rfl (xm1 1 rfl (xm1 2 rfl (xm1 3 rfl xm0)))) xm0 xm0) hF14 (xm1 0 rfl (xm1 1 rfl (xm1 2 rfl (xm1 3 rfl xm0)))) xm0 xm0), (by decide), (v_X5_takeAction_25_3 (K := K) (F := F) a G r1 x3 x14 ha oq3 oq14 n0 t3 (xzi b3) c6 t14 (xzi b14) c17), (v_X5_takeAction_25_4 (K := K) (F := F) a G G14 r1 x3 x14 ha oq3 oq14 oq14a n0 t3 (xzi b3) c6 t14 (xzi b14) c17)⟩ hT
    · refine lv_iconst (v := 2) hx hb dX5_takeAction_20 (by decide) ?_
      refine lv_goto (tgt := 25) hx hb dX5_takeAction_21 (by decide) ?_
      exact x_ri hx hb hr hlk hQ (Nat.le_of_ble_eq_true rfl) (Nat.le_of_ble_eq_true rfl) hS dX5_takeAction_25 G14 ⟨_, rfl, (XFr.call (XFr.call XFr.rf hF3 (xm1 0 rfl (xm1 1 rfl (xm1 2 rfl (xm1 3 rfl xm0)))) xm0 xm0) hF14 (xm1 0 rfl (xm1 1 rfl (xm1 2 rfl (xm1 3 rfl xm0)))) xm0 xm0), (by decide), (v_X5_takeAction_25_5 (K := K) (F := F) a G r1 x3 x14 ha oq3 oq14 n0 t3 (xzi b3) c6 t14 (xzi b14) c17), (v_X5_takeAction_25_6 (K := K) (F := F) a G G14 r1 x3 x14 ha oq3 oq14 oq14a n0 t3 (xzi b3) c6 t14 (xzi b14) c17)⟩ hT
  · refine lv_iconst (v := 1) hx hb dX5_takeAction_9 (by decide) ?_
    exact x_ri hx hb hr hlk hQ (Nat.le_of_ble_eq_true rfl) (Nat.le_of_ble_eq_true rfl) hS dX5_takeAction_10 G3 ⟨_, rfl, (XFr.call XFr.rf hF3 (xm1 0 rfl (xm1 1 rfl (xm1 2 rfl (xm1 3 rfl xm0)))) xm0 xm0), (by decide), (v_X5_takeAction_10_7 (K := K) (F := F) a G r1 x3 ha oq3 n0 t3 (xzi b3) c6), (v_X5_takeAction_10_8 (K := K) (F := F) a G G3 r1 x3 ha oq3 oq3a n0 t3 (xzi b3) c6)⟩ hT
section
/-! ===== a new rule ===== -/
theorem kinst7 : Cond.instantiable RX7 10 ∈ GT ∧ Cond.initialized RX7 ∈ GT := ⟨GT_mem 513 (by decide +kernel) rfl, GT_mem 111 (by decide +kernel) rfl⟩
/-- kinds that stay as others come -/
def KM (K K1 : Nat → Nat) : Prop := ∀ (x n : Nat), K x = n → n ≠ 0 → K1 x = n
theorem KM.rf {K : Nat → Nat} : KM K K := fun _ _ h _ => h
theorem KM.tr {K K1 K2 : Nat → Nat} (h : KM K K1) (h2 : KM K1 K2) : KM K K2 := fun x n e z => h2 x n (h x n e z) z
theorem KM.up {K : Nat → Nat} {q k : Nat} (hq : K q = 0) : KM K (va_up K q k) := by
  intro x n h hn
  rw [va_up_ne]
  · exact h
  · intro e
    subst e
    exact hn (h.symm.trans hq)
theorem SHP.mono {E : XE} {K K1 : Nat → Nat} {F : Nat → Nat → Nat} {d c : Nat → Int32} {r : Nat → Option Nat} {l : Nat → Int64} {a k : Nat} {e : va_E} (m : KM K K1) (h : SHP E K F d c r l a k e) : SHP E K1 F d c r l a k e := by
  unfold SHP at h ⊢
  split at h
  · obtain ⟨h0, h1, h2, h3, h4⟩ := h
    exact ⟨h0, m _ _ h1 (by decide), h2, m _ _ h3 (by decide), h4⟩
  · obtain ⟨h0, h1, h2, h3, h4, h5, h6⟩ := h
    exact ⟨h0, m _ _ h1 (by decide), h2, m _ _ h3 (by decide), h4, m _ _ h5 (by decide), h6⟩
  · obtain ⟨h0, h1, h2, h3, h4, h5, h6, h7, h8⟩ := h
    exact ⟨h0, m _ _ h1 (by decide), h2, m _ _ h3 (by decide), h4, m _ _ h5 (by decide), h6, m _ _ h7 (by decide), h8⟩
  · obtain ⟨h0, h1, h2, h3, h4, h5, h6⟩ := h
    exact ⟨h0, m _ _ h1 (by decide), h2, m _ _ h3 (by decide), h4, m _ _ h5 (by decide), h6⟩
  · obtain ⟨h0, h1, h2, h3, h4, h5, h6, h7, h8, h9, h10, h11, h12⟩ := h
    exact ⟨h0, m _ _ h1 (by decide), h2, m _ _ h3 (by decide), h4, m _ _ h5 (by decide), h6, m _ _ h7 (by decide), h8, m _ _ h9 (by decide), h10, m _ _ h11 (by decide), h12⟩
  · obtain ⟨h0, h1, h2, h3⟩ := h
    exact ⟨h0, m _ _ h1 (by decide), h2, h3⟩
  · obtain ⟨h0, h1, h2, h3, h4⟩ := h
    exact ⟨h0, m _ _ h1 (by decide), h2, m _ _ h3 (by decide), h4⟩
  · exact h
  · obtain ⟨h0, h1, h2⟩ := h
    exact ⟨h0, m _ _ h1 (by decide), h2⟩
  · exact h
  · obtain ⟨h0, h1, h2, h3, h4, h5, h6, h7, h8, h9, h10, h11, h12, h13, h14, h15, h16, h17, h18, h19, h20, h21, h22, h23, h24, h25, h26, h27, h28, h29, h30, h31, h32, h33, h34, h35⟩ := h
    exact ⟨h0, m _ _ h1 (by decide), h2, m _ _ h3 (by decide), h4, m _ _ h5 (by decide), h6, m _ _ h7 (by decide), h8, m _ _ h9 (by decide), h10, m _ _ h11 (by decide), h12, m _ _ h13 (by decide), h14, m _ _ h15 (by decide), h16, m _ _ h17 (by decide), h18, m _ _ h19 (by decide), h20, m _ _ h21 (by decide), h22, m _ _ h23 (by decide), h24, m _ _ h25 (by decide), h26, m _ _ h27 (by decide), h28, m _ _ h29 (by decide), h30, m _ _ h31 (by decide), h32, m _ _ h33 (by decide), h34, h35⟩
  · obtain ⟨h0, h1, h2, h3, h4, h5, h6, h7, h8, h9, h10, h11, h12, h13, h14, h15, h16, h17, h18, h19, h20, h21, h22, h23, h24, h25, h26, h27, h28, h29, h30, h31, h32, h33, h34, h35, h36, h37, h38, h39, h40, h41, h42, h43, h44, h45, h46, h47, h48, h49, h50, h51, h52, h53, h54, h55, h56, h57, h58, h59, h60, h61, h62, h63, h64, h65, h66, h67, h68, h69, h70, h71, h72, h73, h74⟩ := h
    exact ⟨h0, m _ _ h1 (by decide), h2, m _ _ h3 (by decide), h4, m _ _ h5 (by decide), h6, m _ _ h7 (by decide), h8, m _ _ h9 (by decide), h10, h11, m _ _ h12 (by decide), h13, m _ _ h14 (by decide), h15, m _ _ h16 (by decide), h17, m _ _ h18 (by decide), h19, m _ _ h20 (by decide), h21, m _ _ h22 (by decide), h23, m _ _ h24 (by decide), h25, m _ _ h26 (by decide), h27, m _ _ h28 (by decide), h29, m _ _ h30 (by decide), h31, m _ _ h32 (by decide), h33, m _ _ h34 (by decide), h35, m _ _ h36 (by decide), h37, m _ _ h38 (by decide), h39, m _ _ h40 (by decide), h41, m _ _ h42 (by decide), h43, m _ _ h44 (by decide), h45, m _ _ h46 (by decide), h47, m _ _ h48 (by decide), h49, m _ _ h50 (by decide), h51, m _ _ h52 (by decide), h53, m _ _ h54 (by decide), h55, m _ _ h56 (by decide), h57, h58, m _ _ h59 (by decide), h60, m _ _ h61 (by decide), h62, m _ _ h63 (by decide), h64, m _ _ h65 (by decide), h66, m _ _ h67 (by decide), h68, m _ _ h69 (by decide), h70, m _ _ h71 (by decide), h72, m _ _ h73 (by decide), h74⟩
  · exact h
  · exact ⟨h.1, fun i q hq => m _ _ (h.2 i q hq) (by decide)⟩
  · refine ⟨h.1, fun i hi => ?_⟩
    obtain ⟨q, h3, h4, h5⟩ := h.2 i hi
    exact ⟨q, h3, m _ _ h4 (by decide), h5⟩
  · first | exact h | (split <;> first | exact h | (exfalso; simp_all; done))
/-- the numbers of a new rule are 0 -/
def znew (G : XG) (q : Nat) : XG := (fun b j => if b = q ∧ j < 10 then 0 else G.1 b j, G.2)
theorem znew_fr (G : XG) (q : Nat) : XFr [(q, 0), (q, 1), (q, 2), (q, 3), (q, 4), (q, 5), (q, 6), (q, 7), (q, 8), (q, 9)] [] [] G (znew G q) := by
  refine ⟨fun b j hb => ?_, fun _ _ => rfl, fun _ _ => rfl⟩
  show (if b = q ∧ j < 10 then 0 else G.1 b j) = _
  rw [if_neg]
  rintro ⟨rfl, hj⟩
  apply hb
  match j, hj with
  | 0, _ => simp
  | 1, _ => simp
  | 2, _ => simp
  | 3, _ => simp
  | 4, _ => simp
  | 5, _ => simp
  | 6, _ => simp
  | 7, _ => simp
  | 8, _ => simp
  | 9, _ => simp
  | j + 10, hj => exact absurd hj (by omega)
theorem znew_0 (G : XG) (q : Nat) {j : Nat} (h : j < 10) : (znew G q).1 q j = 0 := if_pos ⟨rfl, h⟩
theorem TWl.push {E : XE} {K : Nat → Nat} {F : Nat → Nat → Nat} {G : XG} {ws : va_W} {A : Nat → Prop} {q : Nat} {e : va_E} (h : TWl E K F G ws) (hD : va_D A (ws ++ [(q, e)])) (hs : SHQ E (va_up K q 9) F (znew G q) q 9 e) : K q = 0 ∧ TWl E (va_up K q 9) F (znew G q) (ws ++ [(q, e)]) := by
  have hap : ∀ (i : Nat) (x : va_E), ws[i]? = some (q, x) → False := by
    intro i x hi
    have hl := (List.getElem?_eq_some_iff.mp hi).1
    have h1 : (ws ++ [(q, e)])[i]? = some (q, x) := by rw [List.getElem?_append_left hl]; exact hi
    have h2 : (ws ++ [(q, e)])[ws.length]? = some (q, e) := by simp
    have := hD.1 _ _ _ _ h1 h2 rfl
    omega
  have hq : K q = 0 := by
    by_cases z : K q = 0
    · exact z
    · obtain ⟨i, x, h1, -⟩ := h.1 q z
      exact (hap i x h1).elim
  have hm : KM K (va_up K q 9) := KM.up hq
  refine ⟨hq, ?_, ?_⟩
  · intro a ha
    by_cases z : a = q
    · subst z
      exact ⟨ws.length, e, by simp, by rw [va_up_self]; exact hs⟩
    · rw [va_up_ne _ _ z] at ha ⊢
      obtain ⟨i, x, h1, h2⟩ := h.1 a ha
      refine ⟨i, x, by rw [List.getElem?_append_left (List.getElem?_eq_some_iff.mp h1).1]; exact h1, ?_⟩
      have hd : (znew G q).1 a = G.1 a := funext (fun j => if_neg (fun y => z y.1))
      show SHP E (va_up K q 9) F ((znew G q).1 a) (G.2.1 a) (G.2.2.1 a) G.2.2.2 a (K a) x
      rw [hd]
      exact h2.mono hm
  · obtain ⟨i, j, v, n, f, ml, cnt, h1, h2, h3, h4, h5⟩ := h.2
    refine ⟨i, j, v, n, f, ml, cnt, ?_, ?_, ?_, ?_, h5⟩
    · rw [List.getElem?_append_left (List.getElem?_eq_some_iff.mp h1).1]; exact h1
    · rw [List.getElem?_append_left (List.getElem?_eq_some_iff.mp h2).1]; exact h2
    · rw [va_up_ne]
      · exact h3
      · intro z
        rw [z] at h1
        exact hap _ _ h1
    · rw [va_up_ne]
      · exact h4
      · intro z
        rw [z] at h2
        exact hap _ _ h2
section XNR
variable {p : Program} {l : Launch} {e : Env} {R : Room} {s : State} {m : MethodId} {args : Array Value} {below : List Frame} {meth : Method} {c : Code} {H : Heap} {locs : List Loc} {cells slots : Nat} {Q : State → Prop}
variable {pc : Nat} {ls : Array Slot} {rest : List Value} {E : XE} {cc : ByteArray} {nL : Nat} {own : String} {w0 : Cond} {K : Nat → Nat} {F : Nat → Nat → Nat} {G : XG} {idx : Nat}
theorem x_newR (S : CallFix p m c cc nL s args (w0 :: GT) own) (hK : XK E s) (hz : E.2.2.1 ≤ s.heap.size) (hT : TW E K F G H) (hS : va_S (xA E) s.heap H locs) (hl : Cond.classLink own idx RX7 ∈ GT) (hc : cells + 1 ≤ R.cells) (hs : slots + 10 ≤ R.slots) (hdg : decode cc pc = .ok (.new idx, 3)) (kk : ∀ (q : Nat) (K1 : Nat → Nat) (H1 : Heap), KM K K1 → K q = 0 → K1 q = 9 → TW E K1 F (znew G q) H1 → va_S (xA E) s.heap H1 locs → W p l e R s m args below meth c H1 locs (cells + 1) (slots + 10) Q (F0 m (pc + 3) ls (.ref q :: rest))) : W p l e R s m args below meth c H locs cells slots Q (F0 m pc ls rest) := by
  obtain ⟨ws, hw, hP, hD⟩ := hT
  refine va_new (D := E.1) (ci := 8) (fs := [.int 0, .int 0, .int 0, .int 0, .int 0, .int 0, .int 0, .int 0, .int 0, .int 0]) (C := RX7) (T := TX7) (N := 10) S.1 S.2.1 S.2.2.2.2 (fun w h => List.mem_cons_of_mem _ (inX7 w h)) tyX7 tyX7_ok S.2.2.2.1 (S.2.2.2.2 _ (List.mem_cons_of_mem _ hl)) (S.2.2.2.2 _ (List.mem_cons_of_mem _ kinst7.1)) (S.2.2.2.2 _ (List.mem_cons_of_mem _ kinst7.2)) hK.1 hP hD hS (fun q h => Nat.le_trans hz h) rfl (fun j hj => ?_) hc hs hdg (fun q H1 hP1 hD1 hS1 => ?_)
  · match j, hj with
    | 0, _ => rfl
    | 1, _ => rfl
    | 2, _ => rfl
    | 3, _ => rfl
    | 4, _ => rfl
    | 5, _ => rfl
    | 6, _ => rfl
    | 7, _ => rfl
    | 8, _ => rfl
    | 9, _ => rfl
    | j + 10, hj => exact absurd hj (by omega)
  · obtain ⟨hq, hw1⟩ := hw.push hD1 (q := q) ⟨by rw [znew_0 G q (by decide), znew_0 G q (by decide), znew_0 G q (by decide), znew_0 G q (by decide), znew_0 G q (by decide), znew_0 G q (by decide), znew_0 G q (by decide), znew_0 G q (by decide), znew_0 G q (by decide), znew_0 G q (by decide)], Or.inl (znew_0 G q (by decide))⟩
    exact kk q (va_up K q 9) H1 (KM.up hq) hq (va_up_self _ _ _) ⟨_, hw1, hP1, hD1⟩ hS1
variable {y : MethodName} {bytes : ByteArray} {maxL n index mc ms : Nat} {rm : Room} {Qc : Array Value → State → Outcome → State → Prop} {b : Addr} {As : List Value} {P9 : State → Prop}
theorem x_runI (S : CallFix p m c cc nL s args (w0 :: GT) own) (hM : Met l y (xw y bytes maxL none) rm (va_Pc (.ref b :: As) P9) Qc mc ms (xA E)) (hc : (Cond.code y bytes maxL none ∈ GT ∧ Cond.instanceMethod y ∈ GT ∧ Cond.initialized y.cls ∈ GT) ∧ y.cls ≠ "java/lang/invoke/MethodHandle" ∧ y.cls ≠ "java/lang/invoke/VarHandle" ∧ (parseMethodDescriptor y.desc).map (fun d => d.parameters.length) = some n) (hi : y.name = "<init>") (hl : Cond.methodLink own index y ∈ GT) (hrc : rm.cells = mc) (hrs : rm.slots = ms) (hR : rm.frames + 1 ≤ R.frames ∧ 8 + (maxL + 11) + rm.locals ≤ R.locals)
    (hK : XK E s) (hbl : ∀ av : List Value, FrameBlind (va_Pc av P9)) (hp9 : ∀ U : State, U.heap = H → s.WarmedH U.vm → P9 U)
    (hn : As.length = n) (hsize : ls.size = nL) (hW : (rest.map fun v => v.category).sum ≤ 8) (hdg : decode cc pc = .ok (.invokespecial index, 3)) (hf : cells + mc ≤ R.cells ∧ slots + ms ≤ R.slots) :
    va_Run p l e R s m args below meth c H locs cells slots mc ms (F0 m pc ls (As.reverse ++ .ref b :: rest)) rest (Qc (Value.ref b :: As).toArray) (xA E) :=
  va_runI S hM ⟨x_callB S n hc.1.1 hc.1.2.2 hl hrc hrs hc.2 hR, hi, S.2.2.2.2 _ (List.mem_cons_of_mem _ hc.1.2.1)⟩ ⟨hbl _, fun U hU hW => ⟨rfl, hp9 U hU hW⟩⟩ rfl hn hsize rfl (lv_room hW) hdg hf
end XNR
theorem rd_ok {t : Int → Int} {n : Int} {S : RSt} {so p e v br : Int} (h : RdI t n S so p e v br) : (br = 0 ∧ so = 0) ↔ (S.1 = 1 ∧ n ≤ S.2) := by
  obtain ⟨a1, a2, a3, a4, a5⟩ := h
  constructor
  · rintro ⟨h1, h2⟩
    have s1 := a3.mp h1
    obtain ⟨b1, b2, b3, b4⟩ := a5 s1
    refine ⟨s1, ?_⟩
    rw [a2]
    apply Classical.byContradiction
    intro q
    by_cases hl : cLt (t p)
    · have := (b3 (by omega) hl).1
      omega
    · rcases (b4 (by omega) hl).2 with ⟨-, x, -⟩ | ⟨-, x⟩ <;> omega
  · rintro ⟨h1, h2⟩
    obtain ⟨b1, b2, b3, b4⟩ := a5 h1
    exact ⟨a3.mpr h1, b2 (by omega)⟩
end
theorem v_X5_read_19_1 {F : Nat → Nat → Nat} (G11 : XG) (a : Nat) (G : XG) (G7 : XG) (G14 : XG)
    (oq11 : ((G11.1 a 2).toInt) = rn cBl (tC (G.2.1 (F (F a 0) 0)) ((G.1 (F a 0) 1).toInt)) ((G7.1 a 3).toInt) ∧ TokI (tC (G.2.1 (F (F a 0) 0)) ((G.1 (F a 0) 1).toInt)) ((G.1 (F a 0) 1).toInt) ((G11.1 a 1).toInt) ((G11.1 a 2).toInt) ((G11.1 a 3).toInt) ((G11.1 a 4).toInt))
    (n0 : 0 ≤ ((G.1 (F a 0) 1).toInt) ∧ ((G.1 (F a 0) 1).toInt) ≤ 80)
    (t11 : (0 ≤ ((G11.1 a 2).toInt) ∧ ((G11.1 a 2).toInt) ≤ ((G.1 (F a 0) 1).toInt)) ∧ (0 ≤ ((G11.1 a 3).toInt) ∧ ((G11.1 a 3).toInt) ≤ ((G.1 (F a 0) 1).toInt)))
    (c_G14_F_F_a_0_0 : G14.2.1 (F (F a 0) 0) = G.2.1 (F (F a 0) 0))
    (d_G14_F_a_0_1 : G14.1 (F a 0) 1 = G.1 (F a 0) 1)
    (d_G14_a_1 : G14.1 a 1 = G11.1 a 1)
    (d_G14_a_2 : G14.1 a 2 = G11.1 a 2)
    (d_G14_a_3 : G14.1 a 3 = G11.1 a 3)
    (d_G14_a_4 : G14.1 a 4 = G11.1 a 4)
    (d_G14_a_5 : G14.1 a 5 = 0)
    (d_G7_a_3 : G7.1 a 3 = 0) :
    RdI (tC (G14.2.1 (F (F a 0) 0)) ((G14.1 (F a 0) 1).toInt)) ((G14.1 (F a 0) 1).toInt) (1, rn cBl (tC (G.2.1 (F (F a 0) 0)) ((G.1 (F a 0) 1).toInt)) 0) ((G14.1 a 1).toInt) ((G14.1 a 2).toInt) ((G14.1 a 3).toInt) ((G14.1 a 4).toInt) ((G14.1 a 5).toInt) := by
  (try rw [c_G14_F_F_a_0_0])
  (try rw [d_G14_F_a_0_1])
  (try rw [d_G14_a_1])
  (try rw [d_G14_a_2])
  (try rw [d_G14_a_3])
  (try rw [d_G14_a_4])
  (try rw [d_G14_a_5])
  exact rd_st (by rw [oq11.1, d_G7_a_3]; rfl) (by decide) (by omega) oq11.2
theorem v_X5_read_30_2 {F : Nat → Nat → Nat} (G : XG) (a : Nat) (G19 : XG) (G22 : XG)
    (oq19a : RdI (tC (G.2.1 (F (F a 0) 0)) ((G.1 (F a 0) 1).toInt)) ((G.1 (F a 0) 1).toInt) (tkK (tC (G.2.1 (F (F a 0) 0)) ((G.1 (F a 0) 1).toInt)) (1, rn cBl (tC (G.2.1 (F (F a 0) 0)) ((G.1 (F a 0) 1).toInt)) 0)).2 ((G19.1 a 1).toInt) ((G19.1 a 2).toInt) ((G19.1 a 3).toInt) ((G19.1 a 4).toInt) ((G19.1 a 5).toInt))
    (c_G22_F_F_a_0_0 : G22.2.1 (F (F a 0) 0) = G.2.1 (F (F a 0) 0))
    (d_G22_F_a_0_1 : G22.1 (F a 0) 1 = G.1 (F a 0) 1)
    (d_G22_a_1 : G22.1 a 1 = G19.1 a 1)
    (d_G22_a_2 : G22.1 a 2 = G19.1 a 2)
    (d_G22_a_3 : G22.1 a 3 = G19.1 a 3)
    (d_G22_a_4 : G22.1 a 4 = G19.1 a 4)
    (d_G22_a_5 : G22.1 a 5 = G19.1 a 5) :
    RdI (tC (G22.2.1 (F (F a 0) 0)) ((G22.1 (F a 0) 1).toInt)) ((G22.1 (F a 0) 1).toInt) ((rS1 (tC (G.2.1 (F (F a 0) 0)) ((G.1 (F a 0) 1).toInt))).2) ((G22.1 a 1).toInt) ((G22.1 a 2).toInt) ((G22.1 a 3).toInt) ((G22.1 a 4).toInt) ((G22.1 a 5).toInt) := by
  (try rw [c_G22_F_F_a_0_0])
  (try rw [d_G22_F_a_0_1])
  (try rw [d_G22_a_1])
  (try rw [d_G22_a_2])
  (try rw [d_G22_a_3])
  (try rw [d_G22_a_4])
  (try rw [d_G22_a_5])
  exact oq19a
theorem v_X5_read_40_3 {F : Nat → Nat → Nat} (G : XG) (a : Nat) (G30 : XG) (G33 : XG)
    (oq30a : RdI (tC (G.2.1 (F (F a 0) 0)) ((G.1 (F a 0) 1).toInt)) ((G.1 (F a 0) 1).toInt) (tkN (tC (G.2.1 (F (F a 0) 0)) ((G.1 (F a 0) 1).toInt)) (0 : Int) (2 : Int) ((rS1 (tC (G.2.1 (F (F a 0) 0)) ((G.1 (F a 0) 1).toInt))).2)).2 ((G30.1 a 1).toInt) ((G30.1 a 2).toInt) ((G30.1 a 3).toInt) ((G30.1 a 4).toInt) ((G30.1 a 5).toInt))
    (c_G33_F_F_a_0_0 : G33.2.1 (F (F a 0) 0) = G.2.1 (F (F a 0) 0))
    (d_G33_F_a_0_1 : G33.1 (F a 0) 1 = G.1 (F a 0) 1)
    (d_G33_a_1 : G33.1 a 1 = G30.1 a 1)
    (d_G33_a_2 : G33.1 a 2 = G30.1 a 2)
    (d_G33_a_3 : G33.1 a 3 = G30.1 a 3)
    (d_G33_a_4 : G33.1 a 4 = G30.1 a 4)
    (d_G33_a_5 : G33.1 a 5 = G30.1 a 5) :
    RdI (tC (G33.2.1 (F (F a 0) 0)) ((G33.1 (F a 0) 1).toInt)) ((G33.1 (F a 0) 1).toInt) ((rS2 (tC (G.2.1 (F (F a 0) 0)) ((G.1 (F a 0) 1).toInt))).2) ((G33.1 a 1).toInt) ((G33.1 a 2).toInt) ((G33.1 a 3).toInt) ((G33.1 a 4).toInt) ((G33.1 a 5).toInt) := by
  (try rw [c_G33_F_F_a_0_0])
  (try rw [d_G33_F_a_0_1])
  (try rw [d_G33_a_1])
  (try rw [d_G33_a_2])
  (try rw [d_G33_a_3])
  (try rw [d_G33_a_4])
  (try rw [d_G33_a_5])
  exact oq30a
theorem v_X5_read_153_4 {F : Nat → Nat → Nat} (G : XG) (a : Nat) (G_149 : XG) (G_133 : XG)
    (rd7 : RdI (tC (G.2.1 (F (F a 0) 0)) ((G.1 (F a 0) 1).toInt)) (G.1 (F a 0) 1).toInt (rS7 (tC (G.2.1 (F (F a 0) 0)) ((G.1 (F a 0) 1).toInt))).2 ((G_149.1 a 1).toInt) ((G_149.1 a 2).toInt) ((G_149.1 a 3).toInt) ((G_149.1 a 4).toInt) ((G_133.1 a 5).toInt))
    (c_G_149_F_F_a_0_0 : G_149.2.1 (F (F a 0) 0) = G.2.1 (F (F a 0) 0))
    (d_G_149_F_a_0_1 : G_149.1 (F a 0) 1 = G.1 (F a 0) 1)
    (d_G_149_a_5 : G_149.1 a 5 = G_133.1 a 5) :
    RdI (tC (G_149.2.1 (F (F a 0) 0)) ((G_149.1 (F a 0) 1).toInt)) ((G_149.1 (F a 0) 1).toInt) ((rS7 (tC (G.2.1 (F (F a 0) 0)) ((G.1 (F a 0) 1).toInt))).2) ((G_149.1 a 1).toInt) ((G_149.1 a 2).toInt) ((G_149.1 a 3).toInt) ((G_149.1 a 4).toInt) ((G_149.1 a 5).toInt) := by
  (try rw [c_G_149_F_F_a_0_0])
  (try rw [d_G_149_F_a_0_1])
  (try rw [d_G_149_a_1])
  (try rw [d_G_149_a_2])
  (try rw [d_G_149_a_3])
  (try rw [d_G_149_a_4])
  (try rw [d_G_149_a_5])
  exact rd7
theorem v_X5_read_163_5 {F : Nat → Nat → Nat} (G : XG) (a : Nat) (G153 : XG) (G156 : XG) (G_133 : XG)
    (oq153a : RdI (tC (G.2.1 (F (F a 0) 0)) ((G.1 (F a 0) 1).toInt)) ((G.1 (F a 0) 1).toInt) (tkW (tC (G.2.1 (F (F a 0) 0)) ((G.1 (F a 0) 1).toInt)) (kw 8) ((rS7 (tC (G.2.1 (F (F a 0) 0)) ((G.1 (F a 0) 1).toInt))).2)).2 ((G153.1 a 1).toInt) ((G153.1 a 2).toInt) ((G153.1 a 3).toInt) ((G153.1 a 4).toInt) ((G153.1 a 5).toInt))
    (c_G156_F_F_a_0_0 : G156.2.1 (F (F a 0) 0) = G.2.1 (F (F a 0) 0))
    (d_G153_a_5 : G153.1 a 5 = G_133.1 a 5)
    (d_G156_F_a_0_1 : G156.1 (F a 0) 1 = G.1 (F a 0) 1)
    (d_G156_a_1 : G156.1 a 1 = G153.1 a 1)
    (d_G156_a_2 : G156.1 a 2 = G153.1 a 2)
    (d_G156_a_3 : G156.1 a 3 = G153.1 a 3)
    (d_G156_a_4 : G156.1 a 4 = G153.1 a 4)
    (d_G156_a_5 : G156.1 a 5 = G_133.1 a 5) :
    RdI (tC (G156.2.1 (F (F a 0) 0)) ((G156.1 (F a 0) 1).toInt)) ((G156.1 (F a 0) 1).toInt) ((rS8 (tC (G.2.1 (F (F a 0) 0)) ((G.1 (F a 0) 1).toInt))).2) ((G156.1 a 1).toInt) ((G156.1 a 2).toInt) ((G156.1 a 3).toInt) ((G156.1 a 4).toInt) ((G156.1 a 5).toInt) := by
  (try rw [d_G153_a_5] at oq153a)
  (try rw [c_G156_F_F_a_0_0])
  (try rw [d_G156_F_a_0_1])
  (try rw [d_G156_a_1])
  (try rw [d_G156_a_2])
  (try rw [d_G156_a_3])
  (try rw [d_G156_a_4])
  (try rw [d_G156_a_5])
  exact oq153a
theorem v_X5_read_208_6 {F : Nat → Nat → Nat} (G : XG) (a : Nat) (G_181 : XG) (G181 : XG)
    (rd9 : RdI (tC (G.2.1 (F (F a 0) 0)) ((G.1 (F a 0) 1).toInt)) (G.1 (F a 0) 1).toInt (rS9 (tC (G.2.1 (F (F a 0) 0)) ((G.1 (F a 0) 1).toInt))).2 ((G_181.1 a 1).toInt) ((G_181.1 a 2).toInt) ((G_181.1 a 3).toInt) ((G_181.1 a 4).toInt) ((G_181.1 a 5).toInt))
    (d_G181_a_2 : G181.1 a 2 = G_181.1 a 2) :
    (G181.1 a 2).toInt = (rS9 (tC (G.2.1 (F (F a 0) 0)) ((G.1 (F a 0) 1).toInt))).2.2 := by
  (try rw [d_G181_a_2])
  (try rw [d_G193_a_2])
  exact rd9.2.1.symm
theorem v_X5_read_208_7 {F : Nat → Nat → Nat} (G : XG) (a : Nat) (G_181 : XG)
    (rd9 : RdI (tC (G.2.1 (F (F a 0) 0)) ((G.1 (F a 0) 1).toInt)) (G.1 (F a 0) 1).toInt (rS9 (tC (G.2.1 (F (F a 0) 0)) ((G.1 (F a 0) 1).toInt))).2 ((G_181.1 a 1).toInt) ((G_181.1 a 2).toInt) ((G_181.1 a 3).toInt) ((G_181.1 a 4).toInt) ((G_181.1 a 5).toInt))
    (c188 : ((G_181.1 a 1).toInt) = 0)
    (c200 : ((G_181.1 a 5).toInt) = 0) :
    rOk (tC (G.2.1 (F (F a 0) 0)) ((G.1 (F a 0) 1).toInt)) ((G.1 (F a 0) 1).toInt) := by
  exact (rd_ok rd9).mp ⟨by omega, by omega⟩
theorem v_X5_read_208_8 {F : Nat → Nat → Nat} (x19 : Int32) (G : XG) (a : Nat) (x30 : Int32) (x40 : Int32) (G_80 : XG) (q14 : Nat) (G_133 : XG) (G_149 : XG) (x153 : Int32) (k_181 : Int32) (G22 : XG) (G181 : XG)
    (oq19 : x19.toInt = (tkK (tC (G.2.1 (F (F a 0) 0)) ((G.1 (F a 0) 1).toInt)) (1, rn cBl (tC (G.2.1 (F (F a 0) 0)) ((G.1 (F a 0) 1).toInt)) 0)).1)
    (oq30 : x30.toInt = (tkN (tC (G.2.1 (F (F a 0) 0)) ((G.1 (F a 0) 1).toInt)) (0 : Int) (2 : Int) ((rS1 (tC (G.2.1 (F (F a 0) 0)) ((G.1 (F a 0) 1).toInt))).2)).1)
    (oq40 : x40.toInt = (tkN (tC (G.2.1 (F (F a 0) 0)) ((G.1 (F a 0) 1).toInt)) (0 : Int) (2 : Int) ((rS2 (tC (G.2.1 (F (F a 0) 0)) ((G.1 (F a 0) 1).toInt))).2)).1)
    (f4 : ((G_80.1 q14 4).toInt) = (rS4 (tC (G.2.1 (F (F a 0) 0)) ((G.1 (F a 0) 1).toInt))).1)
    (f5 : ((G_133.1 q14 5).toInt) = (rS5 (tC (G.2.1 (F (F a 0) 0)) ((G.1 (F a 0) 1).toInt))).1)
    (f6 : ((G_133.1 q14 6).toInt) = (rS6 (tC (G.2.1 (F (F a 0) 0)) ((G.1 (F a 0) 1).toInt))).1)
    (f7 : ((G_149.1 q14 7).toInt) = (rS7 (tC (G.2.1 (F (F a 0) 0)) ((G.1 (F a 0) 1).toInt))).1)
    (oq153 : x153.toInt = (tkW (tC (G.2.1 (F (F a 0) 0)) ((G.1 (F a 0) 1).toInt)) (kw 8) ((rS7 (tC (G.2.1 (F (F a 0) 0)) ((G.1 (F a 0) 1).toInt))).2)).1)
    (f9 : k_181.toInt = (rS9 (tC (G.2.1 (F (F a 0) 0)) ((G.1 (F a 0) 1).toInt))).1)
    (t19 : 0 ≤ x19.toInt ∧ x19.toInt ≤ 5)
    (t22 : ((G22.1 q14 0).toInt) = x19.toInt ∧ ((G22.1 q14 1).toInt) = -1 ∧ ((G22.1 q14 4).toInt) = -1 ∧ ((G22.1 q14 7).toInt) = 0)
    (d_G181_q14_0 : G181.1 q14 0 = G22.1 q14 0)
    (d_G181_q14_1 : G181.1 q14 1 = G22.1 q14 1)
    (d_G181_q14_2 : G181.1 q14 2 = x30)
    (d_G181_q14_3 : G181.1 q14 3 = x40)
    (d_G181_q14_4 : G181.1 q14 4 = G_80.1 q14 4)
    (d_G181_q14_5 : G181.1 q14 5 = G_133.1 q14 5)
    (d_G181_q14_6 : G181.1 q14 6 = G_133.1 q14 6)
    (d_G181_q14_7 : G181.1 q14 7 = G_149.1 q14 7)
    (d_G181_q14_8 : G181.1 q14 8 = k_181)
    (d_G181_q14_9 : G181.1 q14 9 = x153) :
    (G181.1 q14 1).toInt = -1 ∧ (G181.1 q14 0).toInt = (rS1 (tC (G.2.1 (F (F a 0) 0)) ((G.1 (F a 0) 1).toInt))).1 ∧ (G181.1 q14 2).toInt = (rS2 (tC (G.2.1 (F (F a 0) 0)) ((G.1 (F a 0) 1).toInt))).1 ∧ (G181.1 q14 3).toInt = (rS3 (tC (G.2.1 (F (F a 0) 0)) ((G.1 (F a 0) 1).toInt))).1 ∧ (G181.1 q14 4).toInt = (rS4 (tC (G.2.1 (F (F a 0) 0)) ((G.1 (F a 0) 1).toInt))).1 ∧ (G181.1 q14 5).toInt = (rS5 (tC (G.2.1 (F (F a 0) 0)) ((G.1 (F a 0) 1).toInt))).1 ∧ (G181.1 q14 6).toInt = (rS6 (tC (G.2.1 (F (F a 0) 0)) ((G.1 (F a 0) 1).toInt))).1 ∧ (G181.1 q14 7).toInt = (rS7 (tC (G.2.1 (F (F a 0) 0)) ((G.1 (F a 0) 1).toInt))).1 ∧ (G181.1 q14 9).toInt = (rS8 (tC (G.2.1 (F (F a 0) 0)) ((G.1 (F a 0) 1).toInt))).1 ∧ (G181.1 q14 8).toInt = (rS9 (tC (G.2.1 (F (F a 0) 0)) ((G.1 (F a 0) 1).toInt))).1 := by
  have k19 : (rS1 (tC (G.2.1 (F (F a 0) 0)) ((G.1 (F a 0) 1).toInt))).1 = (G22.1 q14 0).toInt := by have := oq19; show (tkK _ _).1 = _; rw [← this]; omega
  refine ⟨?_, ?_, ?_, ?_, ?_, ?_, ?_, ?_, ?_, ?_⟩
  · rw [d_G181_q14_1]; omega
  · rw [d_G181_q14_0, k19]
  · rw [d_G181_q14_2]; exact oq30
  · rw [d_G181_q14_3]; exact oq40
  · rw [d_G181_q14_4]; exact f4
  · rw [d_G181_q14_5]; exact f5
  · rw [d_G181_q14_6]; exact f6
  · rw [d_G181_q14_7]; exact f7
  · rw [d_G181_q14_9]; exact oq153
  · rw [d_G181_q14_8]; exact f9
theorem v_X5_read_208_9 {F : Nat → Nat → Nat} (G : XG) (a : Nat) (G_181 : XG) (G181 : XG)
    (rd9 : RdI (tC (G.2.1 (F (F a 0) 0)) ((G.1 (F a 0) 1).toInt)) (G.1 (F a 0) 1).toInt (rS9 (tC (G.2.1 (F (F a 0) 0)) ((G.1 (F a 0) 1).toInt))).2 ((G_181.1 a 1).toInt) ((G_181.1 a 2).toInt) ((G_181.1 a 3).toInt) ((G_181.1 a 4).toInt) ((G_181.1 a 5).toInt))
    (d_G181_a_2 : G181.1 a 2 = G_181.1 a 2) :
    (G181.1 a 2).toInt = (rS9 (tC (G.2.1 (F (F a 0) 0)) ((G.1 (F a 0) 1).toInt))).2.2 := by
  (try rw [d_G181_a_2])
  (try rw [d_G193_a_2])
  exact rd9.2.1.symm
theorem v_X5_read_208_10 {F : Nat → Nat → Nat} (G : XG) (a : Nat) (G_181 : XG)
    (rd9 : RdI (tC (G.2.1 (F (F a 0) 0)) ((G.1 (F a 0) 1).toInt)) (G.1 (F a 0) 1).toInt (rS9 (tC (G.2.1 (F (F a 0) 0)) ((G.1 (F a 0) 1).toInt))).2 ((G_181.1 a 1).toInt) ((G_181.1 a 2).toInt) ((G_181.1 a 3).toInt) ((G_181.1 a 4).toInt) ((G_181.1 a 5).toInt))
    (c188 : ((G_181.1 a 1).toInt) = 0)
    (c200 : ¬ (((G_181.1 a 5).toInt) = 0)) :
    ¬ rOk (tC (G.2.1 (F (F a 0) 0)) ((G.1 (F a 0) 1).toInt)) ((G.1 (F a 0) 1).toInt) := by
  intro h
  have := (rd_ok rd9).mpr h
  omega
theorem v_X5_read_208_11 {F : Nat → Nat → Nat} (G : XG) (a : Nat) (G_181 : XG) (G193 : XG)
    (rd9 : RdI (tC (G.2.1 (F (F a 0) 0)) ((G.1 (F a 0) 1).toInt)) (G.1 (F a 0) 1).toInt (rS9 (tC (G.2.1 (F (F a 0) 0)) ((G.1 (F a 0) 1).toInt))).2 ((G_181.1 a 1).toInt) ((G_181.1 a 2).toInt) ((G_181.1 a 3).toInt) ((G_181.1 a 4).toInt) ((G_181.1 a 5).toInt))
    (d_G193_a_2 : G193.1 a 2 = G_181.1 a 2) :
    (G193.1 a 2).toInt = (rS9 (tC (G.2.1 (F (F a 0) 0)) ((G.1 (F a 0) 1).toInt))).2.2 := by
  (try rw [d_G181_a_2])
  (try rw [d_G193_a_2])
  exact rd9.2.1.symm
theorem v_X5_read_208_12 {F : Nat → Nat → Nat} (G : XG) (a : Nat) (G_181 : XG)
    (rd9 : RdI (tC (G.2.1 (F (F a 0) 0)) ((G.1 (F a 0) 1).toInt)) (G.1 (F a 0) 1).toInt (rS9 (tC (G.2.1 (F (F a 0) 0)) ((G.1 (F a 0) 1).toInt))).2 ((G_181.1 a 1).toInt) ((G_181.1 a 2).toInt) ((G_181.1 a 3).toInt) ((G_181.1 a 4).toInt) ((G_181.1 a 5).toInt))
    (c188 : ¬ (((G_181.1 a 1).toInt) = 0)) :
    ¬ rOk (tC (G.2.1 (F (F a 0) 0)) ((G.1 (F a 0) 1).toInt)) ((G.1 (F a 0) 1).toInt) := by
  intro h
  have := (rd_ok rd9).mpr h
  omega
theorem v_X5_read_179_13 {F : Nat → Nat → Nat} (x163 : Int32) (G : XG) (a : Nat) (G163 : XG) (G_133 : XG)
    (oq163 : x163.toInt = (tkW (tC (G.2.1 (F (F a 0) 0)) ((G.1 (F a 0) 1).toInt)) (kw 9) ((rS8 (tC (G.2.1 (F (F a 0) 0)) ((G.1 (F a 0) 1).toInt))).2)).1)
    (oq163a : RdI (tC (G.2.1 (F (F a 0) 0)) ((G.1 (F a 0) 1).toInt)) ((G.1 (F a 0) 1).toInt) (tkW (tC (G.2.1 (F (F a 0) 0)) ((G.1 (F a 0) 1).toInt)) (kw 9) ((rS8 (tC (G.2.1 (F (F a 0) 0)) ((G.1 (F a 0) 1).toInt))).2)).2 ((G163.1 a 1).toInt) ((G163.1 a 2).toInt) ((G163.1 a 3).toInt) ((G163.1 a 4).toInt) ((G163.1 a 5).toInt))
    (t163 : 0 ≤ x163.toInt ∧ x163.toInt ≤ 1)
    (c166 : x163.toInt = 0)
    (d_G163_a_5 : G163.1 a 5 = G_133.1 a 5) :
    RdI (tC (G.2.1 (F (F a 0) 0)) ((G.1 (F a 0) 1).toInt)) (G.1 (F a 0) 1).toInt (rS9 (tC (G.2.1 (F (F a 0) 0)) ((G.1 (F a 0) 1).toInt))).2 ((G163.1 a 1).toInt) ((G163.1 a 2).toInt) ((G163.1 a 3).toInt) ((G163.1 a 4).toInt) ((G_133.1 a 5).toInt) := by
  have e9 : rS9 (tC (G.2.1 (F (F a 0) 0)) ((G.1 (F a 0) 1).toInt)) = (50, (tkW (tC (G.2.1 (F (F a 0) 0)) ((G.1 (F a 0) 1).toInt)) (kw 9) (rS8 (tC (G.2.1 (F (F a 0) 0)) ((G.1 (F a 0) 1).toInt))).2).2) := if_neg (by rw [← oq163]; omega)
  rw [e9]
  (try rw [d_G163_a_5] at oq163a)
  exact oq163a
theorem v_X5_read_179_14 {F : Nat → Nat → Nat} (x163 : Int32) (G : XG) (a : Nat)
    (oq163 : x163.toInt = (tkW (tC (G.2.1 (F (F a 0) 0)) ((G.1 (F a 0) 1).toInt)) (kw 9) ((rS8 (tC (G.2.1 (F (F a 0) 0)) ((G.1 (F a 0) 1).toInt))).2)).1)
    (t163 : 0 ≤ x163.toInt ∧ x163.toInt ≤ 1)
    (c166 : x163.toInt = 0) :
    (50 : Int) = (rS9 (tC (G.2.1 (F (F a 0) 0)) ((G.1 (F a 0) 1).toInt))).1 := by
  have e9 : rS9 (tC (G.2.1 (F (F a 0) 0)) ((G.1 (F a 0) 1).toInt)) = (50, (tkW (tC (G.2.1 (F (F a 0) 0)) ((G.1 (F a 0) 1).toInt)) (kw 9) (rS8 (tC (G.2.1 (F (F a 0) 0)) ((G.1 (F a 0) 1).toInt))).2).2) := if_neg (by rw [← oq163]; omega)
  rw [e9]
theorem v_X5_read_173_15 {F : Nat → Nat → Nat} (G : XG) (a : Nat) (G163 : XG) (G_133 : XG)
    (oq163a : RdI (tC (G.2.1 (F (F a 0) 0)) ((G.1 (F a 0) 1).toInt)) ((G.1 (F a 0) 1).toInt) (tkW (tC (G.2.1 (F (F a 0) 0)) ((G.1 (F a 0) 1).toInt)) (kw 9) ((rS8 (tC (G.2.1 (F (F a 0) 0)) ((G.1 (F a 0) 1).toInt))).2)).2 ((G163.1 a 1).toInt) ((G163.1 a 2).toInt) ((G163.1 a 3).toInt) ((G163.1 a 4).toInt) ((G163.1 a 5).toInt))
    (c_G163_F_F_a_0_0 : G163.2.1 (F (F a 0) 0) = G.2.1 (F (F a 0) 0))
    (d_G163_F_a_0_1 : G163.1 (F a 0) 1 = G.1 (F a 0) 1)
    (d_G163_a_5 : G163.1 a 5 = G_133.1 a 5) :
    RdI (tC (G163.2.1 (F (F a 0) 0)) ((G163.1 (F a 0) 1).toInt)) ((G163.1 (F a 0) 1).toInt) ((tkW (tC (G.2.1 (F (F a 0) 0)) ((G.1 (F a 0) 1).toInt)) (kw 9) (rS8 (tC (G.2.1 (F (F a 0) 0)) ((G.1 (F a 0) 1).toInt))).2).2) ((G163.1 a 1).toInt) ((G163.1 a 2).toInt) ((G163.1 a 3).toInt) ((G163.1 a 4).toInt) ((G163.1 a 5).toInt) := by
  (try rw [d_G163_a_5] at oq163a)
  (try rw [c_G163_F_F_a_0_0])
  (try rw [d_G163_F_a_0_1])
  (try rw [d_G163_a_1])
  (try rw [d_G163_a_2])
  (try rw [d_G163_a_3])
  (try rw [d_G163_a_4])
  (try rw [d_G163_a_5])
  exact oq163a
theorem v_X5_read_176_16 {F : Nat → Nat → Nat} (x163 : Int32) (G : XG) (a : Nat) (G173 : XG)
    (oq163 : x163.toInt = (tkW (tC (G.2.1 (F (F a 0) 0)) ((G.1 (F a 0) 1).toInt)) (kw 9) ((rS8 (tC (G.2.1 (F (F a 0) 0)) ((G.1 (F a 0) 1).toInt))).2)).1)
    (oq173a : RdI (tC (G.2.1 (F (F a 0) 0)) ((G.1 (F a 0) 1).toInt)) ((G.1 (F a 0) 1).toInt) (tkN (tC (G.2.1 (F (F a 0) 0)) ((G.1 (F a 0) 1).toInt)) (0 : Int) (99 : Int) ((tkW (tC (G.2.1 (F (F a 0) 0)) ((G.1 (F a 0) 1).toInt)) (kw 9) (rS8 (tC (G.2.1 (F (F a 0) 0)) ((G.1 (F a 0) 1).toInt))).2).2)).2 ((G173.1 a 1).toInt) ((G173.1 a 2).toInt) ((G173.1 a 3).toInt) ((G173.1 a 4).toInt) ((G173.1 a 5).toInt))
    (t163 : 0 ≤ x163.toInt ∧ x163.toInt ≤ 1)
    (c166 : ¬ (x163.toInt = 0)) :
    RdI (tC (G.2.1 (F (F a 0) 0)) ((G.1 (F a 0) 1).toInt)) (G.1 (F a 0) 1).toInt (rS9 (tC (G.2.1 (F (F a 0) 0)) ((G.1 (F a 0) 1).toInt))).2 ((G173.1 a 1).toInt) ((G173.1 a 2).toInt) ((G173.1 a 3).toInt) ((G173.1 a 4).toInt) ((G173.1 a 5).toInt) := by
  have e9 : rS9 (tC (G.2.1 (F (F a 0) 0)) ((G.1 (F a 0) 1).toInt)) = tkN (tC (G.2.1 (F (F a 0) 0)) ((G.1 (F a 0) 1).toInt)) 0 99 (tkW (tC (G.2.1 (F (F a 0) 0)) ((G.1 (F a 0) 1).toInt)) (kw 9) (rS8 (tC (G.2.1 (F (F a 0) 0)) ((G.1 (F a 0) 1).toInt))).2).2 := if_pos (by rw [← oq163]; omega)
  rw [e9]
  exact oq173a
theorem v_X5_read_176_17 {F : Nat → Nat → Nat} (x163 : Int32) (G : XG) (a : Nat) (x173 : Int32)
    (oq163 : x163.toInt = (tkW (tC (G.2.1 (F (F a 0) 0)) ((G.1 (F a 0) 1).toInt)) (kw 9) ((rS8 (tC (G.2.1 (F (F a 0) 0)) ((G.1 (F a 0) 1).toInt))).2)).1)
    (oq173 : x173.toInt = (tkN (tC (G.2.1 (F (F a 0) 0)) ((G.1 (F a 0) 1).toInt)) (0 : Int) (99 : Int) ((tkW (tC (G.2.1 (F (F a 0) 0)) ((G.1 (F a 0) 1).toInt)) (kw 9) (rS8 (tC (G.2.1 (F (F a 0) 0)) ((G.1 (F a 0) 1).toInt))).2).2)).1)
    (t163 : 0 ≤ x163.toInt ∧ x163.toInt ≤ 1)
    (c166 : ¬ (x163.toInt = 0)) :
    x173.toInt = (rS9 (tC (G.2.1 (F (F a 0) 0)) ((G.1 (F a 0) 1).toInt))).1 := by
  have e9 : rS9 (tC (G.2.1 (F (F a 0) 0)) ((G.1 (F a 0) 1).toInt)) = tkN (tC (G.2.1 (F (F a 0) 0)) ((G.1 (F a 0) 1).toInt)) 0 99 (tkW (tC (G.2.1 (F (F a 0) 0)) ((G.1 (F a 0) 1).toInt)) (kw 9) (rS8 (tC (G.2.1 (F (F a 0) 0)) ((G.1 (F a 0) 1).toInt))).2).2 := if_pos (by rw [← oq163]; omega)
  rw [e9]
  exact oq173
theorem v_X5_read_138_18 {F : Nat → Nat → Nat} (x19 : Int32) (G : XG) (a : Nat) (G_133 : XG) (G22 : XG) (q14 : Nat)
    (oq19 : x19.toInt = (tkK (tC (G.2.1 (F (F a 0) 0)) ((G.1 (F a 0) 1).toInt)) (1, rn cBl (tC (G.2.1 (F (F a 0) 0)) ((G.1 (F a 0) 1).toInt)) 0)).1)
    (rd6 : RdI (tC (G.2.1 (F (F a 0) 0)) ((G.1 (F a 0) 1).toInt)) (G.1 (F a 0) 1).toInt (rS6 (tC (G.2.1 (F (F a 0) 0)) ((G.1 (F a 0) 1).toInt))).2 ((G_133.1 a 1).toInt) ((G_133.1 a 2).toInt) ((G_133.1 a 3).toInt) ((G_133.1 a 4).toInt) ((G_133.1 a 5).toInt))
    (t19 : 0 ≤ x19.toInt ∧ x19.toInt ≤ 5)
    (t22 : ((G22.1 q14 0).toInt) = x19.toInt ∧ ((G22.1 q14 1).toInt) = -1 ∧ ((G22.1 q14 4).toInt) = -1 ∧ ((G22.1 q14 7).toInt) = 0)
    (c138 : ((G22.1 q14 0).toInt) ≠ (1 : Int)) :
    RdI (tC (G.2.1 (F (F a 0) 0)) ((G.1 (F a 0) 1).toInt)) (G.1 (F a 0) 1).toInt (rS7 (tC (G.2.1 (F (F a 0) 0)) ((G.1 (F a 0) 1).toInt))).2 ((G_133.1 a 1).toInt) ((G_133.1 a 2).toInt) ((G_133.1 a 3).toInt) ((G_133.1 a 4).toInt) ((G_133.1 a 5).toInt) := by
  have k19 : (rS1 (tC (G.2.1 (F (F a 0) 0)) ((G.1 (F a 0) 1).toInt))).1 = (G22.1 q14 0).toInt := by have := oq19; show (tkK _ _).1 = _; rw [← this]; omega
  have e7 : rS7 (tC (G.2.1 (F (F a 0) 0)) ((G.1 (F a 0) 1).toInt)) = (0, (rS6 (tC (G.2.1 (F (F a 0) 0)) ((G.1 (F a 0) 1).toInt))).2) := if_neg (by rw [k19]; omega)
  rw [e7]
  exact rd6
theorem v_X5_read_138_19 {F : Nat → Nat → Nat} (x19 : Int32) (G : XG) (a : Nat) (G22 : XG) (q14 : Nat)
    (oq19 : x19.toInt = (tkK (tC (G.2.1 (F (F a 0) 0)) ((G.1 (F a 0) 1).toInt)) (1, rn cBl (tC (G.2.1 (F (F a 0) 0)) ((G.1 (F a 0) 1).toInt)) 0)).1)
    (t19 : 0 ≤ x19.toInt ∧ x19.toInt ≤ 5)
    (t22 : ((G22.1 q14 0).toInt) = x19.toInt ∧ ((G22.1 q14 1).toInt) = -1 ∧ ((G22.1 q14 4).toInt) = -1 ∧ ((G22.1 q14 7).toInt) = 0)
    (c138 : ((G22.1 q14 0).toInt) ≠ (1 : Int)) :
    ((G22.1 q14 7).toInt) = (rS7 (tC (G.2.1 (F (F a 0) 0)) ((G.1 (F a 0) 1).toInt))).1 := by
  have k19 : (rS1 (tC (G.2.1 (F (F a 0) 0)) ((G.1 (F a 0) 1).toInt))).1 = (G22.1 q14 0).toInt := by have := oq19; show (tkK _ _).1 = _; rw [← this]; omega
  have e7 : rS7 (tC (G.2.1 (F (F a 0) 0)) ((G.1 (F a 0) 1).toInt)) = (0, (rS6 (tC (G.2.1 (F (F a 0) 0)) ((G.1 (F a 0) 1).toInt))).2) := if_neg (by rw [k19]; omega)
  rw [e7]
  show _ = (0 : Int)
  omega
theorem v_X5_read_143_20 {F : Nat → Nat → Nat} (G : XG) (a : Nat) (G_133 : XG)
    (rd6 : RdI (tC (G.2.1 (F (F a 0) 0)) ((G.1 (F a 0) 1).toInt)) (G.1 (F a 0) 1).toInt (rS6 (tC (G.2.1 (F (F a 0) 0)) ((G.1 (F a 0) 1).toInt))).2 ((G_133.1 a 1).toInt) ((G_133.1 a 2).toInt) ((G_133.1 a 3).toInt) ((G_133.1 a 4).toInt) ((G_133.1 a 5).toInt))
    (c_G_133_F_F_a_0_0 : G_133.2.1 (F (F a 0) 0) = G.2.1 (F (F a 0) 0))
    (d_G_133_F_a_0_1 : G_133.1 (F a 0) 1 = G.1 (F a 0) 1) :
    RdI (tC (G_133.2.1 (F (F a 0) 0)) ((G_133.1 (F a 0) 1).toInt)) ((G_133.1 (F a 0) 1).toInt) ((rS6 (tC (G.2.1 (F (F a 0) 0)) ((G.1 (F a 0) 1).toInt))).2) ((G_133.1 a 1).toInt) ((G_133.1 a 2).toInt) ((G_133.1 a 3).toInt) ((G_133.1 a 4).toInt) ((G_133.1 a 5).toInt) := by
  (try rw [c_G_133_F_F_a_0_0])
  (try rw [d_G_133_F_a_0_1])
  (try rw [d_G_133_a_1])
  (try rw [d_G_133_a_2])
  (try rw [d_G_133_a_3])
  (try rw [d_G_133_a_4])
  (try rw [d_G_133_a_5])
  exact rd6
theorem v_X5_read_146_21 {F : Nat → Nat → Nat} (x19 : Int32) (G : XG) (a : Nat) (G143 : XG) (G22 : XG) (q14 : Nat) (G_133 : XG)
    (oq19 : x19.toInt = (tkK (tC (G.2.1 (F (F a 0) 0)) ((G.1 (F a 0) 1).toInt)) (1, rn cBl (tC (G.2.1 (F (F a 0) 0)) ((G.1 (F a 0) 1).toInt)) 0)).1)
    (oq143a : RdI (tC (G.2.1 (F (F a 0) 0)) ((G.1 (F a 0) 1).toInt)) ((G.1 (F a 0) 1).toInt) (tkA (tC (G.2.1 (F (F a 0) 0)) ((G.1 (F a 0) 1).toInt)) ((rS6 (tC (G.2.1 (F (F a 0) 0)) ((G.1 (F a 0) 1).toInt))).2)).2 ((G143.1 a 1).toInt) ((G143.1 a 2).toInt) ((G143.1 a 3).toInt) ((G143.1 a 4).toInt) ((G143.1 a 5).toInt))
    (t19 : 0 ≤ x19.toInt ∧ x19.toInt ≤ 5)
    (t22 : ((G22.1 q14 0).toInt) = x19.toInt ∧ ((G22.1 q14 1).toInt) = -1 ∧ ((G22.1 q14 4).toInt) = -1 ∧ ((G22.1 q14 7).toInt) = 0)
    (c138 : ¬ (((G22.1 q14 0).toInt) ≠ (1 : Int)))
    (d_G143_a_5 : G143.1 a 5 = G_133.1 a 5) :
    RdI (tC (G.2.1 (F (F a 0) 0)) ((G.1 (F a 0) 1).toInt)) (G.1 (F a 0) 1).toInt (rS7 (tC (G.2.1 (F (F a 0) 0)) ((G.1 (F a 0) 1).toInt))).2 ((G143.1 a 1).toInt) ((G143.1 a 2).toInt) ((G143.1 a 3).toInt) ((G143.1 a 4).toInt) ((G_133.1 a 5).toInt) := by
  have k19 : (rS1 (tC (G.2.1 (F (F a 0) 0)) ((G.1 (F a 0) 1).toInt))).1 = (G22.1 q14 0).toInt := by have := oq19; show (tkK _ _).1 = _; rw [← this]; omega
  have e7 : rS7 (tC (G.2.1 (F (F a 0) 0)) ((G.1 (F a 0) 1).toInt)) = tkA (tC (G.2.1 (F (F a 0) 0)) ((G.1 (F a 0) 1).toInt)) (rS6 (tC (G.2.1 (F (F a 0) 0)) ((G.1 (F a 0) 1).toInt))).2 := if_pos (by rw [k19]; omega)
  rw [e7]
  (try rw [d_G143_a_5] at oq143a)
  exact oq143a
theorem v_X5_read_146_22 {F : Nat → Nat → Nat} (x19 : Int32) (G : XG) (a : Nat) (x143 : Int32) (G22 : XG) (q14 : Nat)
    (oq19 : x19.toInt = (tkK (tC (G.2.1 (F (F a 0) 0)) ((G.1 (F a 0) 1).toInt)) (1, rn cBl (tC (G.2.1 (F (F a 0) 0)) ((G.1 (F a 0) 1).toInt)) 0)).1)
    (oq143 : x143.toInt = (tkA (tC (G.2.1 (F (F a 0) 0)) ((G.1 (F a 0) 1).toInt)) ((rS6 (tC (G.2.1 (F (F a 0) 0)) ((G.1 (F a 0) 1).toInt))).2)).1)
    (t19 : 0 ≤ x19.toInt ∧ x19.toInt ≤ 5)
    (t22 : ((G22.1 q14 0).toInt) = x19.toInt ∧ ((G22.1 q14 1).toInt) = -1 ∧ ((G22.1 q14 4).toInt) = -1 ∧ ((G22.1 q14 7).toInt) = 0)
    (c138 : ¬ (((G22.1 q14 0).toInt) ≠ (1 : Int))) :
    x143.toInt = (rS7 (tC (G.2.1 (F (F a 0) 0)) ((G.1 (F a 0) 1).toInt))).1 := by
  have k19 : (rS1 (tC (G.2.1 (F (F a 0) 0)) ((G.1 (F a 0) 1).toInt))).1 = (G22.1 q14 0).toInt := by have := oq19; show (tkK _ _).1 = _; rw [← this]; omega
  have e7 : rS7 (tC (G.2.1 (F (F a 0) 0)) ((G.1 (F a 0) 1).toInt)) = tkA (tC (G.2.1 (F (F a 0) 0)) ((G.1 (F a 0) 1).toInt)) (rS6 (tC (G.2.1 (F (F a 0) 0)) ((G.1 (F a 0) 1).toInt))).2 := if_pos (by rw [k19]; omega)
  rw [e7]
  exact oq143
theorem v_X5_read_112_23 {F : Nat → Nat → Nat} (G : XG) (a : Nat) (G_80 : XG)
    (rd4 : RdI (tC (G.2.1 (F (F a 0) 0)) ((G.1 (F a 0) 1).toInt)) (G.1 (F a 0) 1).toInt (rS4 (tC (G.2.1 (F (F a 0) 0)) ((G.1 (F a 0) 1).toInt))).2 ((G_80.1 a 1).toInt) ((G_80.1 a 2).toInt) ((G_80.1 a 3).toInt) ((G_80.1 a 4).toInt) ((G_80.1 a 5).toInt))
    (c_G_80_F_F_a_0_0 : G_80.2.1 (F (F a 0) 0) = G.2.1 (F (F a 0) 0))
    (d_G_80_F_a_0_1 : G_80.1 (F a 0) 1 = G.1 (F a 0) 1) :
    RdI (tC (G_80.2.1 (F (F a 0) 0)) ((G_80.1 (F a 0) 1).toInt)) ((G_80.1 (F a 0) 1).toInt) ((rS4 (tC (G.2.1 (F (F a 0) 0)) ((G.1 (F a 0) 1).toInt))).2) ((G_80.1 a 1).toInt) ((G_80.1 a 2).toInt) ((G_80.1 a 3).toInt) ((G_80.1 a 4).toInt) ((G_80.1 a 5).toInt) := by
  (try rw [c_G_80_F_F_a_0_0])
  (try rw [d_G_80_F_a_0_1])
  (try rw [d_G_80_a_1])
  (try rw [d_G_80_a_2])
  (try rw [d_G_80_a_3])
  (try rw [d_G_80_a_4])
  (try rw [d_G_80_a_5])
  exact rd4
theorem v_X5_read_127_24 {F : Nat → Nat → Nat} (x19 : Int32) (G : XG) (a : Nat) (G112 : XG) (G22 : XG) (q14 : Nat) (G115 : XG)
    (oq19 : x19.toInt = (tkK (tC (G.2.1 (F (F a 0) 0)) ((G.1 (F a 0) 1).toInt)) (1, rn cBl (tC (G.2.1 (F (F a 0) 0)) ((G.1 (F a 0) 1).toInt)) 0)).1)
    (oq112a : RdI (tC (G.2.1 (F (F a 0) 0)) ((G.1 (F a 0) 1).toInt)) ((G.1 (F a 0) 1).toInt) (tkN (tC (G.2.1 (F (F a 0) 0)) ((G.1 (F a 0) 1).toInt)) (-9999 : Int) (9999 : Int) ((rS4 (tC (G.2.1 (F (F a 0) 0)) ((G.1 (F a 0) 1).toInt))).2)).2 ((G112.1 a 1).toInt) ((G112.1 a 2).toInt) ((G112.1 a 3).toInt) ((G112.1 a 4).toInt) ((G112.1 a 5).toInt))
    (t19 : 0 ≤ x19.toInt ∧ x19.toInt ≤ 5)
    (t22 : ((G22.1 q14 0).toInt) = x19.toInt ∧ ((G22.1 q14 1).toInt) = -1 ∧ ((G22.1 q14 4).toInt) = -1 ∧ ((G22.1 q14 7).toInt) = 0)
    (I104_0 : ((G22.1 q14 0).toInt) = 2 ∨ ((G22.1 q14 0).toInt) = 3 ∨ ((G22.1 q14 0).toInt) = 4)
    (c_G115_F_F_a_0_0 : G115.2.1 (F (F a 0) 0) = G.2.1 (F (F a 0) 0))
    (d_G115_F_a_0_1 : G115.1 (F a 0) 1 = G.1 (F a 0) 1)
    (d_G115_a_1 : G115.1 a 1 = G112.1 a 1)
    (d_G115_a_2 : G115.1 a 2 = G112.1 a 2)
    (d_G115_a_3 : G115.1 a 3 = G112.1 a 3)
    (d_G115_a_4 : G115.1 a 4 = G112.1 a 4)
    (d_G115_a_5 : G115.1 a 5 = G112.1 a 5) :
    RdI (tC (G115.2.1 (F (F a 0) 0)) ((G115.1 (F a 0) 1).toInt)) ((G115.1 (F a 0) 1).toInt) ((rS5 (tC (G.2.1 (F (F a 0) 0)) ((G.1 (F a 0) 1).toInt))).2) ((G115.1 a 1).toInt) ((G115.1 a 2).toInt) ((G115.1 a 3).toInt) ((G115.1 a 4).toInt) ((G115.1 a 5).toInt) := by
  have k19 : (rS1 (tC (G.2.1 (F (F a 0) 0)) ((G.1 (F a 0) 1).toInt))).1 = (G22.1 q14 0).toInt := by have := oq19; show (tkK _ _).1 = _; rw [← this]; omega
  have e5 : rS5 (tC (G.2.1 (F (F a 0) 0)) ((G.1 (F a 0) 1).toInt)) = tkN (tC (G.2.1 (F (F a 0) 0)) ((G.1 (F a 0) 1).toInt)) (-9999) 9999 (rS4 (tC (G.2.1 (F (F a 0) 0)) ((G.1 (F a 0) 1).toInt))).2 := if_pos (by rw [k19]; omega)
  (try rw [c_G115_F_F_a_0_0])
  (try rw [d_G115_F_a_0_1])
  (try rw [d_G115_a_1])
  (try rw [d_G115_a_2])
  (try rw [d_G115_a_3])
  (try rw [d_G115_a_4])
  (try rw [d_G115_a_5])
  rw [e5]
  exact oq112a
theorem v_X5_read_130_25 {F : Nat → Nat → Nat} (x19 : Int32) (G : XG) (a : Nat) (x112 : Int32) (G127 : XG) (G22 : XG) (q14 : Nat)
    (oq19 : x19.toInt = (tkK (tC (G.2.1 (F (F a 0) 0)) ((G.1 (F a 0) 1).toInt)) (1, rn cBl (tC (G.2.1 (F (F a 0) 0)) ((G.1 (F a 0) 1).toInt)) 0)).1)
    (oq112 : x112.toInt = (tkN (tC (G.2.1 (F (F a 0) 0)) ((G.1 (F a 0) 1).toInt)) (-9999 : Int) (9999 : Int) ((rS4 (tC (G.2.1 (F (F a 0) 0)) ((G.1 (F a 0) 1).toInt))).2)).1)
    (oq127a : RdI (tC (G.2.1 (F (F a 0) 0)) ((G.1 (F a 0) 1).toInt)) ((G.1 (F a 0) 1).toInt) (tkN (tC (G.2.1 (F (F a 0) 0)) ((G.1 (F a 0) 1).toInt)) x112.toInt (9999 : Int) ((rS5 (tC (G.2.1 (F (F a 0) 0)) ((G.1 (F a 0) 1).toInt))).2)).2 ((G127.1 a 1).toInt) ((G127.1 a 2).toInt) ((G127.1 a 3).toInt) ((G127.1 a 4).toInt) ((G127.1 a 5).toInt))
    (t19 : 0 ≤ x19.toInt ∧ x19.toInt ≤ 5)
    (t22 : ((G22.1 q14 0).toInt) = x19.toInt ∧ ((G22.1 q14 1).toInt) = -1 ∧ ((G22.1 q14 4).toInt) = -1 ∧ ((G22.1 q14 7).toInt) = 0)
    (I104_0 : ((G22.1 q14 0).toInt) = 2 ∨ ((G22.1 q14 0).toInt) = 3 ∨ ((G22.1 q14 0).toInt) = 4) :
    RdI (tC (G.2.1 (F (F a 0) 0)) ((G.1 (F a 0) 1).toInt)) (G.1 (F a 0) 1).toInt (rS6 (tC (G.2.1 (F (F a 0) 0)) ((G.1 (F a 0) 1).toInt))).2 ((G127.1 a 1).toInt) ((G127.1 a 2).toInt) ((G127.1 a 3).toInt) ((G127.1 a 4).toInt) ((G127.1 a 5).toInt) := by
  have k19 : (rS1 (tC (G.2.1 (F (F a 0) 0)) ((G.1 (F a 0) 1).toInt))).1 = (G22.1 q14 0).toInt := by have := oq19; show (tkK _ _).1 = _; rw [← this]; omega
  have e5 : rS5 (tC (G.2.1 (F (F a 0) 0)) ((G.1 (F a 0) 1).toInt)) = tkN (tC (G.2.1 (F (F a 0) 0)) ((G.1 (F a 0) 1).toInt)) (-9999) 9999 (rS4 (tC (G.2.1 (F (F a 0) 0)) ((G.1 (F a 0) 1).toInt))).2 := if_pos (by rw [k19]; omega)
  have e6 : rS6 (tC (G.2.1 (F (F a 0) 0)) ((G.1 (F a 0) 1).toInt)) = tkN (tC (G.2.1 (F (F a 0) 0)) ((G.1 (F a 0) 1).toInt)) (rS5 (tC (G.2.1 (F (F a 0) 0)) ((G.1 (F a 0) 1).toInt))).1 9999 (rS5 (tC (G.2.1 (F (F a 0) 0)) ((G.1 (F a 0) 1).toInt))).2 := if_pos (by rw [k19]; omega)
  rw [e6]
  rw [show x112.toInt = (rS5 (tC (G.2.1 (F (F a 0) 0)) ((G.1 (F a 0) 1).toInt))).1 from by rw [e5]; exact oq112] at oq127a
  exact oq127a
theorem v_X5_read_130_26 {F : Nat → Nat → Nat} (x19 : Int32) (G : XG) (a : Nat) (x112 : Int32) (G22 : XG) (q14 : Nat)
    (oq19 : x19.toInt = (tkK (tC (G.2.1 (F (F a 0) 0)) ((G.1 (F a 0) 1).toInt)) (1, rn cBl (tC (G.2.1 (F (F a 0) 0)) ((G.1 (F a 0) 1).toInt)) 0)).1)
    (oq112 : x112.toInt = (tkN (tC (G.2.1 (F (F a 0) 0)) ((G.1 (F a 0) 1).toInt)) (-9999 : Int) (9999 : Int) ((rS4 (tC (G.2.1 (F (F a 0) 0)) ((G.1 (F a 0) 1).toInt))).2)).1)
    (t19 : 0 ≤ x19.toInt ∧ x19.toInt ≤ 5)
    (t22 : ((G22.1 q14 0).toInt) = x19.toInt ∧ ((G22.1 q14 1).toInt) = -1 ∧ ((G22.1 q14 4).toInt) = -1 ∧ ((G22.1 q14 7).toInt) = 0)
    (I104_0 : ((G22.1 q14 0).toInt) = 2 ∨ ((G22.1 q14 0).toInt) = 3 ∨ ((G22.1 q14 0).toInt) = 4) :
    x112.toInt = (rS5 (tC (G.2.1 (F (F a 0) 0)) ((G.1 (F a 0) 1).toInt))).1 := by
  have k19 : (rS1 (tC (G.2.1 (F (F a 0) 0)) ((G.1 (F a 0) 1).toInt))).1 = (G22.1 q14 0).toInt := by have := oq19; show (tkK _ _).1 = _; rw [← this]; omega
  have e5 : rS5 (tC (G.2.1 (F (F a 0) 0)) ((G.1 (F a 0) 1).toInt)) = tkN (tC (G.2.1 (F (F a 0) 0)) ((G.1 (F a 0) 1).toInt)) (-9999) 9999 (rS4 (tC (G.2.1 (F (F a 0) 0)) ((G.1 (F a 0) 1).toInt))).2 := if_pos (by rw [k19]; omega)
  rw [e5]
  exact oq112
theorem v_X5_read_130_27 {F : Nat → Nat → Nat} (x19 : Int32) (G : XG) (a : Nat) (x112 : Int32) (x127 : Int32) (G22 : XG) (q14 : Nat)
    (oq19 : x19.toInt = (tkK (tC (G.2.1 (F (F a 0) 0)) ((G.1 (F a 0) 1).toInt)) (1, rn cBl (tC (G.2.1 (F (F a 0) 0)) ((G.1 (F a 0) 1).toInt)) 0)).1)
    (oq112 : x112.toInt = (tkN (tC (G.2.1 (F (F a 0) 0)) ((G.1 (F a 0) 1).toInt)) (-9999 : Int) (9999 : Int) ((rS4 (tC (G.2.1 (F (F a 0) 0)) ((G.1 (F a 0) 1).toInt))).2)).1)
    (oq127 : x127.toInt = (tkN (tC (G.2.1 (F (F a 0) 0)) ((G.1 (F a 0) 1).toInt)) x112.toInt (9999 : Int) ((rS5 (tC (G.2.1 (F (F a 0) 0)) ((G.1 (F a 0) 1).toInt))).2)).1)
    (t19 : 0 ≤ x19.toInt ∧ x19.toInt ≤ 5)
    (t22 : ((G22.1 q14 0).toInt) = x19.toInt ∧ ((G22.1 q14 1).toInt) = -1 ∧ ((G22.1 q14 4).toInt) = -1 ∧ ((G22.1 q14 7).toInt) = 0)
    (I104_0 : ((G22.1 q14 0).toInt) = 2 ∨ ((G22.1 q14 0).toInt) = 3 ∨ ((G22.1 q14 0).toInt) = 4) :
    x127.toInt = (rS6 (tC (G.2.1 (F (F a 0) 0)) ((G.1 (F a 0) 1).toInt))).1 := by
  have k19 : (rS1 (tC (G.2.1 (F (F a 0) 0)) ((G.1 (F a 0) 1).toInt))).1 = (G22.1 q14 0).toInt := by have := oq19; show (tkK _ _).1 = _; rw [← this]; omega
  have e5 : rS5 (tC (G.2.1 (F (F a 0) 0)) ((G.1 (F a 0) 1).toInt)) = tkN (tC (G.2.1 (F (F a 0) 0)) ((G.1 (F a 0) 1).toInt)) (-9999) 9999 (rS4 (tC (G.2.1 (F (F a 0) 0)) ((G.1 (F a 0) 1).toInt))).2 := if_pos (by rw [k19]; omega)
  have e6 : rS6 (tC (G.2.1 (F (F a 0) 0)) ((G.1 (F a 0) 1).toInt)) = tkN (tC (G.2.1 (F (F a 0) 0)) ((G.1 (F a 0) 1).toInt)) (rS5 (tC (G.2.1 (F (F a 0) 0)) ((G.1 (F a 0) 1).toInt))).1 9999 (rS5 (tC (G.2.1 (F (F a 0) 0)) ((G.1 (F a 0) 1).toInt))).2 := if_pos (by rw [k19]; omega)
  rw [e6]
  rw [show x112.toInt = (rS5 (tC (G.2.1 (F (F a 0) 0)) ((G.1 (F a 0) 1).toInt))).1 from by rw [e5]; exact oq112] at oq127
  exact oq127
theorem v_X5_read_101_28 {F : Nat → Nat → Nat} (x19 : Int32) (G : XG) (a : Nat) (G_80 : XG) (G22 : XG) (q14 : Nat)
    (oq19 : x19.toInt = (tkK (tC (G.2.1 (F (F a 0) 0)) ((G.1 (F a 0) 1).toInt)) (1, rn cBl (tC (G.2.1 (F (F a 0) 0)) ((G.1 (F a 0) 1).toInt)) 0)).1)
    (rd4 : RdI (tC (G.2.1 (F (F a 0) 0)) ((G.1 (F a 0) 1).toInt)) (G.1 (F a 0) 1).toInt (rS4 (tC (G.2.1 (F (F a 0) 0)) ((G.1 (F a 0) 1).toInt))).2 ((G_80.1 a 1).toInt) ((G_80.1 a 2).toInt) ((G_80.1 a 3).toInt) ((G_80.1 a 4).toInt) ((G_80.1 a 5).toInt))
    (t19 : 0 ≤ x19.toInt ∧ x19.toInt ≤ 5)
    (t22 : ((G22.1 q14 0).toInt) = x19.toInt ∧ ((G22.1 q14 1).toInt) = -1 ∧ ((G22.1 q14 4).toInt) = -1 ∧ ((G22.1 q14 7).toInt) = 0)
    (c85 : ¬ (((G22.1 q14 0).toInt) = (2 : Int)))
    (c93 : ¬ (((G22.1 q14 0).toInt) = (3 : Int)))
    (c101 : ((G22.1 q14 0).toInt) ≠ (4 : Int)) :
    RdI (tC (G.2.1 (F (F a 0) 0)) ((G.1 (F a 0) 1).toInt)) (G.1 (F a 0) 1).toInt (rS6 (tC (G.2.1 (F (F a 0) 0)) ((G.1 (F a 0) 1).toInt))).2 ((G_80.1 a 1).toInt) ((G_80.1 a 2).toInt) ((G_80.1 a 3).toInt) ((G_80.1 a 4).toInt) ((G_80.1 a 5).toInt) := by
  have k19 : (rS1 (tC (G.2.1 (F (F a 0) 0)) ((G.1 (F a 0) 1).toInt))).1 = (G22.1 q14 0).toInt := by have := oq19; show (tkK _ _).1 = _; rw [← this]; omega
  have e5 : rS5 (tC (G.2.1 (F (F a 0) 0)) ((G.1 (F a 0) 1).toInt)) = (0, (rS4 (tC (G.2.1 (F (F a 0) 0)) ((G.1 (F a 0) 1).toInt))).2) := if_neg (by rw [k19]; omega)
  have e6 : rS6 (tC (G.2.1 (F (F a 0) 0)) ((G.1 (F a 0) 1).toInt)) = (0, (rS5 (tC (G.2.1 (F (F a 0) 0)) ((G.1 (F a 0) 1).toInt))).2) := if_neg (by rw [k19]; omega)
  rw [e6, e5]
  exact rd4
theorem v_X5_read_101_29 {F : Nat → Nat → Nat} (x19 : Int32) (G : XG) (a : Nat) (G14 : XG) (q14 : Nat) (G22 : XG)
    (oq19 : x19.toInt = (tkK (tC (G.2.1 (F (F a 0) 0)) ((G.1 (F a 0) 1).toInt)) (1, rn cBl (tC (G.2.1 (F (F a 0) 0)) ((G.1 (F a 0) 1).toInt)) 0)).1)
    (hn14 : ((G14.1 q14 5).toInt) = 0)
    (t19 : 0 ≤ x19.toInt ∧ x19.toInt ≤ 5)
    (t22 : ((G22.1 q14 0).toInt) = x19.toInt ∧ ((G22.1 q14 1).toInt) = -1 ∧ ((G22.1 q14 4).toInt) = -1 ∧ ((G22.1 q14 7).toInt) = 0)
    (c85 : ¬ (((G22.1 q14 0).toInt) = (2 : Int)))
    (c93 : ¬ (((G22.1 q14 0).toInt) = (3 : Int)))
    (c101 : ((G22.1 q14 0).toInt) ≠ (4 : Int)) :
    ((G14.1 q14 5).toInt) = (rS5 (tC (G.2.1 (F (F a 0) 0)) ((G.1 (F a 0) 1).toInt))).1 := by
  have k19 : (rS1 (tC (G.2.1 (F (F a 0) 0)) ((G.1 (F a 0) 1).toInt))).1 = (G22.1 q14 0).toInt := by have := oq19; show (tkK _ _).1 = _; rw [← this]; omega
  have e5 : rS5 (tC (G.2.1 (F (F a 0) 0)) ((G.1 (F a 0) 1).toInt)) = (0, (rS4 (tC (G.2.1 (F (F a 0) 0)) ((G.1 (F a 0) 1).toInt))).2) := if_neg (by rw [k19]; omega)
  rw [e5]
  show _ = (0 : Int)
  omega
theorem v_X5_read_101_30 {F : Nat → Nat → Nat} (x19 : Int32) (G : XG) (a : Nat) (G14 : XG) (q14 : Nat) (G22 : XG)
    (oq19 : x19.toInt = (tkK (tC (G.2.1 (F (F a 0) 0)) ((G.1 (F a 0) 1).toInt)) (1, rn cBl (tC (G.2.1 (F (F a 0) 0)) ((G.1 (F a 0) 1).toInt)) 0)).1)
    (hn14a : ((G14.1 q14 6).toInt) = 0)
    (t19 : 0 ≤ x19.toInt ∧ x19.toInt ≤ 5)
    (t22 : ((G22.1 q14 0).toInt) = x19.toInt ∧ ((G22.1 q14 1).toInt) = -1 ∧ ((G22.1 q14 4).toInt) = -1 ∧ ((G22.1 q14 7).toInt) = 0)
    (c85 : ¬ (((G22.1 q14 0).toInt) = (2 : Int)))
    (c93 : ¬ (((G22.1 q14 0).toInt) = (3 : Int)))
    (c101 : ((G22.1 q14 0).toInt) ≠ (4 : Int)) :
    ((G14.1 q14 6).toInt) = (rS6 (tC (G.2.1 (F (F a 0) 0)) ((G.1 (F a 0) 1).toInt))).1 := by
  have k19 : (rS1 (tC (G.2.1 (F (F a 0) 0)) ((G.1 (F a 0) 1).toInt))).1 = (G22.1 q14 0).toInt := by have := oq19; show (tkK _ _).1 = _; rw [← this]; omega
  have e5 : rS5 (tC (G.2.1 (F (F a 0) 0)) ((G.1 (F a 0) 1).toInt)) = (0, (rS4 (tC (G.2.1 (F (F a 0) 0)) ((G.1 (F a 0) 1).toInt))).2) := if_neg (by rw [k19]; omega)
  have e6 : rS6 (tC (G.2.1 (F (F a 0) 0)) ((G.1 (F a 0) 1).toInt)) = (0, (rS5 (tC (G.2.1 (F (F a 0) 0)) ((G.1 (F a 0) 1).toInt))).2) := if_neg (by rw [k19]; omega)
  rw [e6]
  show _ = (0 : Int)
  omega
theorem v_X5_read_74_31 {F : Nat → Nat → Nat} (G : XG) (a : Nat) (G40 : XG) (G43 : XG)
    (oq40a : RdI (tC (G.2.1 (F (F a 0) 0)) ((G.1 (F a 0) 1).toInt)) ((G.1 (F a 0) 1).toInt) (tkN (tC (G.2.1 (F (F a 0) 0)) ((G.1 (F a 0) 1).toInt)) (0 : Int) (2 : Int) ((rS2 (tC (G.2.1 (F (F a 0) 0)) ((G.1 (F a 0) 1).toInt))).2)).2 ((G40.1 a 1).toInt) ((G40.1 a 2).toInt) ((G40.1 a 3).toInt) ((G40.1 a 4).toInt) ((G40.1 a 5).toInt))
    (c_G43_F_F_a_0_0 : G43.2.1 (F (F a 0) 0) = G.2.1 (F (F a 0) 0))
    (d_G43_F_a_0_1 : G43.1 (F a 0) 1 = G.1 (F a 0) 1)
    (d_G43_a_1 : G43.1 a 1 = G40.1 a 1)
    (d_G43_a_2 : G43.1 a 2 = G40.1 a 2)
    (d_G43_a_3 : G43.1 a 3 = G40.1 a 3)
    (d_G43_a_4 : G43.1 a 4 = G40.1 a 4)
    (d_G43_a_5 : G43.1 a 5 = G40.1 a 5) :
    RdI (tC (G43.2.1 (F (F a 0) 0)) ((G43.1 (F a 0) 1).toInt)) ((G43.1 (F a 0) 1).toInt) ((rS3 (tC (G.2.1 (F (F a 0) 0)) ((G.1 (F a 0) 1).toInt))).2) ((G43.1 a 1).toInt) ((G43.1 a 2).toInt) ((G43.1 a 3).toInt) ((G43.1 a 4).toInt) ((G43.1 a 5).toInt) := by
  (try rw [c_G43_F_F_a_0_0])
  (try rw [d_G43_F_a_0_1])
  (try rw [d_G43_a_1])
  (try rw [d_G43_a_2])
  (try rw [d_G43_a_3])
  (try rw [d_G43_a_4])
  (try rw [d_G43_a_5])
  exact oq40a
theorem v_X5_read_77_32 {F : Nat → Nat → Nat} (x19 : Int32) (G : XG) (a : Nat) (G74 : XG) (G22 : XG) (q14 : Nat)
    (oq19 : x19.toInt = (tkK (tC (G.2.1 (F (F a 0) 0)) ((G.1 (F a 0) 1).toInt)) (1, rn cBl (tC (G.2.1 (F (F a 0) 0)) ((G.1 (F a 0) 1).toInt)) 0)).1)
    (oq74a : RdI (tC (G.2.1 (F (F a 0) 0)) ((G.1 (F a 0) 1).toInt)) ((G.1 (F a 0) 1).toInt) (tkN (tC (G.2.1 (F (F a 0) 0)) ((G.1 (F a 0) 1).toInt)) (0 : Int) (2 : Int) ((rS3 (tC (G.2.1 (F (F a 0) 0)) ((G.1 (F a 0) 1).toInt))).2)).2 ((G74.1 a 1).toInt) ((G74.1 a 2).toInt) ((G74.1 a 3).toInt) ((G74.1 a 4).toInt) ((G74.1 a 5).toInt))
    (t19 : 0 ≤ x19.toInt ∧ x19.toInt ≤ 5)
    (t22 : ((G22.1 q14 0).toInt) = x19.toInt ∧ ((G22.1 q14 1).toInt) = -1 ∧ ((G22.1 q14 4).toInt) = -1 ∧ ((G22.1 q14 7).toInt) = 0)
    (I70_0 : ((G22.1 q14 0).toInt) = 1 ∨ ((G22.1 q14 0).toInt) = 3 ∨ ((G22.1 q14 0).toInt) = 4) :
    RdI (tC (G.2.1 (F (F a 0) 0)) ((G.1 (F a 0) 1).toInt)) (G.1 (F a 0) 1).toInt (rS4 (tC (G.2.1 (F (F a 0) 0)) ((G.1 (F a 0) 1).toInt))).2 ((G74.1 a 1).toInt) ((G74.1 a 2).toInt) ((G74.1 a 3).toInt) ((G74.1 a 4).toInt) ((G74.1 a 5).toInt) := by
  have k19 : (rS1 (tC (G.2.1 (F (F a 0) 0)) ((G.1 (F a 0) 1).toInt))).1 = (G22.1 q14 0).toInt := by have := oq19; show (tkK _ _).1 = _; rw [← this]; omega
  have e4 : rS4 (tC (G.2.1 (F (F a 0) 0)) ((G.1 (F a 0) 1).toInt)) = tkN (tC (G.2.1 (F (F a 0) 0)) ((G.1 (F a 0) 1).toInt)) 0 2 (rS3 (tC (G.2.1 (F (F a 0) 0)) ((G.1 (F a 0) 1).toInt))).2 := if_pos (by rw [k19]; omega)
  rw [e4]
  exact oq74a
theorem v_X5_read_77_33 {F : Nat → Nat → Nat} (x19 : Int32) (G : XG) (a : Nat) (x74 : Int32) (G22 : XG) (q14 : Nat)
    (oq19 : x19.toInt = (tkK (tC (G.2.1 (F (F a 0) 0)) ((G.1 (F a 0) 1).toInt)) (1, rn cBl (tC (G.2.1 (F (F a 0) 0)) ((G.1 (F a 0) 1).toInt)) 0)).1)
    (oq74 : x74.toInt = (tkN (tC (G.2.1 (F (F a 0) 0)) ((G.1 (F a 0) 1).toInt)) (0 : Int) (2 : Int) ((rS3 (tC (G.2.1 (F (F a 0) 0)) ((G.1 (F a 0) 1).toInt))).2)).1)
    (t19 : 0 ≤ x19.toInt ∧ x19.toInt ≤ 5)
    (t22 : ((G22.1 q14 0).toInt) = x19.toInt ∧ ((G22.1 q14 1).toInt) = -1 ∧ ((G22.1 q14 4).toInt) = -1 ∧ ((G22.1 q14 7).toInt) = 0)
    (I70_0 : ((G22.1 q14 0).toInt) = 1 ∨ ((G22.1 q14 0).toInt) = 3 ∨ ((G22.1 q14 0).toInt) = 4) :
    x74.toInt = (rS4 (tC (G.2.1 (F (F a 0) 0)) ((G.1 (F a 0) 1).toInt))).1 := by
  have k19 : (rS1 (tC (G.2.1 (F (F a 0) 0)) ((G.1 (F a 0) 1).toInt))).1 = (G22.1 q14 0).toInt := by have := oq19; show (tkK _ _).1 = _; rw [← this]; omega
  have e4 : rS4 (tC (G.2.1 (F (F a 0) 0)) ((G.1 (F a 0) 1).toInt)) = tkN (tC (G.2.1 (F (F a 0) 0)) ((G.1 (F a 0) 1).toInt)) 0 2 (rS3 (tC (G.2.1 (F (F a 0) 0)) ((G.1 (F a 0) 1).toInt))).2 := if_pos (by rw [k19]; omega)
  rw [e4]
  exact oq74
theorem v_X5_read_67_34 {F : Nat → Nat → Nat} (x19 : Int32) (G : XG) (a : Nat) (G40 : XG) (G22 : XG) (q14 : Nat)
    (oq19 : x19.toInt = (tkK (tC (G.2.1 (F (F a 0) 0)) ((G.1 (F a 0) 1).toInt)) (1, rn cBl (tC (G.2.1 (F (F a 0) 0)) ((G.1 (F a 0) 1).toInt)) 0)).1)
    (oq40a : RdI (tC (G.2.1 (F (F a 0) 0)) ((G.1 (F a 0) 1).toInt)) ((G.1 (F a 0) 1).toInt) (tkN (tC (G.2.1 (F (F a 0) 0)) ((G.1 (F a 0) 1).toInt)) (0 : Int) (2 : Int) ((rS2 (tC (G.2.1 (F (F a 0) 0)) ((G.1 (F a 0) 1).toInt))).2)).2 ((G40.1 a 1).toInt) ((G40.1 a 2).toInt) ((G40.1 a 3).toInt) ((G40.1 a 4).toInt) ((G40.1 a 5).toInt))
    (t19 : 0 ≤ x19.toInt ∧ x19.toInt ≤ 5)
    (t22 : ((G22.1 q14 0).toInt) = x19.toInt ∧ ((G22.1 q14 1).toInt) = -1 ∧ ((G22.1 q14 4).toInt) = -1 ∧ ((G22.1 q14 7).toInt) = 0)
    (c51 : ¬ (((G22.1 q14 0).toInt) = (1 : Int)))
    (c59 : ¬ (((G22.1 q14 0).toInt) = (3 : Int)))
    (c67 : ((G22.1 q14 0).toInt) ≠ (4 : Int)) :
    RdI (tC (G.2.1 (F (F a 0) 0)) ((G.1 (F a 0) 1).toInt)) (G.1 (F a 0) 1).toInt (rS4 (tC (G.2.1 (F (F a 0) 0)) ((G.1 (F a 0) 1).toInt))).2 ((G40.1 a 1).toInt) ((G40.1 a 2).toInt) ((G40.1 a 3).toInt) ((G40.1 a 4).toInt) ((G40.1 a 5).toInt) := by
  have k19 : (rS1 (tC (G.2.1 (F (F a 0) 0)) ((G.1 (F a 0) 1).toInt))).1 = (G22.1 q14 0).toInt := by have := oq19; show (tkK _ _).1 = _; rw [← this]; omega
  have e4 : rS4 (tC (G.2.1 (F (F a 0) 0)) ((G.1 (F a 0) 1).toInt)) = (-1, (rS3 (tC (G.2.1 (F (F a 0) 0)) ((G.1 (F a 0) 1).toInt))).2) := if_neg (by rw [k19]; omega)
  rw [e4]
  exact oq40a
theorem v_X5_read_67_35 {F : Nat → Nat → Nat} (x19 : Int32) (G : XG) (a : Nat) (G22 : XG) (q14 : Nat)
    (oq19 : x19.toInt = (tkK (tC (G.2.1 (F (F a 0) 0)) ((G.1 (F a 0) 1).toInt)) (1, rn cBl (tC (G.2.1 (F (F a 0) 0)) ((G.1 (F a 0) 1).toInt)) 0)).1)
    (t19 : 0 ≤ x19.toInt ∧ x19.toInt ≤ 5)
    (t22 : ((G22.1 q14 0).toInt) = x19.toInt ∧ ((G22.1 q14 1).toInt) = -1 ∧ ((G22.1 q14 4).toInt) = -1 ∧ ((G22.1 q14 7).toInt) = 0)
    (c51 : ¬ (((G22.1 q14 0).toInt) = (1 : Int)))
    (c59 : ¬ (((G22.1 q14 0).toInt) = (3 : Int)))
    (c67 : ((G22.1 q14 0).toInt) ≠ (4 : Int)) :
    ((G22.1 q14 4).toInt) = (rS4 (tC (G.2.1 (F (F a 0) 0)) ((G.1 (F a 0) 1).toInt))).1 := by
  have k19 : (rS1 (tC (G.2.1 (F (F a 0) 0)) ((G.1 (F a 0) 1).toInt))).1 = (G22.1 q14 0).toInt := by have := oq19; show (tkK _ _).1 = _; rw [← this]; omega
  have e4 : rS4 (tC (G.2.1 (F (F a 0) 0)) ((G.1 (F a 0) 1).toInt)) = (-1, (rS3 (tC (G.2.1 (F (F a 0) 0)) ((G.1 (F a 0) 1).toInt))).2) := if_neg (by rw [k19]; omega)
  rw [e4]
  show _ = (-1 : Int)
  omega
