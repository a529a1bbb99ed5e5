theorem z_X2_moveRow_1 (a0 : Int) (a1 : Int) (a2 : Int) (h0 : 0 ≤ a0) (h1 : a0 < 3) (h2 : 0 ≤ a1) (h3 : a1 < 30) (h4 : 0 ≤ a2) (h5 : a2 < 30) (h6 : a1 ≠ a2) : 0 ≤ a0 ∧ a0 < 3 ∧ 0 ≤ a1 ∧ a1 < 30 ∧ 0 ≤ a2 ∧ a2 < 30 ∧ a1 ≠ a2 := by omega
theorem z_X2_moveRow_3 (a0 : Int) (h0 : 0 ≤ a0 ∧ a0 ≤ 12) : ¬ (2147483648 - a0 < ((0 : Nat) : Int)) := by omega
theorem z_X2_moveRow_4 (a0 : Int) (a1 : Int) (h0 : 0 ≤ a0 ∧ a0 ≤ 12) (h1 : a1 = (a0 + 1) ∨ (a0 + 1) < -2147483648 ∨ 2147483648 ≤ (a0 + 1)) : a1 = (a0 + 1) := by omega
theorem z_X2_moveRow_5 (a0 : Int) (h0 : 0 ≤ a0 ∧ a0 ≤ 12) (h1 : ¬ ((12 : Int) ≤ a0)) : 0 ≤ (a0 + 1) ∧ (a0 + 1) ≤ 12 := by omega
theorem z_X2_moveRow_6 (a0 : Int) (h0 : 0 ≤ a0 ∧ a0 ≤ 12) : (0 : Int) ≤ (a0 + 1) := by omega
theorem z_X2_moveRow_7 (a0 : Int) (a1 : Nat) (h0 : 2147483648 - a0 < ((a1 + 1 : Nat) : Int)) : 2147483648 - (a0 + 1) < ((a1 : Nat) : Int) := by omega
theorem z_X2_moveRow_12 (a0 : Int) (h0 : 0 ≤ a0) (h1 : a0 < 30) : 0 ≤ a0 ∧ a0 < 30 := by omega
theorem z_X2_moveRow_18 (a0 : Int) (h0 : 0 ≤ a0) (h1 : a0 < 30) : a0 = -1000 ∨ (-99 ≤ a0 ∧ a0 ≤ 99) := by omega
abbrev rm_X2_moveRow : Room := { frames := 4, cells := 0, slots := 0, locals := 91 }
set_option maxHeartbeats 4000000 in
set_option maxRecDepth 100000 in
theorem c_X2_moveRow (l : Launch) (E : XE) (K : Nat → Nat) (F : Nat → Nat → Nat) (G : XG) (a : Nat) (p0 : Nat) (p1 : Nat) (p2 : Int32) (p3 : Int32) (p4 : Int32) (ha : K a = 4) (hp0 : K p0 = 8) (hp1 : K p1 = 2) (e1 : 0 ≤ p2.toInt ∧ p2.toInt < 3 ∧ 0 ≤ p3.toInt ∧ p3.toInt < 30 ∧ 0 ≤ p4.toInt ∧ p4.toInt < 30 ∧ p3.toInt ≠ p4.toInt) (e3 : (cel (vw (G.2.1 (F p0 0))) (p2.toInt) (p3.toInt) 0) ≠ -2000) (hro : RO (vw (G.2.1 (F p0 0))) (aI (G.2.1 (F p0 1)))) (bkn : BKr K G (G.2.2.1 (F p1 0))) (hac : ACo G (G.2.2.1 (F p1 0))) : Met l yX2_moveRow (xw yX2_moveRow cX2_moveRow 8 none) rm_X2_moveRow (va_Pc [.ref a, .ref p0, .ref p1, .int p2, .int p3, .int p4] (XP E K F G)) (XQv E (fun (u : XG) => XFr [] [F p0 0, F p0 1] [] G u ∧ ((vw (u.2.1 (F p0 0))) = mvR (clsA G (G.2.2.1 (F p1 0))) (clsT G (G.2.2.1 (F p1 0))) (clsC G (G.2.2.1 (F p1 0))) p2.toInt p3.toInt p4.toInt (rmv (vw (G.2.1 (F p0 0))) p2.toInt p3.toInt p4.toInt) 12) ∧ (RO (vw (u.2.1 (F p0 0))) (aI (u.2.1 (F p0 1))))) (fun u H => TW E K F u H)) 0 0 (xA E) := by
  refine x_enter (by decide) (Nat.le_of_ble_eq_true rfl) ?_
  intro p e s m args below meth c Q S hr hlk hnm hQ hP ls hl
  obtain ⟨hz, hK, hT⟩ := hP
  obtain ⟨hx, hb, -, -, -⟩ := id S
  obtain ⟨H, hT, hS, hgo⟩ : ∃ H : Heap, TW E K F G H ∧ va_S (xA E) s.heap H [] ∧ H = s.heap := ⟨_, hT, va_S.rf, rfl⟩
  rw [← hgo]
  have hl : lv_has ls 8 [(0, .ref a), (1, .ref p0), (2, .ref p1), (3, .int p2), (4, .int p3), (5, .int p4)] := hl
  obtain ⟨hk9999, hj9999⟩ := fkX6_0 hT hp0
  obtain ⟨hk9999a, hj9999a⟩ := fkX6_1 hT hp0
  obtain ⟨hk9999b, hj9999b⟩ := fkX0_0 hT hp1
  refine lv_aload_n hx hb dX2_moveRow_0 rfl (lv_at hl 1 rfl) ?_
  refine lv_iload_n hx hb dX2_moveRow_1 rfl (lv_at hl 3 rfl) ?_
  refine lv_iload hx hb dX2_moveRow_2 (lv_at hl 4 rfl) ?_
  refine lv_iload hx hb dX2_moveRow_4 (lv_at hl 5 rfl) ?_
  refine x_cv0 (x_runV (b := p0) (As := [.int p2, .int p3, .int p4]) (rest := []) S (c_X6_move l E K F G p0 p2 p3 p4 hp0 (z_X2_moveRow_1 p2.toInt p3.toInt p4.toInt (e1).1 (e1).2.1 (e1).2.2.1 (e1).2.2.2.1 (e1).2.2.2.2.1 (e1).2.2.2.2.2.1 (e1).2.2.2.2.2.2) (e3) (v_X2_moveRow_6_1 (F := F) p0 G hro)) mv_X6_move km_X2_36 rfl rfl ⟨Nat.le_of_ble_eq_true rfl, Nat.le_of_ble_eq_true rfl⟩ (rc_8 hK hT hp0) hK (fun _ => XP.blind) (fun U hU hW => XP.at hK hz hS hT hU hW) rfl hl.1 (Nat.le_of_ble_eq_true rfl) dX2_moveRow_6 ⟨Nat.le_of_ble_eq_true rfl, Nat.le_of_ble_eq_true rfl⟩) hS ?_
  rintro G6 H locs ⟨hF6, oq6, oq6a⟩ hT hS
  refine lv_iconst (v := 0) hx hb dX2_moveRow_9 (by decide) ?_
  refine lv_istore (lv' := [(6, .int 0), (0, .ref a), (1, .ref p0), (2, .ref p1), (3, .int p2), (4, .int p3), (5, .int p4)]) hx hb dX2_moveRow_10 hl (by decide) rfl (fun ls hl => ?_)
  have L12 : ∀ (N12 : Nat) (l6_12 : Int32) (G_12 : XG) (H : Heap) (locs : List Loc) (ls : Array Slot), XFr [] [F p0 0, F p0 1] [] G6 G_12 → (vw (G_12.2.1 (F p0 0))) = mvR (clsA G (G.2.2.1 (F p1 0))) (clsT G (G.2.2.1 (F p1 0))) (clsC G (G.2.2.1 (F p1 0))) p2.toInt p3.toInt p4.toInt (rmv (vw (G.2.1 (F p0 0))) p2.toInt p3.toInt p4.toInt) (Int.toNat (l6_12.toInt)) → RO (vw (G_12.2.1 (F p0 0))) (aI (G_12.2.1 (F p0 1))) → 0 ≤ l6_12.toInt ∧ l6_12.toInt ≤ 12 → (0 : Int) ≤ l6_12.toInt → 2147483648 - l6_12.toInt < ((N12 : Nat) : Int) → TW E K F G_12 H → va_S (xA E) s.heap H locs → lv_has ls 8 [(1, .ref p0), (2, .ref p1), (3, .int p2), (4, .int p3), (5, .int p4), (6, .int l6_12)] → W p l e rm_X2_moveRow s m args below meth c H locs 0 0 Q (F0 m 12 ls []) := by
    intro N12
    induction N12 with
    | zero =>
      intro l6_12 G_12 H locs ls hF_12 mv ro I12_0 I12_1 hm12
      exact absurd hm12 (z_X2_moveRow_3 l6_12.toInt I12_0)
    | succ N12 ih12 =>
      intro l6_12 G_12 H locs ls hF_12 mv ro I12_0 I12_1 hm12 hT hS hl
      refine lv_iload hx hb dX2_moveRow_12 (lv_at hl 5 rfl) ?_
      refine lv_bipush (v := 12) hx hb dX2_moveRow_14 (by decide) ?_
      refine xi_cge (tgt := 72) hx hb (rfl : Int32.toInt l6_12 = l6_12.toInt) ((by decide) : Int32.toInt 12 = (12 : Int)) dX2_moveRow_16 (by decide) (fun c16 => ?_) (fun c16 => ?_)
      · exact x_rv hx hb hr hlk hQ (Nat.le_of_ble_eq_true rfl) (Nat.le_of_ble_eq_true rfl) hS dX2_moveRow_72 G_12 ⟨(XFr.call (XFr.call XFr.rf hF6 xm0 (xm1 0 rfl (xm1 1 rfl xm0)) xm0) hF_12 xm0 (xm1 0 rfl (xm1 1 rfl xm0)) xm0), (v_X2_moveRow_72_2 (K := K) (F := F) a p0 p1 G G_12 p2 p3 p4 l6_12 N12 ha hp0 hp1 mv e1 e3 I12_0 I12_1 hm12 c16), (v_X2_moveRow_72_3 (F := F) p0 G_12 ro)⟩ hT
      · refine lv_aload_n hx hb dX2_moveRow_19 rfl (lv_at hl 1 rfl) ?_
        refine lv_iload hx hb dX2_moveRow_20 (lv_at hl 5 rfl) ?_
        refine x_clp (x_runV (b := p1) (As := [.int l6_12]) (rest := []) S (c_X0_get l E K F G_12 H p1 l6_12 hp1) mv_X0_get km_X2_42 rfl rfl ⟨Nat.le_of_ble_eq_true rfl, Nat.le_of_ble_eq_true rfl⟩ (rc_2 hK hT hp1) hK (fun _ => XPh.blind) (fun U hU hW => XPh.at hK hz hS hT hU hW) rfl hl.1 (Nat.le_of_ble_eq_true rfl) dX2_moveRow_22 ⟨Nat.le_of_ble_eq_true rfl, Nat.le_of_ble_eq_true rfl⟩) hS ?_
        rintro _ _ locs (⟨rfl, hn22⟩ | ⟨q22, rfl, hk22, ht22, hs22⟩) hS
        · refine lv_astoreN (lv' := [(7, .null), (1, .ref p0), (2, .ref p1), (3, .int p2), (4, .int p3), (5, .int p4), (6, .int l6_12)]) hx hb dX2_moveRow_25 hl (by decide) rfl (fun ls hl => ?_)
          refine lv_aloadN hx hb dX2_moveRow_27 (lv_at hl 0 rfl) ?_
          refine lv_ifnullN (tgt := 66) hx hb dX2_moveRow_29 (by decide) ?_
          refine xi_iinc (n := 1) (lv' := fun z9 => [(6, .int z9), (7, .null), (1, .ref p0), (2, .ref p1), (3, .int p2), (4, .int p3), (5, .int p4)]) (k := 6) hx hb (rfl : Int32.toInt l6_12 = l6_12.toInt) (by decide) dX2_moveRow_66 hl rfl (by decide) (fun _ => rfl) (fun x66 ls t66 hl => ?_)
          have e66 : x66.toInt = (l6_12.toInt + 1) := (z_X2_moveRow_4 l6_12.toInt x66.toInt I12_0 t66)
          have hl : lv_has ls 8 [(6, .int x66), (7, .null), (1, .ref p0), (2, .ref p1), (3, .int p2), (4, .int p3), (5, .int p4)] := hl
          refine lv_goto (tgt := 12) hx hb dX2_moveRow_69 (by decide) ?_
          exact ih12 x66 G_12 _ _ _ (XFr.call XFr.rf hF_12 xm0 (xm1 0 rfl (xm1 1 rfl xm0)) xm0) (by rw [(e66 : Int32.toInt x66 = (l6_12.toInt + 1))] <;> exact (v_X2_moveRow_69_4 (K := K) (F := F) a p0 p1 G G_12 p2 p3 p4 l6_12 N12 ha hp0 hp1 mv hn22 e1 e3 I12_0 I12_1 hm12 c16 ((hF_12.2.2 _ xn0).trans (hF6.2.2 _ xn0)))) (v_X2_moveRow_69_5 (F := F) p0 G_12 ro) (by rw [(e66 : Int32.toInt x66 = (l6_12.toInt + 1))] <;> exact (z_X2_moveRow_5 l6_12.toInt I12_0 c16)) (by rw [(e66 : Int32.toInt x66 = (l6_12.toInt + 1))] <;> exact (z_X2_moveRow_6 l6_12.toInt I12_0)) (by rw [(e66 : Int32.toInt x66 = (l6_12.toInt + 1))] <;> exact (z_X2_moveRow_7 l6_12.toInt N12 hm12)) hT hS (lv_sub hl [2, 3, 4, 5, 6, 0] rfl)
        · have ht22 : 0 ≤ l6_12.toInt ∧ l6_12.toInt < 12 := ht22
          refine lv_astore (lv' := [(7, .ref q22), (1, .ref p0), (2, .ref p1), (3, .int p2), (4, .int p3), (5, .int p4), (6, .int l6_12)]) hx hb dX2_moveRow_25 hl (by decide) rfl (fun ls hl => ?_)
          refine lv_aload hx hb dX2_moveRow_27 (lv_at hl 0 rfl) ?_
          refine lv_ifnull hx hb dX2_moveRow_29 ?_
          refine lv_aload hx hb dX2_moveRow_32 (lv_at hl 0 rfl) ?_
          refine lv_iload_n hx hb dX2_moveRow_34 rfl (lv_at hl 3 rfl) ?_
          refine x_clp (x_runV (b := q22) (As := [.int p2]) (rest := []) S (c_X7_follows l E K F G_12 H q22 p2 hk22) mv_X7_follows km_X2_48 rfl rfl ⟨Nat.le_of_ble_eq_true rfl, Nat.le_of_ble_eq_true rfl⟩ (rc_9 hK hT hk22) hK (fun _ => XPh.blind) (fun U hU hW => XPh.at hK hz hS hT hU hW) rfl hl.1 (Nat.le_of_ble_eq_true rfl) dX2_moveRow_35 ⟨Nat.le_of_ble_eq_true rfl, Nat.le_of_ble_eq_true rfl⟩) hS ?_
          rintro _ _ locs ⟨x35, rfl, b35, t35⟩ hS
          have t35 : ((((G.1 q22 0).toInt) = 1 ∧ ((G.1 q22 4).toInt) = p2.toInt ∧ ((G.1 q22 7).toInt) ≠ 0) ∧ x35.toInt = 1) ∨ (¬ (((G.1 q22 0).toInt) = 1 ∧ ((G.1 q22 4).toInt) = p2.toInt ∧ ((G.1 q22 7).toInt) ≠ 0) ∧ x35.toInt = 0) := by rw [(show (G_12.1 q22 0).toInt = ((G.1 q22 0).toInt) from (congrArg Int32.toInt ((hF_12.1 _ _ xn0).trans (hF6.1 _ _ xn0))).trans (rfl : Int32.toInt (G.1 q22 0) = ((G.1 q22 0).toInt)))] at t35; rw [(show (G_12.1 q22 4).toInt = ((G.1 q22 4).toInt) from (congrArg Int32.toInt ((hF_12.1 _ _ xn0).trans (hF6.1 _ _ xn0))).trans (rfl : Int32.toInt (G.1 q22 4) = ((G.1 q22 4).toInt)))] at t35; rw [(show (G_12.1 q22 7).toInt = ((G.1 q22 7).toInt) from (congrArg Int32.toInt ((hF_12.1 _ _ xn0).trans (hF6.1 _ _ xn0))).trans (rfl : Int32.toInt (G.1 q22 7) = ((G.1 q22 7).toInt)))] at t35; exact t35
          refine xi_zeq (tgt := 66) hx hb (rfl : Int32.toInt x35 = x35.toInt) dX2_moveRow_38 (by decide) (fun c38 => ?_) (fun c38 => ?_)
          · refine xi_iinc (n := 1) (lv' := fun z9 => [(6, .int z9), (7, .ref q22), (1, .ref p0), (2, .ref p1), (3, .int p2), (4, .int p3), (5, .int p4)]) (k := 6) hx hb (rfl : Int32.toInt l6_12 = l6_12.toInt) (by decide) dX2_moveRow_66 hl rfl (by decide) (fun _ => rfl) (fun x66 ls t66 hl => ?_)
            have e66 : x66.toInt = (l6_12.toInt + 1) := (z_X2_moveRow_4 l6_12.toInt x66.toInt I12_0 t66)
            have hl : lv_has ls 8 [(6, .int x66), (7, .ref q22), (1, .ref p0), (2, .ref p1), (3, .int p2), (4, .int p3), (5, .int p4)] := hl
            refine lv_goto (tgt := 12) hx hb dX2_moveRow_69 (by decide) ?_
            exact ih12 x66 G_12 _ _ _ (XFr.call XFr.rf hF_12 xm0 (xm1 0 rfl (xm1 1 rfl xm0)) xm0) (by rw [(e66 : Int32.toInt x66 = (l6_12.toInt + 1))] <;> exact (v_X2_moveRow_69_6 (K := K) (F := F) a p0 p1 q22 G G6 G_12 p2 p3 p4 l6_12 N12 x35 ha hp0 hp1 hk9999 hj9999 hk9999a hj9999a hk9999b hj9999b hk22 hF6 hF_12 bkn hac mv hs22 e1 e3 I12_0 I12_1 hm12 c16 ht22 t35 c38 ((hF_12.2.2 _ xn0).trans (hF6.2.2 _ xn0)))) (v_X2_moveRow_69_7 (F := F) p0 G_12 ro) (by rw [(e66 : Int32.toInt x66 = (l6_12.toInt + 1))] <;> exact (z_X2_moveRow_5 l6_12.toInt I12_0 c16)) (by rw [(e66 : Int32.toInt x66 = (l6_12.toInt + 1))] <;> exact (z_X2_moveRow_6 l6_12.toInt I12_0)) (by rw [(e66 : Int32.toInt x66 = (l6_12.toInt + 1))] <;> exact (z_X2_moveRow_7 l6_12.toInt N12 hm12)) hT hS (lv_sub hl [2, 3, 4, 5, 6, 0] rfl)
          · refine lv_aload_n hx hb dX2_moveRow_41 rfl (lv_at hl 1 rfl) ?_
            refine lv_aload hx hb dX2_moveRow_42 (lv_at hl 0 rfl) ?_
            refine lv_iload hx hb dX2_moveRow_44 (lv_at hl 4 rfl) ?_
            refine lv_aload hx hb dX2_moveRow_46 (lv_at hl 0 rfl) ?_
            refine gX7_7 S hK hT hk22 kf_X2_54 dX2_moveRow_48 (v := (G.1 q22 7)) ((hF_12.1 _ _ xn0).trans (hF6.1 _ _ xn0)) (?_)
            refine lv_iconst (v := 1) hx hb dX2_moveRow_51 (by decide) ?_
            refine xi_cne (tgt := 60) hx hb (rfl : Int32.toInt (G.1 q22 7) = ((G.1 q22 7).toInt)) ((by decide) : Int32.toInt 1 = (1 : Int)) dX2_moveRow_52 (by decide) (fun c52 => ?_) (fun c52 => ?_)
            · refine lv_sipush (v := (-1000)) hx hb dX2_moveRow_60 (by decide) ?_
              refine x_cv0 (x_runS (As := [.ref p0, .ref q22, .int p3, .int (-1000)]) (rest := []) S (c_X2_replace l E K F G_12 p0 q22 p3 (-1000) hp0 hk22 (z_X2_moveRow_12 p3.toInt (e1).2.2.1 (e1).2.2.2.1) (by rw [((by decide) : Int32.toInt (-1000) = (-1000 : Int))] <;> exact (by decide)) (v_X2_moveRow_63_8 (F := F) p0 G_12 ro) (v_X2_moveRow_63_9 (K := K) (F := F) a p0 p1 q22 G G6 G_12 p2 p3 p4 l6_12 N12 x35 ha hp0 hp1 hk9999 hj9999 hk9999a hj9999a hk9999b hj9999b hk22 hF6 hF_12 bkn hs22 e1 e3 I12_0 I12_1 hm12 c16 ht22 t35 c38 c52 ((hF_12.2.2 _ xn0).trans (hF6.2.2 _ xn0)))) ms_X2_replace km_X2_57 rfl rfl ⟨Nat.le_of_ble_eq_true rfl, Nat.le_of_ble_eq_true rfl⟩ hK (fun _ => XP.blind) (fun U hU hW => XP.at hK hz hS hT hU hW) rfl hl.1 (Nat.le_of_ble_eq_true rfl) dX2_moveRow_63 ⟨Nat.le_of_ble_eq_true rfl, Nat.le_of_ble_eq_true rfl⟩) hS ?_
              rintro G63 H locs ⟨hF63, oq63, oq63a⟩ hT hS
              have oq63 : (vw (G63.2.1 (F p0 0))) = repl (vw (G_12.2.1 (F p0 0))) ((G.1 q22 2).toInt) ((G.1 q22 3).toInt) p3.toInt (-1000 : Int) 30 := by simp only [((by decide) : Int32.toInt (-1000) = (-1000 : Int)), (show G_12.1 q22 2 = G.1 q22 2 from ((hF_12.1 _ _ xn0).trans (hF6.1 _ _ xn0))), (show G_12.1 q22 3 = G.1 q22 3 from ((hF_12.1 _ _ xn0).trans (hF6.1 _ _ xn0)))] at oq63; exact oq63
              refine xi_iinc (n := 1) (lv' := fun z9 => [(6, .int z9), (7, .ref q22), (1, .ref p0), (2, .ref p1), (3, .int p2), (4, .int p3), (5, .int p4)]) (k := 6) hx hb (rfl : Int32.toInt l6_12 = l6_12.toInt) (by decide) dX2_moveRow_66 hl rfl (by decide) (fun _ => rfl) (fun x66 ls t66 hl => ?_)
              have e66 : x66.toInt = (l6_12.toInt + 1) := (z_X2_moveRow_4 l6_12.toInt x66.toInt I12_0 t66)
              have hl : lv_has ls 8 [(6, .int x66), (7, .ref q22), (1, .ref p0), (2, .ref p1), (3, .int p2), (4, .int p3), (5, .int p4)] := hl
              refine lv_goto (tgt := 12) hx hb dX2_moveRow_69 (by decide) ?_
              exact ih12 x66 G63 _ _ _ (XFr.call (XFr.call XFr.rf hF_12 xm0 (xm1 0 rfl (xm1 1 rfl xm0)) xm0) hF63 xm0 (xm1 0 rfl (xm1 1 rfl xm0)) xm0) (by rw [(e66 : Int32.toInt x66 = (l6_12.toInt + 1))] <;> exact (v_X2_moveRow_69_10 (K := K) (F := F) a p0 p1 q22 G G6 G_12 G63 p2 p3 p4 l6_12 N12 x35 ha hp0 hp1 hk9999 hj9999 hk9999a hj9999a hk9999b hj9999b hk22 hF6 hF_12 bkn hac mv hs22 oq63 e1 e3 I12_0 I12_1 hm12 c16 ht22 t35 c38 c52 ((hF_12.2.2 _ xn0).trans (hF6.2.2 _ xn0)))) (v_X2_moveRow_69_11 (F := F) p0 G_12 G63 ro oq63a) (by rw [(e66 : Int32.toInt x66 = (l6_12.toInt + 1))] <;> exact (z_X2_moveRow_5 l6_12.toInt I12_0 c16)) (by rw [(e66 : Int32.toInt x66 = (l6_12.toInt + 1))] <;> exact (z_X2_moveRow_6 l6_12.toInt I12_0)) (by rw [(e66 : Int32.toInt x66 = (l6_12.toInt + 1))] <;> exact (z_X2_moveRow_7 l6_12.toInt N12 hm12)) hT hS (lv_sub hl [2, 3, 4, 5, 6, 0] rfl)
            · refine lv_iload hx hb dX2_moveRow_55 (lv_at hl 5 rfl) ?_
              refine lv_goto (tgt := 63) hx hb dX2_moveRow_57 (by decide) ?_
              refine x_cv0 (x_runS (As := [.ref p0, .ref q22, .int p3, .int p4]) (rest := []) S (c_X2_replace l E K F G_12 p0 q22 p3 p4 hp0 hk22 (z_X2_moveRow_12 p3.toInt (e1).2.2.1 (e1).2.2.2.1) (z_X2_moveRow_18 p4.toInt (e1).2.2.2.2.1 (e1).2.2.2.2.2.1) (v_X2_moveRow_63_12 (F := F) p0 G_12 ro) (v_X2_moveRow_63_13 (K := K) (F := F) a p0 p1 q22 G G6 G_12 p2 p3 p4 l6_12 N12 x35 ha hp0 hp1 hk9999 hj9999 hk9999a hj9999a hk9999b hj9999b hk22 hF6 hF_12 bkn hs22 e1 e3 I12_0 I12_1 hm12 c16 ht22 t35 c38 c52 ((hF_12.2.2 _ xn0).trans (hF6.2.2 _ xn0)))) ms_X2_replace km_X2_57 rfl rfl ⟨Nat.le_of_ble_eq_true rfl, Nat.le_of_ble_eq_true rfl⟩ hK (fun _ => XP.blind) (fun U hU hW => XP.at hK hz hS hT hU hW) rfl hl.1 (Nat.le_of_ble_eq_true rfl) dX2_moveRow_63 ⟨Nat.le_of_ble_eq_true rfl, Nat.le_of_ble_eq_true rfl⟩) hS ?_
              rintro G63 H locs ⟨hF63, oq63, oq63a⟩ hT hS
              have oq63 : (vw (G63.2.1 (F p0 0))) = repl (vw (G_12.2.1 (F p0 0))) ((G.1 q22 2).toInt) ((G.1 q22 3).toInt) p3.toInt p4.toInt 30 := by simp only [(show G_12.1 q22 2 = G.1 q22 2 from ((hF_12.1 _ _ xn0).trans (hF6.1 _ _ xn0))), (show G_12.1 q22 3 = G.1 q22 3 from ((hF_12.1 _ _ xn0).trans (hF6.1 _ _ xn0)))] at oq63; exact oq63
              refine xi_iinc (n := 1) (lv' := fun z9 => [(6, .int z9), (7, .ref q22), (1, .ref p0), (2, .ref p1), (3, .int p2), (4, .int p3), (5, .int p4)]) (k := 6) hx hb (rfl : Int32.toInt l6_12 = l6_12.toInt) (by decide) dX2_moveRow_66 hl rfl (by decide) (fun _ => rfl) (fun x66 ls t66 hl => ?_)
              have e66 : x66.toInt = (l6_12.toInt + 1) := (z_X2_moveRow_4 l6_12.toInt x66.toInt I12_0 t66)
              have hl : lv_has ls 8 [(6, .int x66), (7, .ref q22), (1, .ref p0), (2, .ref p1), (3, .int p2), (4, .int p3), (5, .int p4)] := hl
              refine lv_goto (tgt := 12) hx hb dX2_moveRow_69 (by decide) ?_
              exact ih12 x66 G63 _ _ _ (XFr.call (XFr.call XFr.rf hF_12 xm0 (xm1 0 rfl (xm1 1 rfl xm0)) xm0) hF63 xm0 (xm1 0 rfl (xm1 1 rfl xm0)) xm0) (by rw [(e66 : Int32.toInt x66 = (l6_12.toInt + 1))] <;> exact (v_X2_moveRow_69_14 (K := K) (F := F) a p0 p1 q22 G G6 G_12 G63 p2 p3 p4 l6_12 N12 x35 ha hp0 hp1 hk9999 hj9999 hk9999a hj9999a hk9999b hj9999b hk22 hF6 hF_12 bkn hac mv hs22 oq63 e1 e3 I12_0 I12_1 hm12 c16 ht22 t35 c38 c52 ((hF_12.2.2 _ xn0).trans (hF6.2.2 _ xn0)))) (v_X2_moveRow_69_15 (F := F) p0 G_12 G63 ro oq63a) (by rw [(e66 : Int32.toInt x66 = (l6_12.toInt + 1))] <;> exact (z_X2_moveRow_5 l6_12.toInt I12_0 c16)) (by rw [(e66 : Int32.toInt x66 = (l6_12.toInt + 1))] <;> exact (z_X2_moveRow_6 l6_12.toInt I12_0)) (by rw [(e66 : Int32.toInt x66 = (l6_12.toInt + 1))] <;> exact (z_X2_moveRow_7 l6_12.toInt N12 hm12)) hT hS (lv_sub hl [2, 3, 4, 5, 6, 0] rfl)
  exact L12 4294967297 0 G6 _ _ _ XFr.rf (v_X2_moveRow_10_16 (F := F) p0 p1 G G6 p2 p3 p4 oq6) (v_X2_moveRow_10_17 (F := F) p0 G6 oq6a) (by decide) (by decide) (by decide) hT hS (lv_sub hl [2, 3, 4, 5, 6, 0] rfl)

