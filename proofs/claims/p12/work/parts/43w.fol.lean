theorem z_X2_replace_1 (a0 : Int) (h0 : 0 ≤ a0 ∧ a0 ≤ 30) : ¬ (2147483648 - a0 < ((0 : Nat) : Int)) := by omega
theorem z_X2_replace_2 (a0 : Int) (a1 : Int) (h0 : 0 ≤ a0 ∧ a0 ≤ 30) (h1 : a1 = (a0 + 1) ∨ (a0 + 1) < -2147483648 ∨ 2147483648 ≤ (a0 + 1)) : a1 = (a0 + 1) := by omega
theorem z_X2_replace_3 (a0 : Int) (h0 : 0 ≤ a0 ∧ a0 ≤ 30) (h1 : ¬ ((30 : Int) ≤ a0)) : 0 ≤ (a0 + 1) ∧ (a0 + 1) ≤ 30 := by omega
theorem z_X2_replace_4 (a0 : Int) (h0 : 0 ≤ a0 ∧ a0 ≤ 30) : (0 : Int) ≤ (a0 + 1) := by omega
theorem z_X2_replace_5 (a0 : Int) (a1 : Nat) (h0 : 2147483648 - a0 < ((a1 + 1 : Nat) : Int)) : 2147483648 - (a0 + 1) < ((a1 : Nat) : Int) := by omega
theorem z_X2_replace_6 (a0 : Int) (a1 : Int) (h0 : (0 ≤ a0 ∧ a0 ≤ 2) ∧ (0 ≤ a1 ∧ a1 ≤ 2)) : 0 ≤ a1 ∧ a1 < 3 := by omega
abbrev rm_X2_replace : Room := { frames := 3, cells := 0, slots := 0, locals := 66 }
set_option maxHeartbeats 4000000 in
set_option maxRecDepth 100000 in
theorem c_X2_replace (l : Launch) (E : XE) (K : Nat → Nat) (F : Nat → Nat → Nat) (G : XG) (p0 : Nat) (p1 : Nat) (p2 : Int32) (p3 : Int32) (hp0 : K p0 = 8) (hp1 : K p1 = 9) (e0 : 0 ≤ p2.toInt ∧ p2.toInt < 30) (e1 : p3.toInt = -1000 ∨ (-99 ≤ p3.toInt ∧ p3.toInt ≤ 99)) (hro : RO (vw (G.2.1 (F p0 0))) (aI (G.2.1 (F p0 1)))) (hrw : RW (G.1 p1)) : Met l yX2_replace (xw yX2_replace cX2_replace 5 none) rm_X2_replace (va_Pc [.ref p0, .ref p1, .int p2, .int p3] (XP E K F G)) (XQv E (fun (u : XG) => XFr [] [F p0 0, F p0 1] [] G u ∧ ((vw (u.2.1 (F p0 0))) = repl (vw (G.2.1 (F p0 0))) ((G.1 p1 2).toInt) ((G.1 p1 3).toInt) p2.toInt p3.toInt 30) ∧ (RO (vw (u.2.1 (F p0 0))) (aI (u.2.1 (F p0 1))))) (fun u H => TW E K F u H)) 0 0 (xA E) := by
  refine x_enter (by decide) (Nat.le_of_ble_eq_true rfl) ?_
  intro p e s m args below meth c Q S hr hlk hnm hQ hP ls hl
  obtain ⟨hz, hK, hT⟩ := hP
  obtain ⟨hx, hb, -, -, -⟩ := id S
  obtain ⟨H, hT, hS, hgo⟩ : ∃ H : Heap, TW E K F G H ∧ va_S (xA E) s.heap H [] ∧ H = s.heap := ⟨_, hT, va_S.rf, rfl⟩
  rw [← hgo]
  have hl : lv_has ls 5 [(0, .ref p0), (1, .ref p1), (2, .int p2), (3, .int p3)] := hl
  obtain ⟨hk9999, hj9999⟩ := fkX6_0 hT hp0
  obtain ⟨hk9999a, hj9999a⟩ := fkX6_1 hT hp0
  have z0 : (0 ≤ ((G.1 p1 2).toInt) ∧ ((G.1 p1 2).toInt) ≤ 2) ∧ (0 ≤ ((G.1 p1 3).toInt) ∧ ((G.1 p1 3).toInt) ≤ 2) := ⟨hrw.f.2.1, hrw.f.2.2.1⟩
  refine lv_iconst (v := 0) hx hb dX2_replace_0 (by decide) ?_
  refine lv_istore (lv' := [(4, .int 0), (0, .ref p0), (1, .ref p1), (2, .int p2), (3, .int p3)]) hx hb dX2_replace_1 hl (by decide) rfl (fun ls hl => ?_)
  have L3 : ∀ (N3 : Nat) (l4_3 : Int32) (G_3 : XG) (H : Heap) (locs : List Loc) (ls : Array Slot), XFr [] [F p0 0, F p0 1] [] G G_3 → (vw (G_3.2.1 (F p0 0))) = repl (vw (G.2.1 (F p0 0))) ((G.1 p1 2).toInt) ((G.1 p1 3).toInt) p2.toInt p3.toInt (l4_3.toInt) → RO (vw (G_3.2.1 (F p0 0))) (aI (G_3.2.1 (F p0 1))) → 0 ≤ l4_3.toInt ∧ l4_3.toInt ≤ 30 → (0 : Int) ≤ l4_3.toInt → 2147483648 - l4_3.toInt < ((N3 : Nat) : Int) → TW E K F G_3 H → va_S (xA E) s.heap H locs → lv_has ls 5 [(0, .ref p0), (1, .ref p1), (2, .int p2), (3, .int p3), (4, .int l4_3)] → W p l e rm_X2_replace s m args below meth c H locs 0 0 Q (F0 m 3 ls []) := by
    intro N3
    induction N3 with
    | zero =>
      intro l4_3 G_3 H locs ls hF_3 rp ro I3_0 I3_1 hm3
      exact absurd hm3 (z_X2_replace_1 l4_3.toInt I3_0)
    | succ N3 ih3 =>
      intro l4_3 G_3 H locs ls hF_3 rp ro I3_0 I3_1 hm3 hT hS hl
      refine lv_iload hx hb dX2_replace_3 (lv_at hl 4 rfl) ?_
      refine lv_bipush (v := 30) hx hb dX2_replace_5 (by decide) ?_
      refine xi_cge (tgt := 49) hx hb (rfl : Int32.toInt l4_3 = l4_3.toInt) ((by decide) : Int32.toInt 30 = (30 : Int)) dX2_replace_7 (by decide) (fun c7 => ?_) (fun c7 => ?_)
      · exact x_rv hx hb hr hlk hQ (Nat.le_of_ble_eq_true rfl) (Nat.le_of_ble_eq_true rfl) hS dX2_replace_49 G_3 ⟨(XFr.call XFr.rf hF_3 xm0 (xm1 0 rfl (xm1 1 rfl xm0)) xm0), (v_X2_replace_49_1 (K := K) (F := F) p0 p1 G G_3 p2 p3 l4_3 N3 hp0 hp1 rp e0 e1 z0 I3_0 I3_1 hm3 c7), (v_X2_replace_49_2 (F := F) p0 G_3 ro)⟩ hT
      · refine lv_aload_n hx hb dX2_replace_10 rfl (lv_at hl 0 rfl) ?_
        refine lv_aload_n hx hb dX2_replace_11 rfl (lv_at hl 1 rfl) ?_
        refine gX7_2 S hK hT hp1 kf_X2_61 dX2_replace_12 (v := (G.1 p1 2)) (hF_3.1 _ _ xn0) (?_)
        refine lv_iload hx hb dX2_replace_15 (lv_at hl 4 rfl) ?_
        refine lv_aload_n hx hb dX2_replace_17 rfl (lv_at hl 1 rfl) ?_
        refine gX7_3 S hK hT hp1 kf_X2_64 dX2_replace_18 (v := (G.1 p1 3)) (hF_3.1 _ _ xn0) (?_)
        refine x_clp (x_runV (b := p0) (As := [.int (G.1 p1 2), .int l4_3, .int (G.1 p1 3)]) (rest := []) S (c_X6_cell l E K F G_3 H p0 (G.1 p1 2) l4_3 (G.1 p1 3) hp0) mv_X6_cell km_X2_67 rfl rfl ⟨Nat.le_of_ble_eq_true rfl, Nat.le_of_ble_eq_true rfl⟩ (rc_8 hK hT hp0) hK (fun _ => XPh.blind) (fun U hU hW => XPh.at hK hz hS hT hU hW) rfl hl.1 (Nat.le_of_ble_eq_true rfl) dX2_replace_21 ⟨Nat.le_of_ble_eq_true rfl, Nat.le_of_ble_eq_true rfl⟩) hS ?_
        rintro _ _ locs ⟨x21, rfl, t21⟩ hS
        have t21 : x21.toInt = (cel (vw (G_3.2.1 (F p0 0))) ((G.1 p1 2).toInt) (l4_3.toInt) ((G.1 p1 3).toInt)) := t21
        refine lv_iload_n hx hb dX2_replace_24 rfl (lv_at hl 2 rfl) ?_
        refine xi_cne (tgt := 43) hx hb (t21 : Int32.toInt x21 = (cel (vw (G_3.2.1 (F p0 0))) ((G.1 p1 2).toInt) (l4_3.toInt) ((G.1 p1 3).toInt))) (rfl : Int32.toInt p2 = p2.toInt) dX2_replace_25 (by decide) (fun c25 => ?_) (fun c25 => ?_)
        · refine xi_iinc (n := 1) (lv' := fun z9 => [(4, .int z9), (0, .ref p0), (1, .ref p1), (2, .int p2), (3, .int p3)]) (k := 4) hx hb (rfl : Int32.toInt l4_3 = l4_3.toInt) (by decide) dX2_replace_43 hl rfl (by decide) (fun _ => rfl) (fun x43 ls t43 hl => ?_)
          have e43 : x43.toInt = (l4_3.toInt + 1) := (z_X2_replace_2 l4_3.toInt x43.toInt I3_0 t43)
          have hl : lv_has ls 5 [(4, .int x43), (0, .ref p0), (1, .ref p1), (2, .int p2), (3, .int p3)] := hl
          refine lv_goto (tgt := 3) hx hb dX2_replace_46 (by decide) ?_
          exact ih3 x43 G_3 _ _ _ (XFr.call XFr.rf hF_3 xm0 (xm1 0 rfl (xm1 1 rfl xm0)) xm0) (by rw [(e43 : Int32.toInt x43 = (l4_3.toInt + 1))] <;> exact (v_X2_replace_46_3 (K := K) (F := F) p0 p1 G G_3 p2 p3 l4_3 N3 hp0 hp1 rp ro e0 e1 z0 I3_0 I3_1 hm3 c7 c25)) (v_X2_replace_46_4 (F := F) p0 G_3 ro) (by rw [(e43 : Int32.toInt x43 = (l4_3.toInt + 1))] <;> exact (z_X2_replace_3 l4_3.toInt I3_0 c7)) (by rw [(e43 : Int32.toInt x43 = (l4_3.toInt + 1))] <;> exact (z_X2_replace_4 l4_3.toInt I3_0)) (by rw [(e43 : Int32.toInt x43 = (l4_3.toInt + 1))] <;> exact (z_X2_replace_5 l4_3.toInt N3 hm3)) hT hS (lv_sub hl [1, 2, 3, 4, 0] rfl)
        · refine lv_aload_n hx hb dX2_replace_28 rfl (lv_at hl 0 rfl) ?_
          refine lv_aload_n hx hb dX2_replace_29 rfl (lv_at hl 1 rfl) ?_
          refine gX7_2 S hK hT hp1 kf_X2_61 dX2_replace_30 (v := (G.1 p1 2)) (hF_3.1 _ _ xn0) (?_)
          refine lv_iload hx hb dX2_replace_33 (lv_at hl 4 rfl) ?_
          refine lv_aload_n hx hb dX2_replace_35 rfl (lv_at hl 1 rfl) ?_
          refine gX7_3 S hK hT hp1 kf_X2_64 dX2_replace_36 (v := (G.1 p1 3)) (hF_3.1 _ _ xn0) (?_)
          refine lv_iload_n hx hb dX2_replace_39 rfl (lv_at hl 3 rfl) ?_
          refine x_cv0 (x_runV (b := p0) (As := [.int (G.1 p1 2), .int l4_3, .int (G.1 p1 3), .int p3]) (rest := []) S (c_X6_change l E K F G_3 p0 (G.1 p1 2) l4_3 (G.1 p1 3) p3 hp0 (z_X2_replace_6 ((G.1 p1 2).toInt) ((G.1 p1 3).toInt) z0) (e1) (v_X2_replace_40_5 (F := F) p0 G_3 ro)) mv_X6_change km_X2_71 rfl rfl ⟨Nat.le_of_ble_eq_true rfl, Nat.le_of_ble_eq_true rfl⟩ (rc_8 hK hT hp0) hK (fun _ => XP.blind) (fun U hU hW => XP.at hK hz hS hT hU hW) rfl hl.1 (Nat.le_of_ble_eq_true rfl) dX2_replace_40 ⟨Nat.le_of_ble_eq_true rfl, Nat.le_of_ble_eq_true rfl⟩) hS ?_
          rintro G40 H locs ⟨hF40, oq40, oq40a⟩ hT hS
          refine xi_iinc (n := 1) (lv' := fun z9 => [(4, .int z9), (0, .ref p0), (1, .ref p1), (2, .int p2), (3, .int p3)]) (k := 4) hx hb (rfl : Int32.toInt l4_3 = l4_3.toInt) (by decide) dX2_replace_43 hl rfl (by decide) (fun _ => rfl) (fun x43 ls t43 hl => ?_)
          have e43 : x43.toInt = (l4_3.toInt + 1) := (z_X2_replace_2 l4_3.toInt x43.toInt I3_0 t43)
          have hl : lv_has ls 5 [(4, .int x43), (0, .ref p0), (1, .ref p1), (2, .int p2), (3, .int p3)] := hl
          refine lv_goto (tgt := 3) hx hb dX2_replace_46 (by decide) ?_
          exact ih3 x43 G40 _ _ _ (XFr.call (XFr.call XFr.rf hF_3 xm0 (xm1 0 rfl (xm1 1 rfl xm0)) xm0) hF40 xm0 (xm1 0 rfl xm0) xm0) (by rw [(e43 : Int32.toInt x43 = (l4_3.toInt + 1))] <;> exact (v_X2_replace_46_6 (K := K) (F := F) p0 p1 G G_3 G40 p2 p3 l4_3 N3 hp0 hp1 rp ro oq40 e0 e1 z0 I3_0 I3_1 hm3 c7 c25)) (by rw [(show G40.2.1 (F p0 1) = G_3.2.1 (F p0 1) from (hF40.2.1 _ (xn1 (xne_k hk9999a hk9999 (by decide)) xn0)))] <;> exact (v_X2_replace_46_7 (F := F) p0 G_3 G40 ro oq40a (hF40.2.1 _ (xn1 (xne_k hk9999a hk9999 (by decide)) xn0)))) (by rw [(e43 : Int32.toInt x43 = (l4_3.toInt + 1))] <;> exact (z_X2_replace_3 l4_3.toInt I3_0 c7)) (by rw [(e43 : Int32.toInt x43 = (l4_3.toInt + 1))] <;> exact (z_X2_replace_4 l4_3.toInt I3_0)) (by rw [(e43 : Int32.toInt x43 = (l4_3.toInt + 1))] <;> exact (z_X2_replace_5 l4_3.toInt N3 hm3)) hT hS (lv_sub hl [1, 2, 3, 4, 0] rfl)
  exact L3 4294967297 0 G _ _ _ XFr.rf (v_X2_replace_1_8 (F := F) p0 p1 G p2 p3) (v_X2_replace_1_9 (F := F) p0 G hro) (by decide) (by decide) (by decide) hT hS (lv_sub hl [1, 2, 3, 4, 0] rfl)

theorem z_X2_nextWith_1 (a0 : Int) (a1 : Int) (h0 : a1 ≤ a0 ∧ a0 ≤ 30) : ¬ (2147483648 - a0 < ((0 : Nat) : Int)) := by omega
theorem z_X2_nextWith_2 (a0 : Int) (a1 : Int) (h0 : ¬ ((30 : Int) ≤ a0)) (h1 : a1 = (a0 + 1) ∨ (a0 + 1) < -2147483648 ∨ 2147483648 ≤ (a0 + 1)) (h2 : -2147483648 ≤ a0 ∧ a0 < 2147483648) : a1 = (a0 + 1) := by omega
theorem z_X2_nextWith_3 (a0 : Int) (a1 : Int) (h0 : a1 ≤ a0 ∧ a0 ≤ 30) (h1 : ¬ ((30 : Int) ≤ a0)) : a1 ≤ (a0 + 1) ∧ (a0 + 1) ≤ 30 := by omega
theorem z_X2_nextWith_5 (a0 : Int) (a1 : Int) (h0 : 0 ≤ a1 ∧ a1 ≤ 30) (h1 : a1 ≤ a0 ∧ a0 ≤ 30) (h2 : ¬ ((30 : Int) ≤ a0)) : -1 ≤ a0 ∧ a0 < 30 := by omega
theorem z_X2_nextWith_6 (a0 : Int) (h0 : 0 ≤ a0 ∧ a0 ≤ 30) : a0 ≤ a0 ∧ a0 ≤ 30 := by omega
theorem z_X2_nextWith_7 (a0 : Int) (h0 : 0 ≤ a0 ∧ a0 ≤ 30) : 2147483648 - a0 < ((4294967297 : Nat) : Int) := by omega
abbrev rm_X2_nextWith : Room := { frames := 2, cells := 0, slots := 0, locals := 44 }
set_option maxHeartbeats 4000000 in
set_option maxRecDepth 100000 in
theorem c_X2_nextWith (l : Launch) (E : XE) (K : Nat → Nat) (F : Nat → Nat → Nat) (G : XG) (h0 : Heap) (p0 : Nat) (p1 : Nat) (p2 : Int32) (p3 : Int32) (hp0 : K p0 = 8) (hp1 : K p1 = 9) (e0 : 0 ≤ p2.toInt ∧ p2.toInt ≤ 30) (hrw : RW (G.1 p1)) : Met l yX2_nextWith (xw yX2_nextWith cX2_nextWith 5 (some .int)) rm_X2_nextWith (va_Pc [.ref p0, .ref p1, .int p2, .int p3] (XPh E K F G h0)) (XQ E (fun v (u : Unit) => ∃ r : Int32, v = .int r ∧ (-1 ≤ r.toInt ∧ r.toInt < 30) ∧ ((r.toInt = -1 ∧ ∀ j : Int, p2.toInt ≤ j → j < 30 → cel (vw (G.2.1 (F p0 0))) ((G.1 p1 2).toInt) j ((G.1 p1 3).toInt) ≠ p3.toInt) ∨ ((p2.toInt ≤ r.toInt ∧ r.toInt < 30) ∧ cel (vw (G.2.1 (F p0 0))) ((G.1 p1 2).toInt) r.toInt ((G.1 p1 3).toInt) = p3.toInt ∧ ∀ j : Int, p2.toInt ≤ j → j < r.toInt → cel (vw (G.2.1 (F p0 0))) ((G.1 p1 2).toInt) j ((G.1 p1 3).toInt) ≠ p3.toInt))) (fun _ H => H = h0)) 0 0 (xA E) := by
  refine x_enter (by decide) (Nat.le_of_ble_eq_true rfl) ?_
  intro p e s m args below meth c Q S hr hlk hnm hQ hP ls hl
  obtain ⟨⟨hz, hK, hT⟩, hh⟩ := hP
  obtain ⟨hx, hb, -, -, -⟩ := id S
  have hS : va_S (xA E) s.heap s.heap [] := va_S.rf
  have hl : lv_has ls 5 [(0, .ref p0), (1, .ref p1), (2, .int p2), (3, .int p3)] := hl
  obtain ⟨hk9999, hj9999⟩ := fkX6_0 hT hp0
  have z0 : (0 ≤ ((G.1 p1 2).toInt) ∧ ((G.1 p1 2).toInt) ≤ 2) ∧ (0 ≤ ((G.1 p1 3).toInt) ∧ ((G.1 p1 3).toInt) ≤ 2) := ⟨hrw.f.2.1, hrw.f.2.2.1⟩
  refine lv_iload_n hx hb dX2_nextWith_0 rfl (lv_at hl 2 rfl) ?_
  refine lv_istore (lv' := [(4, .int p2), (0, .ref p0), (1, .ref p1), (2, .int p2), (3, .int p3)]) hx hb dX2_nextWith_1 hl (by decide) rfl (fun ls hl => ?_)
  have L3 : ∀ (N3 : Nat) (l4_3 : Int32) (locs : List Loc) (ls : Array Slot), (∀ j : Int, p2.toInt ≤ j → j < l4_3.toInt → cel (vw (G.2.1 (F p0 0))) ((G.1 p1 2).toInt) j ((G.1 p1 3).toInt) ≠ p3.toInt) → p2.toInt ≤ l4_3.toInt ∧ l4_3.toInt ≤ 30 → 2147483648 - l4_3.toInt < ((N3 : Nat) : Int) → TW E K F G s.heap → va_S (xA E) s.heap s.heap locs → lv_has ls 5 [(0, .ref p0), (1, .ref p1), (3, .int p3), (4, .int l4_3)] → W p l e rm_X2_nextWith s m args below meth c s.heap locs 0 0 Q (F0 m 3 ls []) := by
    intro N3
    induction N3 with
    | zero =>
      intro l4_3 locs ls pn I3_0 hm3
      exact absurd hm3 (z_X2_nextWith_1 l4_3.toInt p2.toInt I3_0)
    | succ N3 ih3 =>
      intro l4_3 locs ls pn I3_0 hm3 hT hS hl
      refine lv_iload hx hb dX2_nextWith_3 (lv_at hl 3 rfl) ?_
      refine lv_bipush (v := 30) hx hb dX2_nextWith_5 (by decide) ?_
      refine xi_cge (tgt := 37) hx hb (rfl : Int32.toInt l4_3 = l4_3.toInt) ((by decide) : Int32.toInt 30 = (30 : Int)) dX2_nextWith_7 (by decide) (fun c7 => ?_) (fun c7 => ?_)
      · refine lv_iconst (v := (-1)) hx hb dX2_nextWith_37 (by decide) ?_
        exact x_ri hx hb hr hlk hQ (Nat.le_of_ble_eq_true rfl) (Nat.le_of_ble_eq_true rfl) hS dX2_nextWith_38 () ⟨_, rfl, (by rw [((by decide) : Int32.toInt (-1) = (-1 : Int))] <;> exact (by decide)), (by rw [((by decide) : Int32.toInt (-1) = (-1 : Int))] <;> exact (v_X2_nextWith_38_1 (K := K) (F := F) p0 p1 G p2 l4_3 p3 N3 hp0 hp1 pn e0 z0 I3_0 hm3 c7))⟩ hh
      · refine lv_aload_n hx hb dX2_nextWith_10 rfl (lv_at hl 0 rfl) ?_
        refine lv_aload_n hx hb dX2_nextWith_11 rfl (lv_at hl 1 rfl) ?_
        refine gX7_2 S hK hT hp1 kf_X2_61 dX2_nextWith_12 (v := (G.1 p1 2)) rfl (?_)
        refine lv_iload hx hb dX2_nextWith_15 (lv_at hl 3 rfl) ?_
        refine lv_aload_n hx hb dX2_nextWith_17 rfl (lv_at hl 1 rfl) ?_
        refine gX7_3 S hK hT hp1 kf_X2_64 dX2_nextWith_18 (v := (G.1 p1 3)) rfl (?_)
        refine x_clp (x_runV (b := p0) (As := [.int (G.1 p1 2), .int l4_3, .int (G.1 p1 3)]) (rest := []) S (c_X6_cell l E K F G s.heap p0 (G.1 p1 2) l4_3 (G.1 p1 3) hp0) mv_X6_cell km_X2_67 rfl rfl ⟨Nat.le_of_ble_eq_true rfl, Nat.le_of_ble_eq_true rfl⟩ (rc_8 hK hT hp0) hK (fun _ => XPh.blind) (fun U hU hW => XPh.at hK hz hS hT hU hW) rfl hl.1 (Nat.le_of_ble_eq_true rfl) dX2_nextWith_21 ⟨Nat.le_of_ble_eq_true rfl, Nat.le_of_ble_eq_true rfl⟩) hS ?_
        rintro _ _ locs ⟨x21, rfl, t21⟩ hS
        have t21 : x21.toInt = (cel (vw (G.2.1 (F p0 0))) ((G.1 p1 2).toInt) (l4_3.toInt) ((G.1 p1 3).toInt)) := t21
        refine lv_iload_n hx hb dX2_nextWith_24 rfl (lv_at hl 2 rfl) ?_
        refine xi_cne (tgt := 31) hx hb (t21 : Int32.toInt x21 = (cel (vw (G.2.1 (F p0 0))) ((G.1 p1 2).toInt) (l4_3.toInt) ((G.1 p1 3).toInt))) (rfl : Int32.toInt p3 = p3.toInt) dX2_nextWith_25 (by decide) (fun c25 => ?_) (fun c25 => ?_)
        · refine xi_iinc (n := 1) (lv' := fun z9 => [(4, .int z9), (0, .ref p0), (1, .ref p1), (3, .int p3)]) (k := 3) hx hb (rfl : Int32.toInt l4_3 = l4_3.toInt) (by decide) dX2_nextWith_31 hl rfl (by decide) (fun _ => rfl) (fun x31 ls t31 hl => ?_)
          have e31 : x31.toInt = (l4_3.toInt + 1) := (z_X2_nextWith_2 l4_3.toInt x31.toInt c7 t31 (xr l4_3))
          have hl : lv_has ls 5 [(4, .int x31), (0, .ref p0), (1, .ref p1), (3, .int p3)] := hl
          refine lv_goto (tgt := 3) hx hb dX2_nextWith_34 (by decide) ?_
          exact ih3 x31 _ _ (by rw [(e31 : Int32.toInt x31 = (l4_3.toInt + 1))] <;> exact (v_X2_nextWith_34_2 (K := K) (F := F) p0 p1 G p2 l4_3 p3 N3 hp0 hp1 pn e0 z0 I3_0 hm3 c7 c25)) (by rw [(e31 : Int32.toInt x31 = (l4_3.toInt + 1))] <;> exact (z_X2_nextWith_3 l4_3.toInt p2.toInt I3_0 c7)) (by rw [(e31 : Int32.toInt x31 = (l4_3.toInt + 1))] <;> exact (z_X2_replace_5 l4_3.toInt N3 hm3)) hT hS (lv_sub hl [1, 2, 3, 0] rfl)
        · refine lv_iload hx hb dX2_nextWith_28 (lv_at hl 3 rfl) ?_
          exact x_ri hx hb hr hlk hQ (Nat.le_of_ble_eq_true rfl) (Nat.le_of_ble_eq_true rfl) hS dX2_nextWith_30 () ⟨_, rfl, (z_X2_nextWith_5 l4_3.toInt p2.toInt e0 I3_0 c7), (v_X2_nextWith_30_3 (K := K) (F := F) p0 p1 G p2 l4_3 p3 N3 hp0 hp1 pn e0 z0 I3_0 hm3 c7 c25)⟩ hh
  exact L3 4294967297 p2 _ _ (v_X2_nextWith_1_4 (K := K) (F := F) p0 p1 G p2 p3 hp0 hp1 e0 z0) (z_X2_nextWith_6 p2.toInt e0) (z_X2_nextWith_7 p2.toInt e0) hT hS (lv_sub hl [1, 2, 4, 0] rfl)

theorem z_X2_descend_2 (a0 : Int) (h0 : 0 ≤ a0 ∧ a0 < 90) (h1 : a0 < 0) : a0 = a0 + 1 := by omega
theorem z_X2_descend_3 (a0 : Int) (h0 : 0 ≤ a0 ∧ a0 < 90) (h1 : (90 : Int) ≤ a0) : a0 = a0 + 1 := by omega
theorem z_X2_descend_4 (a0 : Int) (h0 : 0 ≤ a0 ∧ a0 < 90) : 0 ≤ a0 ∧ a0 < ((90 : Nat) : Int) := by omega
theorem z_X2_descend_8 (a0 : Int) (a1 : Int) (h0 : 0 ≤ a1 ∧ a1 < 90) (h1 : a0 = (a1 + (1 : Int)) ∨ (a1 + (1 : Int)) < -2147483648 ∨ 2147483648 ≤ (a1 + (1 : Int))) : a0 = (a1 + (1 : Int)) := by omega
theorem z_X2_descend_9 (a0 : Int) : (a0 + (1 : Int)) = a0 + 1 := by omega
abbrev rm_X2_descend : Room := { frames := 3, cells := 0, slots := 0, locals := 67 }
set_option maxHeartbeats 4000000 in
set_option maxRecDepth 100000 in
theorem c_X2_descend (l : Launch) (E : XE) (K : Nat → Nat) (F : Nat → Nat → Nat) (G : XG) (a : Nat) (p0 : Nat) (p1 : Int32) (p2 : Int32) (ha : K a = 4) (hp0 : K p0 = 8) (e0 : 0 ≤ p1.toInt ∧ p1.toInt < 3 ∧ 0 ≤ p2.toInt ∧ p2.toInt < 30) (e1 : 0 ≤ ((G.1 a 4).toInt) ∧ ((G.1 a 4).toInt) < 90) (hro : RO (vw (G.2.1 (F p0 0))) (aI (G.2.1 (F p0 1)))) : Met l yX2_descend (xw yX2_descend cX2_descend 4 none) rm_X2_descend (va_Pc [.ref a, .ref p0, .int p1, .int p2] (XP E K F G)) (XQv E (fun (u : XG) => XFr [(a, 4)] [F a 0, F a 1, F a 2, F a 3, F p0 0, F p0 1] [] G u ∧ (((u.1 a 4).toInt) = ((G.1 a 4).toInt) + 1) ∧ (∀ z : Int, 0 ≤ z → aI (u.2.1 (F a 0)) z = if z = ((G.1 a 4).toInt) then p1.toInt else aI (G.2.1 (F a 0)) z) ∧ (∀ z : Int, 0 ≤ z → aI (u.2.1 (F a 1)) z = if z = ((G.1 a 4).toInt) then p2.toInt else aI (G.2.1 (F a 1)) z) ∧ (∀ z : Int, 0 ≤ z → aI (u.2.1 (F a 2)) z = if z = ((G.1 a 4).toInt) then 0 else aI (G.2.1 (F a 2)) z) ∧ (∀ z : Int, 0 ≤ z → aI (u.2.1 (F a 3)) z = if z = ((G.1 a 4).toInt) then 0 else aI (G.2.1 (F a 3)) z) ∧ ((vw (u.2.1 (F p0 0))) = rfil (vw (G.2.1 (F p0 0))) p1.toInt p2.toInt (-2000) 3) ∧ (RO (vw (u.2.1 (F p0 0))) (aI (u.2.1 (F p0 1))))) (fun u H => TW E K F u H)) 0 0 (xA E) := by
  refine x_enter (by decide) (Nat.le_of_ble_eq_true rfl) ?_
  intro p e s m args below meth c Q S hr hlk hnm hQ hP ls hl
  obtain ⟨hz, hK, hT⟩ := hP
  obtain ⟨hx, hb, -, -, -⟩ := id S
  obtain ⟨H, hT, hS, hgo⟩ : ∃ H : Heap, TW E K F G H ∧ va_S (xA E) s.heap H [] ∧ H = s.heap := ⟨_, hT, va_S.rf, rfl⟩
  rw [← hgo]
  have hl : lv_has ls 4 [(0, .ref a), (1, .ref p0), (2, .int p1), (3, .int p2)] := hl
  obtain ⟨hk9999, hj9999⟩ := fkX2_0 hT ha
  obtain ⟨hk9999a, hj9999a⟩ := fkX2_1 hT ha
  obtain ⟨hk9999b, hj9999b⟩ := fkX2_2 hT ha
  obtain ⟨hk9999c, hj9999c⟩ := fkX2_3 hT ha
  obtain ⟨hk9999d, hj9999d⟩ := fkX6_0 hT hp0
  obtain ⟨hk9999e, hj9999e⟩ := fkX6_1 hT hp0
  refine lv_aload_n hx hb dX2_descend_0 rfl (lv_at hl 1 rfl) ?_
  refine lv_iload_n hx hb dX2_descend_1 rfl (lv_at hl 2 rfl) ?_
  refine lv_iload_n hx hb dX2_descend_2 rfl (lv_at hl 3 rfl) ?_
  refine x_cv0 (x_runV (b := p0) (As := [.int p1, .int p2]) (rest := []) S (c_X6_remove l E K F G p0 p1 p2 hp0 (e0) (v_X2_descend_3_1 (F := F) p0 G hro)) mv_X6_remove km_X2_75 rfl rfl ⟨Nat.le_of_ble_eq_true rfl, Nat.le_of_ble_eq_true rfl⟩ (rc_8 hK hT hp0) hK (fun _ => XP.blind) (fun U hU hW => XP.at hK hz hS hT hU hW) rfl hl.1 (Nat.le_of_ble_eq_true rfl) dX2_descend_3 ⟨Nat.le_of_ble_eq_true rfl, Nat.le_of_ble_eq_true rfl⟩) hS ?_
  rintro G3 H locs ⟨hF3, oq3, oq3a⟩ hT hS
  refine lv_aload_n hx hb dX2_descend_6 rfl (lv_at hl 0 rfl) ?_
  refine gX2_4 S hK hT ha kf_X2_24 dX2_descend_7 (v := (G.1 a 4)) (hF3.1 _ _ xn0) (?_)
  refine xi_zlt (tgt := 72) hx hb (rfl : Int32.toInt (G.1 a 4) = ((G.1 a 4).toInt)) dX2_descend_10 (by decide) (fun c10 => ?_) (fun c10 => ?_)
  · exact x_rv hx hb hr hlk hQ (Nat.le_of_ble_eq_true rfl) (Nat.le_of_ble_eq_true rfl) hS dX2_descend_72 G3 ⟨(XFr.call XFr.rf hF3 xm0 (xm1 4 rfl (xm1 5 rfl xm0)) xm0), (by rw [(show (G3.1 a 4).toInt = ((G.1 a 4).toInt) from (congrArg Int32.toInt (hF3.1 _ _ xn0)).trans (rfl : Int32.toInt (G.1 a 4) = ((G.1 a 4).toInt)))] <;> exact (z_X2_descend_2 ((G.1 a 4).toInt) e1 c10)), (v_X2_descend_72_2 (K := K) (F := F) a p0 G G3 p1 p2 ha hp0 e0 e1 c10 (hF3.2.1 _ (xn1 (xne_k hk9999 hk9999d (by decide)) (xn1 (xne_k hk9999 hk9999e (by decide)) xn0)))), (v_X2_descend_72_3 (K := K) (F := F) a p0 G G3 p1 p2 ha hp0 e0 e1 c10), (v_X2_descend_72_4 (K := K) (F := F) a p0 G G3 p1 p2 ha hp0 e0 e1 c10), (v_X2_descend_72_5 (K := K) (F := F) a p0 G G3 p1 p2 ha hp0 e0 e1 c10), (v_X2_descend_72_6 (K := K) (F := F) a p0 G G3 p1 p2 ha hp0 oq3 e0 e1 c10), (v_X2_descend_72_7 (K := K) (F := F) a p0 G G3 p1 p2 ha hp0 oq3a e0 e1 c10)⟩ hT
  · refine lv_aload_n hx hb dX2_descend_13 rfl (lv_at hl 0 rfl) ?_
    refine gX2_4 S hK hT ha kf_X2_24 dX2_descend_14 (v := (G.1 a 4)) (hF3.1 _ _ xn0) (?_)
    refine lv_bipush (v := 90) hx hb dX2_descend_17 (by decide) ?_
    refine xi_cge (tgt := 72) hx hb (rfl : Int32.toInt (G.1 a 4) = ((G.1 a 4).toInt)) ((by decide) : Int32.toInt 90 = (90 : Int)) dX2_descend_19 (by decide) (fun c19 => ?_) (fun c19 => ?_)
    · exact x_rv hx hb hr hlk hQ (Nat.le_of_ble_eq_true rfl) (Nat.le_of_ble_eq_true rfl) hS dX2_descend_72 G3 ⟨(XFr.call XFr.rf hF3 xm0 (xm1 4 rfl (xm1 5 rfl xm0)) xm0), (by rw [(show (G3.1 a 4).toInt = ((G.1 a 4).toInt) from (congrArg Int32.toInt (hF3.1 _ _ xn0)).trans (rfl : Int32.toInt (G.1 a 4) = ((G.1 a 4).toInt)))] <;> exact (z_X2_descend_3 ((G.1 a 4).toInt) e1 c19)), (v_X2_descend_72_8 (K := K) (F := F) a p0 G G3 p1 p2 ha hp0 e0 e1 c10 c19 (hF3.2.1 _ (xn1 (xne_k hk9999 hk9999d (by decide)) (xn1 (xne_k hk9999 hk9999e (by decide)) xn0)))), (v_X2_descend_72_9 (K := K) (F := F) a p0 G G3 p1 p2 ha hp0 e0 e1 c10 c19), (v_X2_descend_72_10 (K := K) (F := F) a p0 G G3 p1 p2 ha hp0 e0 e1 c10 c19), (v_X2_descend_72_11 (K := K) (F := F) a p0 G G3 p1 p2 ha hp0 e0 e1 c10 c19), (v_X2_descend_72_12 (K := K) (F := F) a p0 G G3 p1 p2 ha hp0 oq3 e0 e1 c10 c19), (v_X2_descend_72_13 (K := K) (F := F) a p0 G G3 p1 p2 ha hp0 oq3a e0 e1 c10 c19)⟩ hT
    · refine lv_aload_n hx hb dX2_descend_22 rfl (lv_at hl 0 rfl) ?_
      refine gX2_0 S hK hT ha kf_X2_11 dX2_descend_23 (fun _ _ => ?_)
      refine lv_aload_n hx hb dX2_descend_26 rfl (lv_at hl 0 rfl) ?_
      refine gX2_4 S hK hT ha kf_X2_24 dX2_descend_27 (v := (G.1 a 4)) (hF3.1 _ _ xn0) (?_)
      refine lv_iload_n hx hb dX2_descend_30 rfl (lv_at hl 2 rfl) ?_
      refine as_0 (x := p1) S hK hT hS hk9999 ar_24 aw_24 (by decide) (z_X2_descend_4 ((G.1 a 4).toInt) e1) dX2_descend_31 (fun H locs hT hS => ?_)
      obtain ⟨G31, hG31⟩ : ∃ GG : XG, GG = cput G3 (F a 0) (G.1 a 4).toNatClampNeg p1 := ⟨_, rfl⟩
      rw [← hG31] at hT
      refine lv_aload_n hx hb dX2_descend_32 rfl (lv_at hl 0 rfl) ?_
      refine gX2_1 S hK hT ha kf_X2_15 dX2_descend_33 (fun _ _ => ?_)
      refine lv_aload_n hx hb dX2_descend_36 rfl (lv_at hl 0 rfl) ?_
      refine gX2_4 S hK hT ha kf_X2_24 dX2_descend_37 (v := (G.1 a 4)) ((lc_d hG31).trans (hF3.1 _ _ xn0)) (?_)
      refine lv_iload_n hx hb dX2_descend_40 rfl (lv_at hl 3 rfl) ?_
      refine as_0 (x := p2) S hK hT hS hk9999a ar_24 aw_24 (by decide) (z_X2_descend_4 ((G.1 a 4).toInt) e1) dX2_descend_41 (fun H locs hT hS => ?_)
      obtain ⟨G41, hG41⟩ : ∃ GG : XG, GG = cput G31 (F a 1) (G.1 a 4).toNatClampNeg p2 := ⟨_, rfl⟩
      rw [← hG41] at hT
      refine lv_aload_n hx hb dX2_descend_42 rfl (lv_at hl 0 rfl) ?_
      refine gX2_2 S hK hT ha kf_X2_18 dX2_descend_43 (fun _ _ => ?_)
      refine lv_aload_n hx hb dX2_descend_46 rfl (lv_at hl 0 rfl) ?_
      refine gX2_4 S hK hT ha kf_X2_24 dX2_descend_47 (v := (G.1 a 4)) ((lc_d hG41).trans ((lc_d hG31).trans (hF3.1 _ _ xn0))) (?_)
      refine lv_iconst (v := 0) hx hb dX2_descend_50 (by decide) ?_
      refine as_0 (x := 0) S hK hT hS hk9999b ar_24 aw_24 (by decide) (z_X2_descend_4 ((G.1 a 4).toInt) e1) dX2_descend_51 (fun H locs hT hS => ?_)
      obtain ⟨G51, hG51⟩ : ∃ GG : XG, GG = cput G41 (F a 2) (G.1 a 4).toNatClampNeg 0 := ⟨_, rfl⟩
      rw [← hG51] at hT
      refine lv_aload_n hx hb dX2_descend_52 rfl (lv_at hl 0 rfl) ?_
      refine gX2_3 S hK hT ha kf_X2_21 dX2_descend_53 (fun _ _ => ?_)
      refine lv_aload_n hx hb dX2_descend_56 rfl (lv_at hl 0 rfl) ?_
      refine gX2_4 S hK hT ha kf_X2_24 dX2_descend_57 (v := (G.1 a 4)) ((lc_d hG51).trans ((lc_d hG41).trans ((lc_d hG31).trans (hF3.1 _ _ xn0)))) (?_)
      refine lv_iconst (v := 0) hx hb dX2_descend_60 (by decide) ?_
      refine as_0 (x := 0) S hK hT hS hk9999c ar_24 aw_24 (by decide) (z_X2_descend_4 ((G.1 a 4).toInt) e1) dX2_descend_61 (fun H locs hT hS => ?_)
      obtain ⟨G61, hG61⟩ : ∃ GG : XG, GG = cput G51 (F a 3) (G.1 a 4).toNatClampNeg 0 := ⟨_, rfl⟩
      rw [← hG61] at hT
      refine lv_aload_n hx hb dX2_descend_62 rfl (lv_at hl 0 rfl) ?_
      refine lv_dup hx hb dX2_descend_63 rfl ?_
      refine gX2_4 S hK hT ha kf_X2_24 dX2_descend_64 (v := (G.1 a 4)) ((lc_d hG61).trans ((lc_d hG51).trans ((lc_d hG41).trans ((lc_d hG31).trans (hF3.1 _ _ xn0))))) (?_)
      refine lv_iconst (v := 1) hx hb dX2_descend_67 (by decide) ?_
      refine xi_iadd hx hb (rfl : Int32.toInt (G.1 a 4) = ((G.1 a 4).toInt)) ((by decide) : Int32.toInt 1 = (1 : Int)) dX2_descend_68 (fun x68 t68 => ?_)
      have e68 : x68.toInt = (((G.1 a 4).toInt) + (1 : Int)) := (z_X2_descend_8 x68.toInt ((G.1 a 4).toInt) e1 t68)
      refine pX2_4 (v := x68) S hK hT hS ha kf_X2_24 dX2_descend_69 (fun H locs hT hS => ?_)
      obtain ⟨G69, hG69⟩ : ∃ GG : XG, GG = dput G61 a 4 x68 := ⟨_, rfl⟩
      rw [← hG69] at hT
      exact x_rv hx hb hr hlk hQ (Nat.le_of_ble_eq_true rfl) (Nat.le_of_ble_eq_true rfl) hS dX2_descend_72 G69 ⟨(by rw [hG69]; exact XFr.dput (by rw [hG61]; exact XFr.cput (by rw [hG51]; exact XFr.cput (by rw [hG41]; exact XFr.cput (by rw [hG31]; exact XFr.cput (XFr.call XFr.rf hF3 xm0 (xm1 4 rfl (xm1 5 rfl xm0)) xm0) (List.mem_of_getElem? (i := 0) rfl)) (List.mem_of_getElem? (i := 1) rfl)) (List.mem_of_getElem? (i := 2) rfl)) (List.mem_of_getElem? (i := 3) rfl)) (List.mem_of_getElem? (i := 0) rfl)), (by rw [(show (G69.1 a 4).toInt = (((G.1 a 4).toInt) + (1 : Int)) from (congrArg Int32.toInt (ld_at hG69)).trans (e68 : Int32.toInt x68 = (((G.1 a 4).toInt) + (1 : Int))))] <;> exact (z_X2_descend_9 ((G.1 a 4).toInt))), (v_X2_descend_72_14 (K := K) (F := F) a p0 G G3 G31 p1 p2 G69 ha hp0 hG31 e0 e1 c10 c19 (hF3.2.1 _ (xn1 (xne_k hk9999 hk9999d (by decide)) (xn1 (xne_k hk9999 hk9999e (by decide)) xn0))) ((ld_c hG69).trans ((lc_c hG61 (xne_j hj9999 hj9999c (by first | decide | omega))).trans ((lc_c hG51 (xne_j hj9999 hj9999b (by first | decide | omega))).trans (lc_c hG41 (xne_j hj9999 hj9999a (by first | decide | omega))))))), (v_X2_descend_72_15 (K := K) (F := F) a p0 G G31 p1 G41 p2 G69 ha hp0 hG41 e0 e1 c10 c19 ((lc_c hG31 (xne_j hj9999a hj9999 (by first | decide | omega))).trans (hF3.2.1 _ (xn1 (xne_k hk9999a hk9999d (by decide)) (xn1 (xne_k hk9999a hk9999e (by decide)) xn0)))) ((ld_c hG69).trans ((lc_c hG61 (xne_j hj9999a hj9999c (by first | decide | omega))).trans (lc_c hG51 (xne_j hj9999a hj9999b (by first | decide | omega)))))), (v_X2_descend_72_16 (K := K) (F := F) a p0 G p1 G41 p2 G51 G69 ha hp0 hG51 e0 e1 c10 c19 ((lc_c hG41 (xne_j hj9999b hj9999a (by first | decide | omega))).trans ((lc_c hG31 (xne_j hj9999b hj9999 (by first | decide | omega))).trans (hF3.2.1 _ (xn1 (xne_k hk9999b hk9999d (by decide)) (xn1 (xne_k hk9999b hk9999e (by decide)) xn0))))) ((ld_c hG69).trans (lc_c hG61 (xne_j hj9999b hj9999c (by first | decide | omega))))), (v_X2_descend_72_17 (K := K) (F := F) a p0 G p1 p2 G51 G61 G69 ha hp0 hG61 e0 e1 c10 c19 ((lc_c hG51 (xne_j hj9999c hj9999b (by first | decide | omega))).trans ((lc_c hG41 (xne_j hj9999c hj9999a (by first | decide | omega))).trans ((lc_c hG31 (xne_j hj9999c hj9999 (by first | decide | omega))).trans (hF3.2.1 _ (xn1 (xne_k hk9999c hk9999d (by decide)) (xn1 (xne_k hk9999c hk9999e (by decide)) xn0)))))) (ld_c hG69)), (v_X2_descend_72_18 (K := K) (F := F) a p0 G G3 p1 p2 G69 ha hp0 oq3 e0 e1 c10 c19 ((ld_c hG69).trans ((lc_c hG61 (xne_k hk9999d hk9999c (by decide))).trans ((lc_c hG51 (xne_k hk9999d hk9999b (by decide))).trans ((lc_c hG41 (xne_k hk9999d hk9999a (by decide))).trans (lc_c hG31 (xne_k hk9999d hk9999 (by decide)))))))), (v_X2_descend_72_19 (K := K) (F := F) a p0 G G3 p1 p2 G69 ha hp0 oq3a e0 e1 c10 c19 ((ld_c hG69).trans ((lc_c hG61 (xne_k hk9999d hk9999c (by decide))).trans ((lc_c hG51 (xne_k hk9999d hk9999b (by decide))).trans ((lc_c hG41 (xne_k hk9999d hk9999a (by decide))).trans (lc_c hG31 (xne_k hk9999d hk9999 (by decide))))))) ((ld_c hG69).trans ((lc_c hG61 (xne_k hk9999e hk9999c (by decide))).trans ((lc_c hG51 (xne_k hk9999e hk9999b (by decide))).trans ((lc_c hG41 (xne_k hk9999e hk9999a (by decide))).trans (lc_c hG31 (xne_k hk9999e hk9999 (by decide))))))))⟩ hT

