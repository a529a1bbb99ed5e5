theorem z_X2_replace_1 (a0 : Int) (h0 : 0 ≤ a0 ∧ a0 ≤ 30) : ¬ (2147483648 - a0 < ((0 : Nat) : Int)) := by omega
theorem z_X2_replace_2 (a0 : Int) (a1 : Int) (h0 : 0 ≤ a0 ∧ a0 ≤ 30) (h1 : a1 = (a0 + 1) ∨ (a0 + 1) < -2147483648 ∨ 2147483648 ≤ (a0 + 1)) : a1 = (a0 + 1) := by omega
theorem z_X2_replace_3 (a0 : Int) (h0 : 0 ≤ a0 ∧ a0 ≤ 30) (h1 : ¬ ((30 : Int) ≤ a0)) : 0 ≤ (a0 + 1) ∧ (a0 + 1) ≤ 30 := by omega
theorem z_X2_replace_4 (a0 : Int) (h0 : 0 ≤ a0 ∧ a0 ≤ 30) : (0 : Int) ≤ (a0 + 1) := by omega
theorem z_X2_replace_5 (a0 : Int) (a1 : Nat) (h0 : 2147483648 - a0 < ((a1 + 1 : Nat) : Int)) : 2147483648 - (a0 + 1) < ((a1 : Nat) : Int) := by omega
theorem z_X2_replace_6 (a0 : Int) (a1 : Int) (h0 : (0 ≤ a0 ∧ a0 ≤ 2) ∧ (0 ≤ a1 ∧ a1 ≤ 2)) : 0 ≤ a1 ∧ a1 < 3 := by omega
abbrev rm_X2_replace : Room := { frames := 3, cells := 0, slots := 0, locals := 66 }
set_option maxHeartbeats 4000000 in
set_option maxRecDepth 100000 in
theorem c_X2_replace (l : Launch) (E : XE) (K : Nat → Nat) (F : Nat → Nat → Nat) (G : XG) (p0 : Nat) (p1 : Nat) (p2 : Int32) (p3 : Int32) (hp0 : K p0 = 8) (hp1 : K p1 = 9) (e0 : 0 ≤ p2.toInt ∧ p2.toInt < 30) (e1 : p3.toInt = -1000 ∨ (-99 ≤ p3.toInt ∧ p3.toInt ≤ 99)) (hro : RO (vw (G.2.1 (F p0 0))) (aI (G.2.1 (F p0 1)))) (hrw : RW (G.1 p1)) : Met l yX2_replace (xw yX2_replace cX2_replace 5 none) rm_X2_replace (va_Pc [.ref p0, .ref p1, .int p2, .int p3] (XP E K F G)) (XQv E (fun (u : XG) => XFr [] [F p0 0, F p0 1] [] G u ∧ ((vw (u.2.1 (F p0 0))) = repl (vw (G.2.1 (F p0 0))) ((G.1 p1 2).toInt) ((G.1 p1 3).toInt) p2.toInt p3.toInt 30) ∧ (RO (vw (u.2.1 (F p0 0))) (aI (u.2.1 (F p0 1))))) (fun u H => TW E K F u H)) 0 0 (xA E) := by
  refine x_enter (by decide) (Nat.le_of_ble_eq_true rfl) ?_
  intro p e s m args below meth c Q S hr hlk hnm hQ hP ls hl
  obtain ⟨hz, hK, hT⟩ := hP
  obtain ⟨hx, hb, -, -, -⟩ := id S
  obtain ⟨H, hT, hS, hgo⟩ : ∃ H : Heap, TW E K F G H ∧ va_S (xA E) s.heap H [] ∧ H = s.heap := ⟨_, hT, va_S.rf, rfl⟩
  rw [← hgo]
  have hl : lv_has ls 5 [(0, .ref p0), (1, .ref p1), (2, .int p2), (3, .int p3)] := hl
  obtain ⟨hk9999, hj9999⟩ := fkX6_0 hT hp0
  obtain ⟨hk9999a, hj9999a⟩ := fkX6_1 hT hp0
  have z0 : (0 ≤ ((G.1 p1 2).toInt) ∧ ((G.1 p1 2).toInt) ≤ 2) ∧ (0 ≤ ((G.1 p1 3).toInt) ∧ ((G.1 p1 3).toInt) ≤ 2) := ⟨hrw.f.2.1, hrw.f.2.2.1⟩
  refine lv_iconst (v := 0) hx hb dX2_replace_0 (by decide) ?_
  refine lv_istore (lv' := [(4, .int 0), (0, .ref p0), (1, .ref p1), (2, .int p2), (3, .int p3)]) hx hb dX2_replace_1 hl (by decide) rfl (fun ls hl => ?_)
  have L3 : ∀ (N3 : Nat) (l4_3 : Int32) (G_3 : XG) (H : Heap) (locs : List Loc) (ls : Array Slot), XFr [] [F p0 0, F p0 1] [] G G_3 → (vw (G_3.2.1 (F p0 0))) = repl (vw (G.2.1 (F p0 0))) ((G.1 p1 2).toInt) ((G.1 p1 3).toInt) p2.toInt p3.toInt (l4_3.toInt) → RO (vw (G_3.2.1 (F p0 0))) (aI (G_3.2.1 (F p0 1))) → 0 ≤ l4_3.toInt ∧ l4_3.toInt ≤ 30 → (0 : Int) ≤ l4_3.toInt → 2147483648 - l4_3.toInt < ((N3 : Nat) : Int) → TW E K F G_3 H → va_S (xA E) s.heap H locs → lv_has ls 5 [(0, .ref p0), (1, .ref p1), (2, .int p2), (3, .int p3), (4, .int l4_3)] → W p l e rm_X2_replace s m args below meth c H locs 0 0 Q (F0 m 3 ls []) := by
    intro N3
    induction N3 with
    | zero =>
      intro l4_3 G_3 H locs ls hF_3 rp ro I3_0 I3_1 hm3
      exact absurd hm3 (z_X2_replace_1 l4_3.toInt I3_0)
    | succ N3 ih3 =>
      intro l4_3 G_3 H locs ls hF_3 rp ro I3_0 I3_1 hm3 hT hS hl
      refine lv_iload hx hb dX2_replace_3 (lv_at hl 4 rfl) ?_
      refine lv_bipush (v := 30) hx hb dX2_replace_5 (by decide) ?_
      refine xi_cge (tgt := 49) hx hb (rfl : Int32.toInt l4_3 = l4_3.toInt) ((by decide) : Int32.toInt 30 = (30 : Int)) dX2_replace_7 (by decide) (fun c7 => ?_) (fun c7 => ?_)
      · exact x_rv hx hb hr hlk hQ (Nat.le_of_ble_eq_true rfl) (Nat.le_of_ble_eq_true rfl) hS dX2_replace_49 G_3 ⟨(XFr.call XFr.rf hF_3 xm0 (xm1 0 rfl (xm1 1 rfl xm0)) xm0), (v_X2_replace_49_1 (K := K) (F := F) p0 p1 G G_3 p2 p3 l4_3 N3 hp0 hp1 rp e0 e1 z0 I3_0 I3_1 hm3 c7), (v_X2_replace_49_2 (F := F) p0 G_3 ro)⟩ hT
      · refine lv_aload_n hx hb dX2_replace_10 rfl (lv_at hl 0 rfl) ?_
        refine lv_aload_n hx hb dX2_replace_11 rfl (lv_at hl 1 rfl) ?_
        refine gX7_2 S hK hT hp1 kf_X2_61 dX2_replace_12 (v := (G.1 p1 2)) (hF_3.1 _ _ xn0) (?_)
        refine lv_iload hx hb dX2_replace_15 (lv_at hl 4 rfl) ?_
        refine lv_aload_n hx hb dX2_replace_17 rfl (lv_at hl 1 rfl) ?_
        refine gX7_3 S hK hT hp1 kf_X2_64 dX2_replace_18 (v := (G.1 p1 3)) (hF_3.1 _ _ xn0) (?_)
        refine x_clp (x_runV (b := p0) (As := [.int (G.1 p1 2), .int l4_3, .int (G.1 p1 3)]) (rest := []) S (c_X6_cell l E K F G_3 H p0 (G.1 p1 2) l4_3 (G.1 p1 3) hp0) mv_X6_cell km_X2_67 rfl rfl ⟨Nat.le_of_ble_eq_true rfl, Nat.le_of_ble_eq_true rfl⟩ (rc_8 hK hT hp0) hK (fun _ => XPh.blind) (fun U hU hW => XPh.at hK hz hS hT hU hW) rfl hl.1 (Nat.le_of_ble_eq_true rfl) dX2_replace_21 ⟨Nat.le_of_ble_eq_true rfl, Nat.le_of_ble_eq_true rfl⟩) hS ?_
        rintro _ _ locs ⟨x21, rfl, t21⟩ hS
        have t21 : x21.toInt = (cel (vw (G_3.2.1 (F p0 0))) ((G.1 p1 2).toInt) (l4_3.toInt) ((G.1 p1 3).toInt)) := t21
        refine lv_iload_n hx hb dX2_replace_24 rfl (lv_at hl 2 rfl) ?_
        refine xi_cne (tgt := 43) hx hb (t21 : Int32.toInt x21 = (cel (vw (G_3.2.1 (F p0 0))) ((G.1 p1 2).toInt) (l4_3.toInt) ((G.1 p1 3).toInt))) (rfl : Int32.toInt p2 = p2.toInt) dX2_replace_25 (by decide) (fun c25 => ?_) (fun c25 => ?_)
        · refine xi_iinc (n := 1) (lv' := fun z9 => [(4, .int z9), (0, .ref p0), (1, .ref p1), (2, .int p2), (3, .int p3)]) (k := 4) hx hb (rfl : Int32.toInt l4_3 = l4_3.toInt) (by decide) dX2_replace_43 hl rfl (by decide) (fun _ => rfl) (fun x43 ls t43 hl => ?_)
          have e43 : x43.toInt = (l4_3.toInt + 1) := (z_X2_replace_2 l4_3.toInt x43.toInt I3_0 t43)
          have hl : lv_has ls 5 [(4, .int x43), (0, .ref p0), (1, .ref p1), (2, .int p2), (3, .int p3)] := hl
          refine lv_goto (tgt := 3) hx hb dX2_replace_46 (by decide) ?_
          exact ih3 x43 G_3 _ _ _ (XFr.call XFr.rf hF_3 xm0 (xm1 0 rfl (xm1 1 rfl xm0)) xm0) (by rw [(e43 : Int32.toInt x43 = (l4_3.toInt + 1))] <;> exact (v_X2_replace_46_3 (K := K) (F := F) p0 p1 G G_3 p2 p3 l4_3 N3 hp0 hp1 rp ro e0 e1 z0 I3_0 I3_1 hm3 c7 c25)) (v_X2_replace_46_4 (F := F) p0 G_3 ro) (by rw [(e43 : Int32.toInt x43 = (l4_3.toInt + 1))] <;> exact (z_X2_replace_3 l4_3.toInt I3_0 c7)) (by rw [(e43 : Int32.toInt x43 = (l4_3.toInt + 1))] <;> exact (z_X2_replace_4 l4_3.toInt I3_0)) (by rw [(e43 : Int32.toInt x43 = (l4_3.toInt + 1))] <;> exact (z_X2_replace_5 l4_3.toInt N3 hm3)) hT hS (lv_sub hl [1, 2, 3, 4, 0] rfl)
        · refine lv_aload_n hx hb dX2_replace_28 rfl (lv_at hl 0 rfl) ?_
          refine lv_aload_n hx hb dX2_replace_29 rfl (lv_at hl 1 rfl) ?_
          refine gX7_2 S hK hT hp1 kf_X2_61 dX2_replace_30 (v := (G.1 p1 2)) (hF_3.1 _ _ xn0) (?_)
          refine lv_iload hx hb dX2_replace_33 (lv_at hl 4 rfl) ?_
          refine lv_aload_n hx hb dX2_replace_35 rfl (lv_at hl 1 rfl) ?_
          refine gX7_3 S hK hT hp1 kf_X2_64 dX2_replace_36 (v := (G.1 p1 3)) (hF_3.1 _ _ xn0) (?_)
          refine lv_iload_n hx hb dX2_replace_39 rfl (lv_at hl 3 rfl) ?_
          refine x_cv0 (x_runV (b := p0) (As := [.int (G.1 p1 2), .int l4_3, .int (G.1 p1 3), .int p3]) (rest := []) S (c_X6_change l E K F G_3 p0 (G.1 p1 2) l4_3 (G.1 p1 3) p3 hp0 (z_X2_replace_6 ((G.1 p1 2).toInt) ((G.1 p1 3).toInt) z0) (e1) (v_X2_replace_40_5 (F := F) p0 G_3 ro)) mv_X6_change km_X2_71 rfl rfl ⟨Nat.le_of_ble_eq_true rfl, Nat.le_of_ble_eq_true rfl⟩ (rc_8 hK hT hp0) hK (fun _ => XP.blind) (fun U hU hW => XP.at hK hz hS hT hU hW) rfl hl.1 (Nat.le_of_ble_eq_true rfl) dX2_replace_40 ⟨Nat.le_of_ble_eq_true rfl, Nat.le_of_ble_eq_true rfl⟩) hS ?_
          rintro G40 H locs ⟨hF40, oq40, oq40a⟩ hT hS
          refine xi_iinc (n := 1) (lv' := fun z9 => [(4, .int z9), (0, .ref p0), (1, .ref p1), (2, .int p2), (3, .int p3)]) (k := 4) hx hb (rfl : Int32.toInt l4_3 = l4_3.toInt) (by decide) dX2_replace_43 hl rfl (by decide) (fun _ => rfl) (fun x43 ls t43 hl => ?_)
          have e43 : x43.toInt = (l4_3.toInt + 1) := (z_X2_replace_2 l4_3.toInt x43.toInt I3_0 t43)
          have hl : lv_has ls 5 [(4, .int x43), (0, .ref p0), (1, .ref p1), (2, .int p2), (3, .int p3)] := hl
          refine lv_goto (tgt := 3) hx hb dX2_replace_46 (by decide) ?_
          exact ih3 x43 G40 _ _ _ (XFr.call (XFr.call XFr.rf hF_3 xm0 (xm1 0 rfl (xm1 1 rfl xm0)) xm0) hF40 xm0 (xm1 0 rfl xm0) xm0) (by rw [(e43 : Int32.toInt x43 = (l4_3.toInt + 1))] <;> exact (v_X2_replace_46_6 (K := K) (F := F) p0 p1 G G_3 G40 p2 p3 l4_3 N3 hp0 hp1 rp ro oq40 e0 e1 z0 I3_0 I3_1 hm3 c7 c25)) (by rw [(show G40.2.1 (F p0 1) = G_3.2.1 (F p0 1) from (hF40.2.1 _ (xn1 (xne_k hk9999a hk9999 (by decide)) xn0)))] <;> exact (v_X2_replace_46_7 (F := F) p0 G_3 G40 ro oq40a (hF40.2.1 _ (xn1 (xne_k hk9999a hk9999 (by decide)) xn0)))) (by rw [(e43 : Int32.toInt x43 = (l4_3.toInt + 1))] <;> exact (z_X2_replace_3 l4_3.toInt I3_0 c7)) (by rw [(e43 : Int32.toInt x43 = (l4_3.toInt + 1))] <;> exact (z_X2_replace_4 l4_3.toInt I3_0)) (by rw [(e43 : Int32.toInt x43 = (l4_3.toInt + 1))] <;> exact (z_X2_replace_5 l4_3.toInt N3 hm3)) hT hS (lv_sub hl [1, 2, 3, 4, 0] rfl)
  exact L3 4294967297 0 G _ _ _ XFr.rf (v_X2_replace_1_8 (F := F) p0 p1 G p2 p3) (v_X2_replace_1_9 (F := F) p0 G hro) (by decide) (by decide) (by decide) hT hS (lv_sub hl [1, 2, 3, 4, 0] rfl)

theorem z_X2_nextWith_1 (a0 : Int) (a1 : Int) (h0 : a1 ≤ a0 ∧ a0 ≤ 30) : ¬ (2147483648 - a0 < ((0 : Nat) : Int)) := by omega
theorem z_X2_nextWith_2 (a0 : Int) (a1 : Int) (h0 : ¬ ((30 : Int) ≤ a0)) (h1 : a1 = (a0 + 1) ∨ (a0 + 1) < -2147483648 ∨ 2147483648 ≤ (a0 + 1)) (h2 : -2147483648 ≤ a0 ∧ a0 < 2147483648) : a1 = (a0 + 1) := by omega
theorem z_X2_nextWith_3 (a0 : Int) (a1 : Int) (h0 : a1 ≤ a0 ∧ a0 ≤ 30) (h1 : ¬ ((30 : Int) ≤ a0)) : a1 ≤ (a0 + 1) ∧ (a0 + 1) ≤ 30 := by omega
theorem z_X2_nextWith_5 (a0 : Int) (a1 : Int) (h0 : 0 ≤ a1 ∧ a1 ≤ 30) (h1 : a1 ≤ a0 ∧ a0 ≤ 30) (h2 : ¬ ((30 : Int) ≤ a0)) : -1 ≤ a0 ∧ a0 < 30 := by omega
theorem z_X2_nextWith_6 (a0 : Int) (h0 : 0 ≤ a0 ∧ a0 ≤ 30) : a0 ≤ a0 ∧ a0 ≤ 30 := by omega
theorem z_X2_nextWith_7 (a0 : Int) (h0 : 0 ≤ a0 ∧ a0 ≤ 30) : 2147483648 - a0 < ((4294967297 : Nat) : Int) := by omega
abbrev rm_X2_nextWith : Room := { frames := 2, cells := 0, slots := 0, locals := 44 }
set_option maxHeartbeats 4000000 in
set_option maxRecDepth 100000 in
theorem c_X2_nextWith (l : Launch) (E : XE) (K : Nat → Nat) (F : Nat → Nat → Nat) (G : XG) (h0 : Heap) (p0 : Nat) (p1 : Nat) (p2 : Int32) (p3 : Int32) (hp0 : K p0 = 8) (hp1 : K p1 = 9) (e0 : 0 ≤ p2.toInt ∧ p2.toInt ≤ 30) (hrw : RW (G.1 p1)) : Met l yX2_nextWith (xw yX2_nextWith cX2_nextWith 5 (some .int)) rm_X2_nextWith (va_Pc [.ref p0, .ref p1, .int p2, .int p3] (XPh E K F G h0)) (XQ E (fun v (u : Unit) => ∃ r : Int32, v = .int r ∧ (-1 ≤ r.toInt ∧ r.toInt < 30) ∧ ((r.toInt = -1 ∧ ∀ j : Int, p2.toInt ≤ j → j < 30 → cel (vw (G.2.1 (F p0 0))) ((G.1 p1 2).toInt) j ((G.1 p1 3).toInt) ≠ p3.toInt) ∨ ((p2.toInt ≤ r.toInt ∧ r.toInt < 30) ∧ cel (vw (G.2.1 (F p0 0))) ((G.1 p1 2).toInt) r.toInt ((G.1 p1 3).toInt) = p3.toInt ∧ ∀ j : Int, p2.toInt ≤ j → j < r.toInt → cel (vw (G.2.1 (F p0 0))) ((G.1 p1 2).toInt) j ((G.1 p1 3).toInt) ≠ p3.toInt))) (fun _ H => H = h0)) 0 0 (xA E) := by
  refine x_enter (by decide) (Nat.le_of_ble_eq_true rfl) ?_
  intro p e s m args below meth c Q S hr hlk hnm hQ hP ls hl
  obtain ⟨⟨hz, hK, hT⟩, hh⟩ := hP
  obtain ⟨hx, hb, -, -, -⟩ := id S
  have hS : va_S (xA E) s.heap s.heap [] := va_S.rf
  have hl : lv_has ls 5 [(0, .ref p0), (1, .ref p1), (2, .int p2), (3, .int p3)] := hl
  obtain ⟨hk9999, hj9999⟩ := fkX6_0 hT hp0
  have z0 : (0 ≤ ((G.1 p1 2).toInt) ∧ ((G.1 p1 2).toInt) ≤ 2) ∧ (0 ≤ ((G.1 p1 3).toInt) ∧ ((G.1 p1 3).toInt) ≤ 2) := ⟨hrw.f.2.1, hrw.f.2.2.1⟩
  refine lv_iload_n hx hb dX2_nextWith_0 rfl (lv_at hl 2 rfl) ?_
  refine lv_istore (lv' := [(4, .int p2), (0, .ref p0), (1, .ref p1), (2, .int p2), (3, .int p3)]) hx hb dX2_nextWith_1 hl (by decide) rfl (fun ls hl => ?_)
  have L3 : ∀ (N3 : Nat) (l4_3 : Int32) (locs : List Loc) (ls : Array Slot), (∀ j : Int, p2.toInt ≤ j → j < l4_3.toInt → cel (vw (G.2.1 (F p0 0))) ((G.1 p1 2).toInt) j ((G.1 p1 3).toInt) ≠ p3.toInt) → p2.toInt ≤ l4_3.toInt ∧ l4_3.toInt ≤ 30 → 2147483648 - l4_3.toInt < ((N3 : Nat) : Int) → TW E K F G s.heap → va_S (xA E) s.heap s.heap locs → lv_has ls 5 [(0, .ref p0), (1, .ref p1), (3, .int p3), (4, .int l4_3)] → W p l e rm_X2_nextWith s m args below meth c s.heap locs 0 0 Q (F0 m 3 ls []) := by
    intro N3
    induction N3 with
    | zero =>
      intro l4_3 locs ls pn I3_0 hm3
      exact absurd hm3 (z_X2_nextWith_1 l4_3.toInt p2.toInt I3_0)
    | succ N3 ih3 =>
      intro l4_3 locs ls pn I3_0 hm3 hT hS hl
      refine lv_iload hx hb dX2_nextWith_3 (lv_at hl 3 rfl) ?_
      refine lv_bipush (v := 30) hx hb dX2_nextWith_5 (by decide) ?_
      refine xi_cge (tgt := 37) hx hb (rfl : Int32.toInt l4_3 = l4_3.toInt) ((by decide) : Int32.toInt 30 = (30 : Int)) dX2_nextWith_7 (by decide) (fun c7 => ?_) (fun c7 => ?_)
      · refine lv_iconst (v := (-1)) hx hb dX2_nextWith_37 (by decide) ?_
        exact x_ri hx hb hr hlk hQ (Nat.le_of_ble_eq_true rfl) (Nat.le_of_ble_eq_true rfl) hS dX2_nextWith_38 () ⟨_, rfl, (by rw [((by decide) : Int32.toInt (-1) = (-1 : Int))] <;> exact (by decide)), (by rw [((by decide) : Int32.toInt (-1) = (-1 : Int))] <;> exact (v_X2_nextWith_38_1 (K := K) (F := F) p0 p1 G p2 l4_3 p3 N3 hp0 hp1 pn e0 z0 I3_0 hm3 c7))⟩ hh
      · refine lv_aload_n hx hb dX2_nextWith_10 rfl (lv_at hl 0 rfl) ?_
        refine lv_aload_n hx hb dX2_nextWith_11 rfl (lv_at hl 1 rfl) ?_
        refine gX7_2 S hK hT hp1 kf_X2_61 dX2_nextWith_12 (v := (G.1 p1 2)) rfl (?_)
        refine lv_iload hx hb dX2_nextWith_15 (lv_at hl 3 rfl) ?_
        refine lv_aload_n hx hb dX2_nextWith_17 rfl (lv_at hl 1 rfl) ?_
        refine gX7_3 S hK hT hp1 kf_X2_64 dX2_nextWith_18 (v := (G.1 p1 3)) rfl (?_)
        refine x_clp (x_runV (b := p0) (As := [.int (G.1 p1 2), .int l4_3, .int (G.1 p1 3)]) (rest := []) S (c_X6_cell l E K F G s.heap p0 (G.1 p1 2) l4_3 (G.1 p1 3) hp0) mv_X6_cell km_X2_67 rfl rfl ⟨Nat.le_of_ble_eq_true rfl, Nat.le_of_ble_eq_true rfl⟩ (rc_8 hK hT hp0) hK (fun _ => XPh.blind) (fun U hU hW => XPh.at hK hz hS hT hU hW) rfl hl.1 (Nat.le_of_ble_eq_true rfl) dX2_nextWith_21 ⟨Nat.le_of_ble_eq_true rfl, Nat.le_of_ble_eq_true rfl⟩) hS ?_
        rintro _ _ locs ⟨x21, rfl, t21⟩ hS
        have t21 : x21.toInt = (cel (vw (G.2.1 (F p0 0))) ((G.1 p1 2).toInt) (l4_3.toInt) ((G.1 p1 3).toInt)) := t21
        refine lv_iload_n hx hb dX2_nextWith_24 rfl (lv_at hl 2 rfl) ?_
        refine xi_cne (tgt := 31) hx hb (t21 : Int32.toInt x21 = (cel (vw (G.2.1 (F p0 0))) ((G.1 p1 2).toInt) (l4_3.toInt) ((G.1 p1 3).toInt))) (rfl : Int32.toInt p3 = p3.toInt) dX2_nextWith_25 (by decide) (fun c25 => ?_) (fun c25 => ?_)
        · refine xi_iinc (n := 1) (lv' := fun z9 => [(4, .int z9), (0, .ref p0), (1, .ref p1), (3, .int p3)]) (k := 3) hx hb (rfl : Int32.toInt l4_3 = l4_3.toInt) (by decide) dX2_nextWith_31 hl rfl (by decide) (fun _ => rfl) (fun x31 ls t31 hl => ?_)
          have e31 : x31.toInt = (l4_3.toInt + 1) := (z_X2_nextWith_2 l4_3.toInt x31.toInt c7 t31 (xr l4_3))
          have hl : lv_has ls 5 [(4, .int x31), (0, .ref p0), (1, .ref p1), (3, .int p3)] := hl
          refine lv_goto (tgt := 3) hx hb dX2_nextWith_34 (by decide) ?_
          exact ih3 x31 _ _ (by rw [(e31 : Int32.toInt x31 = (l4_3.toInt + 1))] <;> exact (v_X2_nextWith_34_2 (K := K) (F := F) p0 p1 G p2 l4_3 p3 N3 hp0 hp1 pn e0 z0 I3_0 hm3 c7 c25)) (by rw [(e31 : Int32.toInt x31 = (l4_3.toInt + 1))] <;> exact (z_X2_nextWith_3 l4_3.toInt p2.toInt I3_0 c7)) (by rw [(e31 : Int32.toInt x31 = (l4_3.toInt + 1))] <;> exact (z_X2_replace_5 l4_3.toInt N3 hm3)) hT hS (lv_sub hl [1, 2, 3, 0] rfl)
        · refine lv_iload hx hb dX2_nextWith_28 (lv_at hl 3 rfl) ?_
          exact x_ri hx hb hr hlk hQ (Nat.le_of_ble_eq_true rfl) (Nat.le_of_ble_eq_true rfl) hS dX2_nextWith_30 () ⟨_, rfl, (z_X2_nextWith_5 l4_3.toInt p2.toInt e0 I3_0 c7), (v_X2_nextWith_30_3 (K := K) (F := F) p0 p1 G p2 l4_3 p3 N3 hp0 hp1 pn e0 z0 I3_0 hm3 c7 c25)⟩ hh
  exact L3 4294967297 p2 _ _ (v_X2_nextWith_1_4 (K := K) (F := F) p0 p1 G p2 p3 hp0 hp1 e0 z0) (z_X2_nextWith_6 p2.toInt e0) (z_X2_nextWith_7 p2.toInt e0) hT hS (lv_sub hl [1, 2, 4, 0] rfl)

theorem z_X2_descend_2 (a0 : Int) (h0 : 0 ≤ a0 ∧ a0 < 90) (h1 : a0 < 0) : a0 = a0 + 1 := by omega
theorem z_X2_descend_3 (a0 : Int) (h0 : 0 ≤ a0 ∧ a0 < 90) (h1 : (90 : Int) ≤ a0) : a0 = a0 + 1 := by omega
theorem z_X2_descend_4 (a0 : Int) (h0 : 0 ≤ a0 ∧ a0 < 90) : 0 ≤ a0 ∧ a0 < ((90 : Nat) : Int) := by omega
theorem z_X2_descend_8 (a0 : Int) (a1 : Int) (h0 : 0 ≤ a1 ∧ a1 < 90) (h1 : a0 = (a1 + (1 : Int)) ∨ (a1 + (1 : Int)) < -2147483648 ∨ 2147483648 ≤ (a1 + (1 : Int))) : a0 = (a1 + (1 : Int)) := by omega
theorem z_X2_descend_9 (a0 : Int) : (a0 + (1 : Int)) = a0 + 1 := by omega
abbrev rm_X2_descend : Room := { frames := 3, cells := 0, slots := 0, locals := 67 }
set_option maxHeartbeats 4000000 in
set_option maxRecDepth 100000 in
theorem c_X2_descend (l : Launch) (E : XE) (K : Nat → Nat) (F : Nat → Nat → Nat) (G : XG) (a : Nat) (p0 : Nat) (p1 : Int32) (p2 : Int32) (ha : K a = 4) (hp0 : K p0 = 8) (e0 : 0 ≤ p1.toInt ∧ p1.toInt < 3 ∧ 0 ≤ p2.toInt ∧ p2.toInt < 30) (e1 : 0 ≤ ((G.1 a 4).toInt) ∧ ((G.1 a 4).toInt) < 90) (hro : RO (vw (G.2.1 (F p0 0))) (aI (G.2.1 (F p0 1)))) : Met l yX2_descend (xw yX2_descend cX2_descend 4 none) rm_X2_descend (va_Pc [.ref a, .ref p0, .int p1, .int p2] (XP E K F G)) (XQv E (fun (u : XG) => XFr [(a, 4)] [F a 0, F a 1, F a 2, F a 3, F p0 0, F p0 1] [] G u ∧ (((u.1 a 4).toInt) = ((G.1 a 4).toInt) + 1) ∧ (∀ z : Int, 0 ≤ z → aI (u.2.1 (F a 0)) z = if z = ((G.1 a 4).toInt) then p1.toInt else aI (G.2.1 (F a 0)) z) ∧ (∀ z : Int, 0 ≤ z → aI (u.2.1 (F a 1)) z = if z = ((G.1 a 4).toInt) then p2.toInt else aI (G.2.1 (F a 1)) z) ∧ (∀ z : Int, 0 ≤ z → aI (u.2.1 (F a 2)) z = if z = ((G.1 a 4).toInt) then 0 else aI (G.2.1 (F a 2)) z) ∧ (∀ z : Int, 0 ≤ z → aI (u.2.1 (F a 3)) z = if z = ((G.1 a 4).toInt) then 0 else aI (G.2.1 (F a 3)) z) ∧ ((vw (u.2.1 (F p0 0))) = rfil (vw (G.2.1 (F p0 0))) p1.toInt p2.toInt (-2000) 3) ∧ (RO (vw (u.2.1 (F p0 0))) (aI (u.2.1 (F p0 1))))) (fun u H => TW E K F u H)) 0 0 (xA E) := by
  refine x_enter (by decide) (Nat.le_of_ble_eq_true rfl) ?_
  intro p e s m args below meth c Q S hr hlk hnm hQ hP ls hl
  obtain ⟨hz, hK, hT⟩ := hP
  obtain ⟨hx, hb, -, -, -⟩ := id S
  obtain ⟨H, hT, hS, hgo⟩ : ∃ H : Heap, TW E K F G H ∧ va_S (xA E) s.heap H [] ∧ H = s.heap := ⟨_, hT, va_S.rf, rfl⟩
  rw [← hgo]
  have hl : lv_has ls 4 [(0, .ref a), (1, .ref p0), (2, .int p1), (3, .int p2)] := hl
  obtain ⟨hk9999, hj9999⟩ := fkX2_0 hT ha
  obtain ⟨hk9999a, hj9999a⟩ := fkX2_1 hT ha
  obtain ⟨hk9999b, hj9999b⟩ := fkX2_2 hT ha
  obtain ⟨hk9999c, hj9999c⟩ := fkX2_3 hT ha
  obtain ⟨hk9999d, hj9999d⟩ := fkX6_0 hT hp0
  obtain ⟨hk9999e, hj9999e⟩ := fkX6_1 hT hp0
  refine lv_aload_n hx hb dX2_descend_0 rfl (lv_at hl 1 rfl) ?_
  refine lv_iload_n hx hb dX2_descend_1 rfl (lv_at hl 2 rfl) ?_
  refine lv_iload_n hx hb dX2_descend_2 rfl (lv_at hl 3 rfl) ?_
  refine x_cv0 (x_runV (b := p0) (As := [.int p1, .int p2]) (rest := []) S (c_X6_remove l E K F G p0 p1 p2 hp0 (e0) (v_X2_descend_3_1 (F := F) p0 G hro)) mv_X6_remove km_X2_75 rfl rfl ⟨Nat.le_of_ble_eq_true rfl, Nat.le_of_ble_eq_true rfl⟩ (rc_8 hK hT hp0) hK (fun _ => XP.blind) (fun U hU hW => XP.at hK hz hS hT hU hW) rfl hl.1 (Nat.le_of_ble_eq_true rfl) dX2_descend_3 ⟨Nat.le_of_ble_eq_true rfl, Nat.le_of_ble_eq_true rfl⟩) hS ?_
  rintro G3 H locs ⟨hF3, oq3, oq3a⟩ hT hS
  refine lv_aload_n hx hb dX2_descend_6 rfl (lv_at hl 0 rfl) ?_
  refine gX2_4 S hK hT ha kf_X2_24 dX2_descend_7 (v := (G.1 a 4)) (hF3.1 _ _ xn0) (?_)
  refine xi_zlt (tgt := 72) hx hb (rfl : Int32.toInt (G.1 a 4) = ((G.1 a 4).toInt)) dX2_descend_10 (by decide) (fun c10 => ?_) (fun c10 => ?_)
  · exact x_rv hx hb hr hlk hQ (Nat.le_of_ble_eq_true rfl) (Nat.le_of_ble_eq_true rfl) hS dX2_descend_72 G3 ⟨(XFr.call XFr.rf hF3 xm0 (xm1 4 rfl (xm1 5 rfl xm0)) xm0), (by rw [(show (G3.1 a 4).toInt = ((G.1 a 4).toInt) from (congrArg Int32.toInt (hF3.1 _ _ xn0)).trans (rfl : Int32.toInt (G.1 a 4) = ((G.1 a 4).toInt)))] <;> exact (z_X2_descend_2 ((G.1 a 4).toInt) e1 c10)), (v_X2_descend_72_2 (K := K) (F := F) a p0 G G3 p1 p2 ha hp0 e0 e1 c10 (hF3.2.1 _ (xn1 (xne_k hk9999 hk9999d (by decide)) (xn1 (xne_k hk9999 hk9999e (by decide)) xn0)))), (v_X2_descend_72_3 (K := K) (F := F) a p0 G G3 p1 p2 ha hp0 e0 e1 c10), (v_X2_descend_72_4 (K := K) (F := F) a p0 G G3 p1 p2 ha hp0 e0 e1 c10), (v_X2_descend_72_5 (K := K) (F := F) a p0 G G3 p1 p2 ha hp0 e0 e1 c10), (v_X2_descend_72_6 (K := K) (F := F) a p0 G G3 p1 p2 ha hp0 oq3 e0 e1 c10), (v_X2_descend_72_7 (K := K) (F := F) a p0 G G3 p1 p2 ha hp0 oq3a e0 e1 c10)⟩ hT
  · refine lv_aload_n hx hb dX2_descend_13 rfl (lv_at hl 0 rfl) ?_
    refine gX2_4 S hK hT ha kf_X2_24 dX2_descend_14 (v := (G.1 a 4)) (hF3.1 _ _ xn0) (?_)
    refine lv_bipush (v := 90) hx hb dX2_descend_17 (by decide) ?_
    refine xi_cge (tgt := 72) hx hb (rfl : Int32.toInt (G.1 a 4) = ((G.1 a 4).toInt)) ((by decide) : Int32.toInt 90 = (90 : Int)) dX2_descend_19 (by decide) (fun c19 => ?_) (fun c19 => ?_)
    · exact x_rv hx hb hr hlk hQ (Nat.le_of_ble_eq_true rfl) (Nat.le_of_ble_eq_true rfl) hS dX2_descend_72 G3 ⟨(XFr.call XFr.rf hF3 xm0 (xm1 4 rfl (xm1 5 rfl xm0)) xm0), (by rw [(show (G3.1 a 4).toInt = ((G.1 a 4).toInt) from (congrArg Int32.toInt (hF3.1 _ _ xn0)).trans (rfl : Int32.toInt (G.1 a 4) = ((G.1 a 4).toInt)))] <;> exact (z_X2_descend_3 ((G.1 a 4).toInt) e1 c19)), (v_X2_descend_72_8 (K := K) (F := F) a p0 G G3 p1 p2 ha hp0 e0 e1 c10 c19 (hF3.2.1 _ (xn1 (xne_k hk9999 hk9999d (by decide)) (xn1 (xne_k hk9999 hk9999e (by decide)) xn0)))), (v_X2_descend_72_9 (K := K) (F := F) a p0 G G3 p1 p2 ha hp0 e0 e1 c10 c19), (v_X2_descend_72_10 (K := K) (F := F) a p0 G G3 p1 p2 ha hp0 e0 e1 c10 c19), (v_X2_descend_72_11 (K := K) (F := F) a p0 G G3 p1 p2 ha hp0 e0 e1 c10 c19), (v_X2_descend_72_12 (K := K) (F := F) a p0 G G3 p1 p2 ha hp0 oq3 e0 e1 c10 c19), (v_X2_descend_72_13 (K := K) (F := F) a p0 G G3 p1 p2 ha hp0 oq3a e0 e1 c10 c19)⟩ hT
    · refine lv_aload_n hx hb dX2_descend_22 rfl (lv_at hl 0 rfl) ?_
      refine gX2_0 S hK hT ha kf_X2_11 dX2_descend_23 (fun _ _ => ?_)
      refine lv_aload_n hx hb dX2_descend_26 rfl (lv_at hl 0 rfl) ?_
      refine gX2_4 S hK hT ha kf_X2_24 dX2_descend_27 (v := (G.1 a 4)) (hF3.1 _ _ xn0) (?_)
      refine lv_iload_n hx hb dX2_descend_30 rfl (lv_at hl 2 rfl) ?_
      refine as_0 (x := p1) S hK hT hS hk9999 ar_24 aw_24 (by decide) (z_X2_descend_4 ((G.1 a 4).toInt) e1) dX2_descend_31 (fun H locs hT hS => ?_)
      obtain ⟨G31, hG31⟩ : ∃ GG : XG, GG = cput G3 (F a 0) (G.1 a 4).toNatClampNeg p1 := ⟨_, rfl⟩
      rw [← hG31] at hT
      refine lv_aload_n hx hb dX2_descend_32 rfl (lv_at hl 0 rfl) ?_
      refine gX2_1 S hK hT ha kf_X2_15 dX2_descend_33 (fun _ _ => ?_)
      refine lv_aload_n hx hb dX2_descend_36 rfl (lv_at hl 0 rfl) ?_
      refine gX2_4 S hK hT ha kf_X2_24 dX2_descend_37 (v := (G.1 a 4)) ((lc_d hG31).trans (hF3.1 _ _ xn0)) (?_)
      refine lv_iload_n hx hb dX2_descend_40 rfl (lv_at hl 3 rfl) ?_
      refine as_0 (x := p2) S hK hT hS hk9999a ar_24 aw_24 (by decide) (z_X2_descend_4 ((G.1 a 4).toInt) e1) dX2_descend_41 (fun H locs hT hS => ?_)
      obtain ⟨G41, hG41⟩ : ∃ GG : XG, GG = cput G31 (F a 1) (G.1 a 4).toNatClampNeg p2 := ⟨_, rfl⟩
      rw [← hG41] at hT
      refine lv_aload_n hx hb dX2_descend_42 rfl (lv_at hl 0 rfl) ?_
      refine gX2_2 S hK hT ha kf_X2_18 dX2_descend_43 (fun _ _ => ?_)
      refine lv_aload_n hx hb dX2_descend_46 rfl (lv_at hl 0 rfl) ?_
      refine gX2_4 S hK hT ha kf_X2_24 dX2_descend_47 (v := (G.1 a 4)) ((lc_d hG41).trans ((lc_d hG31).trans (hF3.1 _ _ xn0))) (?_)
      refine lv_iconst (v := 0) hx hb dX2_descend_50 (by decide) ?_
      refine as_0 (x := 0) S hK hT hS hk9999b ar_24 aw_24 (by decide) (z_X2_descend_4 ((G.1 a 4).toInt) e1) dX2_descend_51 (fun H locs hT hS => ?_)
      obtain ⟨G51, hG51⟩ : ∃ GG : XG, GG = cput G41 (F a 2) (G.1 a 4).toNatClampNeg 0 := ⟨_, rfl⟩
      rw [← hG51] at hT
      refine lv_aload_n hx hb dX2_descend_52 rfl (lv_at hl 0 rfl) ?_
      refine gX2_3 S hK hT ha kf_X2_21 dX2_descend_53 (fun _ _ => ?_)
      refine lv_aload_n hx hb dX2_descend_56 rfl (lv_at hl 0 rfl) ?_
      refine gX2_4 S hK hT ha kf_X2_24 dX2_descend_57 (v := (G.1 a 4)) ((lc_d hG51).trans ((lc_d hG41).trans ((lc_d hG31).trans (hF3.1 _ _ xn0)))) (?_)
      refine lv_iconst (v := 0) hx hb dX2_descend_60 (by decide) ?_
      refine as_0 (x := 0) S hK hT hS hk9999c ar_24 aw_24 (by decide) (z_X2_descend_4 ((G.1 a 4).toInt) e1) dX2_descend_61 (fun H locs hT hS => ?_)
      obtain ⟨G61, hG61⟩ : ∃ GG : XG, GG = cput G51 (F a 3) (G.1 a 4).toNatClampNeg 0 := ⟨_, rfl⟩
      rw [← hG61] at hT
      refine lv_aload_n hx hb dX2_descend_62 rfl (lv_at hl 0 rfl) ?_
      refine lv_dup hx hb dX2_descend_63 rfl ?_
      refine gX2_4 S hK hT ha kf_X2_24 dX2_descend_64 (v := (G.1 a 4)) ((lc_d hG61).trans ((lc_d hG51).trans ((lc_d hG41).trans ((lc_d hG31).trans (hF3.1 _ _ xn0))))) (?_)
      refine lv_iconst (v := 1) hx hb dX2_descend_67 (by decide) ?_
      refine xi_iadd hx hb (rfl : Int32.toInt (G.1 a 4) = ((G.1 a 4).toInt)) ((by decide) : Int32.toInt 1 = (1 : Int)) dX2_descend_68 (fun x68 t68 => ?_)
      have e68 : x68.toInt = (((G.1 a 4).toInt) + (1 : Int)) := (z_X2_descend_8 x68.toInt ((G.1 a 4).toInt) e1 t68)
      refine pX2_4 (v := x68) S hK hT hS ha kf_X2_24 dX2_descend_69 (fun H locs hT hS => ?_)
      obtain ⟨G69, hG69⟩ : ∃ GG : XG, GG = dput G61 a 4 x68 := ⟨_, rfl⟩
      rw [← hG69] at hT
      exact x_rv hx hb hr hlk hQ (Nat.le_of_ble_eq_true rfl) (Nat.le_of_ble_eq_true rfl) hS dX2_descend_72 G69 ⟨(by rw [hG69]; exact XFr.dput (by rw [hG61]; exact XFr.cput (by rw [hG51]; exact XFr.cput (by rw [hG41]; exact XFr.cput (by rw [hG31]; exact XFr.cput (XFr.call XFr.rf hF3 xm0 (xm1 4 rfl (xm1 5 rfl xm0)) xm0) (List.mem_of_getElem? (i := 0) rfl)) (List.mem_of_getElem? (i := 1) rfl)) (List.mem_of_getElem? (i := 2) rfl)) (List.mem_of_getElem? (i := 3) rfl)) (List.mem_of_getElem? (i := 0) rfl)), (by rw [(show (G69.1 a 4).toInt = (((G.1 a 4).toInt) + (1 : Int)) from (congrArg Int32.toInt (ld_at hG69)).trans (e68 : Int32.toInt x68 = (((G.1 a 4).toInt) + (1 : Int))))] <;> exact (z_X2_descend_9 ((G.1 a 4).toInt))), (v_X2_descend_72_14 (K := K) (F := F) a p0 G G3 G31 p1 p2 G69 ha hp0 hG31 e0 e1 c10 c19 (hF3.2.1 _ (xn1 (xne_k hk9999 hk9999d (by decide)) (xn1 (xne_k hk9999 hk9999e (by decide)) xn0))) ((ld_c hG69).trans ((lc_c hG61 (xne_j hj9999 hj9999c (by first | decide | omega))).trans ((lc_c hG51 (xne_j hj9999 hj9999b (by first | decide | omega))).trans (lc_c hG41 (xne_j hj9999 hj9999a (by first | decide | omega))))))), (v_X2_descend_72_15 (K := K) (F := F) a p0 G G31 p1 G41 p2 G69 ha hp0 hG41 e0 e1 c10 c19 ((lc_c hG31 (xne_j hj9999a hj9999 (by first | decide | omega))).trans (hF3.2.1 _ (xn1 (xne_k hk9999a hk9999d (by decide)) (xn1 (xne_k hk9999a hk9999e (by decide)) xn0)))) ((ld_c hG69).trans ((lc_c hG61 (xne_j hj9999a hj9999c (by first | decide | omega))).trans (lc_c hG51 (xne_j hj9999a hj9999b (by first | decide | omega)))))), (v_X2_descend_72_16 (K := K) (F := F) a p0 G p1 G41 p2 G51 G69 ha hp0 hG51 e0 e1 c10 c19 ((lc_c hG41 (xne_j hj9999b hj9999a (by first | decide | omega))).trans ((lc_c hG31 (xne_j hj9999b hj9999 (by first | decide | omega))).trans (hF3.2.1 _ (xn1 (xne_k hk9999b hk9999d (by decide)) (xn1 (xne_k hk9999b hk9999e (by decide)) xn0))))) ((ld_c hG69).trans (lc_c hG61 (xne_j hj9999b hj9999c (by first | decide | omega))))), (v_X2_descend_72_17 (K := K) (F := F) a p0 G p1 p2 G51 G61 G69 ha hp0 hG61 e0 e1 c10 c19 ((lc_c hG51 (xne_j hj9999c hj9999b (by first | decide | omega))).trans ((lc_c hG41 (xne_j hj9999c hj9999a (by first | decide | omega))).trans ((lc_c hG31 (xne_j hj9999c hj9999 (by first | decide | omega))).trans (hF3.2.1 _ (xn1 (xne_k hk9999c hk9999d (by decide)) (xn1 (xne_k hk9999c hk9999e (by decide)) xn0)))))) (ld_c hG69)), (v_X2_descend_72_18 (K := K) (F := F) a p0 G G3 p1 p2 G69 ha hp0 oq3 e0 e1 c10 c19 ((ld_c hG69).trans ((lc_c hG61 (xne_k hk9999d hk9999c (by decide))).trans ((lc_c hG51 (xne_k hk9999d hk9999b (by decide))).trans ((lc_c hG41 (xne_k hk9999d hk9999a (by decide))).trans (lc_c hG31 (xne_k hk9999d hk9999 (by decide)))))))), (v_X2_descend_72_19 (K := K) (F := F) a p0 G G3 p1 p2 G69 ha hp0 oq3a e0 e1 c10 c19 ((ld_c hG69).trans ((lc_c hG61 (xne_k hk9999d hk9999c (by decide))).trans ((lc_c hG51 (xne_k hk9999d hk9999b (by decide))).trans ((lc_c hG41 (xne_k hk9999d hk9999a (by decide))).trans (lc_c hG31 (xne_k hk9999d hk9999 (by decide))))))) ((ld_c hG69).trans ((lc_c hG61 (xne_k hk9999e hk9999c (by decide))).trans ((lc_c hG51 (xne_k hk9999e hk9999b (by decide))).trans ((lc_c hG41 (xne_k hk9999e hk9999a (by decide))).trans (lc_c hG31 (xne_k hk9999e hk9999 (by decide))))))))⟩ hT
theorem v_X2_goOn_17_1 {K : Nat → Nat} {F : Nat → Nat → Nat} (a : Nat) (p0 : Nat) (p1 : Nat) (G : XG)
    (ha : K a = 4)
    (hp0 : K p0 = 8)
    (hp1 : K p1 = 2)
    (hcz : CZ (clsA G (G.2.2.1 (F p1 0))) (gst (G.2.1 (F a 0)) (G.2.1 (F a 1)) (G.2.1 (F a 2)) (G.2.1 (F a 3)) (Int.toNat (((G.1 a 4).toInt))), (vw (G.2.1 (F p0 0)))).1)
    (e0 : 1 ≤ ((G.1 a 4).toInt) ∧ ((G.1 a 4).toInt) ≤ 90)
    (z0 : ((0 ≤ (aI (G.2.1 (F a 0)) (((G.1 a 4).toInt) - 1)) ∧ (aI (G.2.1 (F a 0)) (((G.1 a 4).toInt) - 1)) < 3) ∧ (0 ≤ (aI (G.2.1 (F a 1)) (((G.1 a 4).toInt) - 1)) ∧ (aI (G.2.1 (F a 1)) (((G.1 a 4).toInt) - 1)) < 30) ∧ (0 ≤ (aI (G.2.1 (F a 2)) (((G.1 a 4).toInt) - 1)) ∧ (aI (G.2.1 (F a 2)) (((G.1 a 4).toInt) - 1)) ≤ 12) ∧ (0 ≤ (aI (G.2.1 (F a 3)) (((G.1 a 4).toInt) - 1)) ∧ (aI (G.2.1 (F a 3)) (((G.1 a 4).toInt) - 1)) ≤ 30)) ∧ ((G.1 a 4).toInt) + (pn (vw (G.2.1 (F p0 0)))) ≤ 90)
    (c8 : (((G.1 a 4).toInt) - (1 : Int)) < 0) :
    CGo (clsA G (G.2.2.1 (F p1 0))) (clsT G (G.2.2.1 (F p1 0))) (clsC G (G.2.2.1 (F p1 0))) (gst (G.2.1 (F a 0)) (G.2.1 (F a 1)) (G.2.1 (F a 2)) (G.2.1 (F a 3)) (Int.toNat (((G.1 a 4).toInt))), (vw (G.2.1 (F p0 0)))) (gst (G.2.1 (F a 0)) (G.2.1 (F a 1)) (G.2.1 (F a 2)) (G.2.1 (F a 3)) (Int.toNat (((G.1 a 4).toInt))), (vw (G.2.1 (F p0 0)))) := by
  exfalso; omega
theorem v_X2_goOn_17_2 {K : Nat → Nat} {F : Nat → Nat → Nat} (a : Nat) (p0 : Nat) (p1 : Nat) (G : XG)
    (ha : K a = 4)
    (hp0 : K p0 = 8)
    (hp1 : K p1 = 2)
    (hcz : CZ (clsA G (G.2.2.1 (F p1 0))) (gst (G.2.1 (F a 0)) (G.2.1 (F a 1)) (G.2.1 (F a 2)) (G.2.1 (F a 3)) (Int.toNat (((G.1 a 4).toInt))), (vw (G.2.1 (F p0 0)))).1)
    (e0 : 1 ≤ ((G.1 a 4).toInt) ∧ ((G.1 a 4).toInt) ≤ 90)
    (z0 : ((0 ≤ (aI (G.2.1 (F a 0)) (((G.1 a 4).toInt) - 1)) ∧ (aI (G.2.1 (F a 0)) (((G.1 a 4).toInt) - 1)) < 3) ∧ (0 ≤ (aI (G.2.1 (F a 1)) (((G.1 a 4).toInt) - 1)) ∧ (aI (G.2.1 (F a 1)) (((G.1 a 4).toInt) - 1)) < 30) ∧ (0 ≤ (aI (G.2.1 (F a 2)) (((G.1 a 4).toInt) - 1)) ∧ (aI (G.2.1 (F a 2)) (((G.1 a 4).toInt) - 1)) ≤ 12) ∧ (0 ≤ (aI (G.2.1 (F a 3)) (((G.1 a 4).toInt) - 1)) ∧ (aI (G.2.1 (F a 3)) (((G.1 a 4).toInt) - 1)) ≤ 30)) ∧ ((G.1 a 4).toInt) + (pn (vw (G.2.1 (F p0 0)))) ≤ 90)
    (c8 : (((G.1 a 4).toInt) - (1 : Int)) < 0) :
    RO (vw (G.2.1 (F p0 0))) (aI (G.2.1 (F p0 1))) := by
  exfalso; omega
theorem v_X2_goOn_164_3 {K : Nat → Nat} {F : Nat → Nat → Nat} (a : Nat) (p0 : Nat) (p1 : Nat) (G156 : XG) (G : XG) (x5 : Int32) (x155 : Int32) (G163 : XG)
    (ha : K a = 4)
    (hp0 : K p0 = 8)
    (hp1 : K p1 = 2)
    (hG156 : G156 = cput G (F a 2) x5.toNatClampNeg x155)
    (hG163 : G163 = cput G156 (F a 3) x5.toNatClampNeg 0)
    (bkn : BKr K G (G.2.2.1 (F p1 0)))
    (hiv : CIv (gst (G.2.1 (F a 0)) (G.2.1 (F a 1)) (G.2.1 (F a 2)) (G.2.1 (F a 3)) (Int.toNat (((G.1 a 4).toInt))), (vw (G.2.1 (F p0 0)))))
    (hcz : CZ (clsA G (G.2.2.1 (F p1 0))) (gst (G.2.1 (F a 0)) (G.2.1 (F a 1)) (G.2.1 (F a 2)) (G.2.1 (F a 3)) (Int.toNat (((G.1 a 4).toInt))), (vw (G.2.1 (F p0 0)))).1)
    (e5 : x5.toInt = (((G.1 a 4).toInt) - (1 : Int)))
    (hn47 : ((aI (G.2.1 (F a 2)) (((G.1 a 4).toInt) - 1)) < 0 ∨ 12 ≤ (aI (G.2.1 (F a 2)) (((G.1 a 4).toInt) - 1))) ∨ G.2.2.1 (F p1 0) ((aI (G.2.1 (F a 2)) (((G.1 a 4).toInt) - 1))).toNat = none)
    (e155 : x155.toInt = ((aI (G.2.1 (F a 2)) (((G.1 a 4).toInt) - 1)) + (1 : Int)))
    (e0 : 1 ≤ ((G.1 a 4).toInt) ∧ ((G.1 a 4).toInt) ≤ 90)
    (z0 : ((0 ≤ (aI (G.2.1 (F a 0)) (((G.1 a 4).toInt) - 1)) ∧ (aI (G.2.1 (F a 0)) (((G.1 a 4).toInt) - 1)) < 3) ∧ (0 ≤ (aI (G.2.1 (F a 1)) (((G.1 a 4).toInt) - 1)) ∧ (aI (G.2.1 (F a 1)) (((G.1 a 4).toInt) - 1)) < 30) ∧ (0 ≤ (aI (G.2.1 (F a 2)) (((G.1 a 4).toInt) - 1)) ∧ (aI (G.2.1 (F a 2)) (((G.1 a 4).toInt) - 1)) ≤ 12) ∧ (0 ≤ (aI (G.2.1 (F a 3)) (((G.1 a 4).toInt) - 1)) ∧ (aI (G.2.1 (F a 3)) (((G.1 a 4).toInt) - 1)) ≤ 30)) ∧ ((G.1 a 4).toInt) + (pn (vw (G.2.1 (F p0 0)))) ≤ 90)
    (c8 : ¬ ((((G.1 a 4).toInt) - (1 : Int)) < 0))
    (c14 : (((G.1 a 4).toInt) - (1 : Int)) < (90 : Int))
    (c26 : (aI (G.2.1 (F a 2)) (((G.1 a 4).toInt) - 1)) < (12 : Int))
    (c_G156_F_a_3 : G156.2.1 (F a 3) = G.2.1 (F a 3))
    (c_G163_F_a_0 : G163.2.1 (F a 0) = G.2.1 (F a 0))
    (c_G163_F_a_1 : G163.2.1 (F a 1) = G.2.1 (F a 1))
    (c_G163_F_a_2 : G163.2.1 (F a 2) = G156.2.1 (F a 2))
    (c_G163_F_p0_0 : G163.2.1 (F p0 0) = G.2.1 (F p0 0))
    (d_G163_a_4 : G163.1 a 4 = G.1 a 4) :
    CGo (clsA G (G.2.2.1 (F p1 0))) (clsT G (G.2.2.1 (F p1 0))) (clsC G (G.2.2.1 (F p1 0))) (gst (G.2.1 (F a 0)) (G.2.1 (F a 1)) (G.2.1 (F a 2)) (G.2.1 (F a 3)) (Int.toNat (((G.1 a 4).toInt))), (vw (G.2.1 (F p0 0)))) (gst (G163.2.1 (F a 0)) (G163.2.1 (F a 1)) (G163.2.1 (F a 2)) (G163.2.1 (F a 3)) (Int.toNat (((G163.1 a 4).toInt))), (vw (G163.2.1 (F p0 0)))) := by
  have t9 := gst_p (a := G.2.1 (F a 0)) (b := G.2.1 (F a 1)) (c := G.2.1 (F a 2)) (d := G.2.1 (F a 3)) (n := (G.1 a 4).toInt) (by omega)
  rw [t9] at hiv hcz ⊢
  have hq : G.2.2.1 (F p1 0) ((aI (G.2.1 (F a 2)) ((G.1 a 4).toInt - 1))).toNat = none := hn47.elim (fun h => absurd h (by omega)) id
  have st := cgo_nx (clsTo bkn) hiv hcz (by omega) (by rw [clsA_n hq]; decide)
  rw [d_G163_a_4, c_G163_F_a_0, c_G163_F_a_1, c_G163_F_a_2, gst_u (n := (G.1 a 4).toInt) (by omega) (aI_pu hG156 rfl e5 e155 (by omega)) (aI_pu hG163 c_G156_F_a_3 e5 (show ((0 : Int32)).toInt = 0 from by decide) (by omega)), c_G163_F_p0_0]
  exact st
theorem v_X2_goOn_164_4 {F : Nat → Nat → Nat} (p0 : Nat) (G : XG) (G163 : XG)
    (hro : RO (vw (G.2.1 (F p0 0))) (aI (G.2.1 (F p0 1))))
    (c_G163_F_p0_0 : G163.2.1 (F p0 0) = G.2.1 (F p0 0))
    (c_G163_F_p0_1 : G163.2.1 (F p0 1) = G.2.1 (F p0 1)) :
    RO (vw (G163.2.1 (F p0 0))) (aI (G163.2.1 (F p0 1))) := by
  rw [c_G163_F_p0_0, c_G163_F_p0_1]
  first | exact oq92a | exact hro
theorem v_X2_goOn_164_5 {K : Nat → Nat} {F : Nat → Nat → Nat} (a : Nat) (p0 : Nat) (p1 : Nat) (q47 : Nat) (G156 : XG) (G : XG) (x5 : Int32) (x155 : Int32) (G163 : XG) (x65 : Int32)
    (ha : K a = 4)
    (hp0 : K p0 = 8)
    (hp1 : K p1 = 2)
    (hG156 : G156 = cput G (F a 2) x5.toNatClampNeg x155)
    (hG163 : G163 = cput G156 (F a 3) x5.toNatClampNeg 0)
    (bkn : BKr K G (G.2.2.1 (F p1 0)))
    (hac : ACo G (G.2.2.1 (F p1 0)))
    (hiv : CIv (gst (G.2.1 (F a 0)) (G.2.1 (F a 1)) (G.2.1 (F a 2)) (G.2.1 (F a 3)) (Int.toNat (((G.1 a 4).toInt))), (vw (G.2.1 (F p0 0)))))
    (hcz : CZ (clsA G (G.2.2.1 (F p1 0))) (gst (G.2.1 (F a 0)) (G.2.1 (F a 1)) (G.2.1 (F a 2)) (G.2.1 (F a 3)) (Int.toNat (((G.1 a 4).toInt))), (vw (G.2.1 (F p0 0)))).1)
    (e5 : x5.toInt = (((G.1 a 4).toInt) - (1 : Int)))
    (hs47 : G.2.2.1 (F p1 0) ((aI (G.2.1 (F a 2)) (((G.1 a 4).toInt) - 1))).toNat = some q47)
    (e155 : x155.toInt = ((aI (G.2.1 (F a 2)) (((G.1 a 4).toInt) - 1)) + (1 : Int)))
    (e0 : 1 ≤ ((G.1 a 4).toInt) ∧ ((G.1 a 4).toInt) ≤ 90)
    (z0 : ((0 ≤ (aI (G.2.1 (F a 0)) (((G.1 a 4).toInt) - 1)) ∧ (aI (G.2.1 (F a 0)) (((G.1 a 4).toInt) - 1)) < 3) ∧ (0 ≤ (aI (G.2.1 (F a 1)) (((G.1 a 4).toInt) - 1)) ∧ (aI (G.2.1 (F a 1)) (((G.1 a 4).toInt) - 1)) < 30) ∧ (0 ≤ (aI (G.2.1 (F a 2)) (((G.1 a 4).toInt) - 1)) ∧ (aI (G.2.1 (F a 2)) (((G.1 a 4).toInt) - 1)) ≤ 12) ∧ (0 ≤ (aI (G.2.1 (F a 3)) (((G.1 a 4).toInt) - 1)) ∧ (aI (G.2.1 (F a 3)) (((G.1 a 4).toInt) - 1)) ≤ 30)) ∧ ((G.1 a 4).toInt) + (pn (vw (G.2.1 (F p0 0)))) ≤ 90)
    (c8 : ¬ ((((G.1 a 4).toInt) - (1 : Int)) < 0))
    (c14 : (((G.1 a 4).toInt) - (1 : Int)) < (90 : Int))
    (c26 : (aI (G.2.1 (F a 2)) (((G.1 a 4).toInt) - 1)) < (12 : Int))
    (ht47 : 0 ≤ (aI (G.2.1 (F a 2)) (((G.1 a 4).toInt) - 1)) ∧ (aI (G.2.1 (F a 2)) (((G.1 a 4).toInt) - 1)) < 12)
    (t65 : ((((G.1 q47 0).toInt) = 1 ∧ ((G.1 q47 4).toInt) = (aI (G.2.1 (F a 0)) (((G.1 a 4).toInt) - 1)) ∧ ((G.1 q47 7).toInt) ≠ 0) ∧ x65.toInt = 1) ∨ (¬ (((G.1 q47 0).toInt) = 1 ∧ ((G.1 q47 4).toInt) = (aI (G.2.1 (F a 0)) (((G.1 a 4).toInt) - 1)) ∧ ((G.1 q47 7).toInt) ≠ 0) ∧ x65.toInt = 0))
    (c68 : x65.toInt = 0)
    (c_G156_F_a_3 : G156.2.1 (F a 3) = G.2.1 (F a 3))
    (c_G163_F_a_0 : G163.2.1 (F a 0) = G.2.1 (F a 0))
    (c_G163_F_a_1 : G163.2.1 (F a 1) = G.2.1 (F a 1))
    (c_G163_F_a_2 : G163.2.1 (F a 2) = G156.2.1 (F a 2))
    (c_G163_F_p0_0 : G163.2.1 (F p0 0) = G.2.1 (F p0 0))
    (d_G163_a_4 : G163.1 a 4 = G.1 a 4) :
    CGo (clsA G (G.2.2.1 (F p1 0))) (clsT G (G.2.2.1 (F p1 0))) (clsC G (G.2.2.1 (F p1 0))) (gst (G.2.1 (F a 0)) (G.2.1 (F a 1)) (G.2.1 (F a 2)) (G.2.1 (F a 3)) (Int.toNat (((G.1 a 4).toInt))), (vw (G.2.1 (F p0 0)))) (gst (G163.2.1 (F a 0)) (G163.2.1 (F a 1)) (G163.2.1 (F a 2)) (G163.2.1 (F a 3)) (Int.toNat (((G163.1 a 4).toInt))), (vw (G163.2.1 (F p0 0)))) := by
  have t9 := gst_p (a := G.2.1 (F a 0)) (b := G.2.1 (F a 1)) (c := G.2.1 (F a 2)) (d := G.2.1 (F a 3)) (n := (G.1 a 4).toInt) (by omega)
  rw [t9] at hiv hcz ⊢
  have hq : G.2.2.1 (F p1 0) ((aI (G.2.1 (F a 2)) ((G.1 a 4).toInt - 1))).toNat = some q47 := hs47
  have as := clsA_s (G := G) (t := (aI (G.2.1 (F a 0)) ((G.1 a 4).toInt - 1))) hq
  have ac := hac ((aI (G.2.1 (F a 2)) ((G.1 a 4).toInt - 1))).toNat q47 (by omega) hq
  have a0 : ¬ (0 < clsA G (G.2.2.1 (F p1 0)) (aI (G.2.1 (F a 2)) ((G.1 a 4).toInt - 1)) (aI (G.2.1 (F a 0)) ((G.1 a 4).toInt - 1))) := by rw [as]; split <;> omega
  have st := cgo_nx (clsTo bkn) hiv hcz (by omega) a0
  rw [d_G163_a_4, c_G163_F_a_0, c_G163_F_a_1, c_G163_F_a_2, gst_u (n := (G.1 a 4).toInt) (by omega) (aI_pu hG156 rfl e5 e155 (by omega)) (aI_pu hG163 c_G156_F_a_3 e5 (show ((0 : Int32)).toInt = 0 from by decide) (by omega)), c_G163_F_p0_0]
  exact st
theorem v_X2_goOn_164_6 {F : Nat → Nat → Nat} (p0 : Nat) (G : XG) (G163 : XG)
    (hro : RO (vw (G.2.1 (F p0 0))) (aI (G.2.1 (F p0 1))))
    (c_G163_F_p0_0 : G163.2.1 (F p0 0) = G.2.1 (F p0 0))
    (c_G163_F_p0_1 : G163.2.1 (F p0 1) = G.2.1 (F p0 1)) :
    RO (vw (G163.2.1 (F p0 0))) (aI (G163.2.1 (F p0 1))) := by
  rw [c_G163_F_p0_0, c_G163_F_p0_1]
  first | exact oq92a | exact hro
theorem v_X2_goOn_113_7 {K : Nat → Nat} {F : Nat → Nat → Nat} (a : Nat) (p0 : Nat) (p1 : Nat) (q47 : Nat) (G : XG) (x65 : Int32)
    (ha : K a = 4)
    (hp0 : K p0 = 8)
    (hp1 : K p1 = 2)
    (bkn : BKr K G (G.2.2.1 (F p1 0)))
    (hcz : CZ (clsA G (G.2.2.1 (F p1 0))) (gst (G.2.1 (F a 0)) (G.2.1 (F a 1)) (G.2.1 (F a 2)) (G.2.1 (F a 3)) (Int.toNat (((G.1 a 4).toInt))), (vw (G.2.1 (F p0 0)))).1)
    (hs47 : G.2.2.1 (F p1 0) ((aI (G.2.1 (F a 2)) (((G.1 a 4).toInt) - 1))).toNat = some q47)
    (e0 : 1 ≤ ((G.1 a 4).toInt) ∧ ((G.1 a 4).toInt) ≤ 90)
    (z0 : ((0 ≤ (aI (G.2.1 (F a 0)) (((G.1 a 4).toInt) - 1)) ∧ (aI (G.2.1 (F a 0)) (((G.1 a 4).toInt) - 1)) < 3) ∧ (0 ≤ (aI (G.2.1 (F a 1)) (((G.1 a 4).toInt) - 1)) ∧ (aI (G.2.1 (F a 1)) (((G.1 a 4).toInt) - 1)) < 30) ∧ (0 ≤ (aI (G.2.1 (F a 2)) (((G.1 a 4).toInt) - 1)) ∧ (aI (G.2.1 (F a 2)) (((G.1 a 4).toInt) - 1)) ≤ 12) ∧ (0 ≤ (aI (G.2.1 (F a 3)) (((G.1 a 4).toInt) - 1)) ∧ (aI (G.2.1 (F a 3)) (((G.1 a 4).toInt) - 1)) ≤ 30)) ∧ ((G.1 a 4).toInt) + (pn (vw (G.2.1 (F p0 0)))) ≤ 90)
    (c8 : ¬ ((((G.1 a 4).toInt) - (1 : Int)) < 0))
    (c14 : (((G.1 a 4).toInt) - (1 : Int)) < (90 : Int))
    (c26 : (aI (G.2.1 (F a 2)) (((G.1 a 4).toInt) - 1)) < (12 : Int))
    (ht47 : 0 ≤ (aI (G.2.1 (F a 2)) (((G.1 a 4).toInt) - 1)) ∧ (aI (G.2.1 (F a 2)) (((G.1 a 4).toInt) - 1)) < 12)
    (t65 : ((((G.1 q47 0).toInt) = 1 ∧ ((G.1 q47 4).toInt) = (aI (G.2.1 (F a 0)) (((G.1 a 4).toInt) - 1)) ∧ ((G.1 q47 7).toInt) ≠ 0) ∧ x65.toInt = 1) ∨ (¬ (((G.1 q47 0).toInt) = 1 ∧ ((G.1 q47 4).toInt) = (aI (G.2.1 (F a 0)) (((G.1 a 4).toInt) - 1)) ∧ ((G.1 q47 7).toInt) ≠ 0) ∧ x65.toInt = 0))
    (c68 : ¬ (x65.toInt = 0))
    (z71 : (0 ≤ ((G.1 q47 2).toInt) ∧ ((G.1 q47 2).toInt) ≤ 2) ∧ (0 ≤ ((G.1 q47 3).toInt) ∧ ((G.1 q47 3).toInt) ≤ 2))
    (c77 : ((G.1 q47 7).toInt) ≠ (2 : Int)) :
    RW (G.1 q47) := by
  exact (bkn _ q47 (by omega) hs47).2
theorem v_X2_goOn_164_8 {K : Nat → Nat} {F : Nat → Nat → Nat} (a : Nat) (p0 : Nat) (p1 : Nat) (q47 : Nat) (G156 : XG) (G : XG) (x5 : Int32) (x155 : Int32) (G163 : XG) (x113 : Int32) (x65 : Int32)
    (ha : K a = 4)
    (hp0 : K p0 = 8)
    (hp1 : K p1 = 2)
    (hG156 : G156 = cput G (F a 2) x5.toNatClampNeg x155)
    (hG163 : G163 = cput G156 (F a 3) x5.toNatClampNeg 0)
    (bkn : BKr K G (G.2.2.1 (F p1 0)))
    (hac : ACo G (G.2.2.1 (F p1 0)))
    (hiv : CIv (gst (G.2.1 (F a 0)) (G.2.1 (F a 1)) (G.2.1 (F a 2)) (G.2.1 (F a 3)) (Int.toNat (((G.1 a 4).toInt))), (vw (G.2.1 (F p0 0)))))
    (hcz : CZ (clsA G (G.2.2.1 (F p1 0))) (gst (G.2.1 (F a 0)) (G.2.1 (F a 1)) (G.2.1 (F a 2)) (G.2.1 (F a 3)) (Int.toNat (((G.1 a 4).toInt))), (vw (G.2.1 (F p0 0)))).1)
    (e5 : x5.toInt = (((G.1 a 4).toInt) - (1 : Int)))
    (hs47 : G.2.2.1 (F p1 0) ((aI (G.2.1 (F a 2)) (((G.1 a 4).toInt) - 1))).toNat = some q47)
    (oq113 : (x113.toInt = -1 ∧ ∀ j : Int, (aI (G.2.1 (F a 3)) (((G.1 a 4).toInt) - 1)) ≤ j → j < 30 → cel (vw (G.2.1 (F p0 0))) ((G.1 q47 2).toInt) j ((G.1 q47 3).toInt) ≠ (aI (G.2.1 (F a 1)) (((G.1 a 4).toInt) - 1))) ∨ (((aI (G.2.1 (F a 3)) (((G.1 a 4).toInt) - 1)) ≤ x113.toInt ∧ x113.toInt < 30) ∧ cel (vw (G.2.1 (F p0 0))) ((G.1 q47 2).toInt) x113.toInt ((G.1 q47 3).toInt) = (aI (G.2.1 (F a 1)) (((G.1 a 4).toInt) - 1)) ∧ ∀ j : Int, (aI (G.2.1 (F a 3)) (((G.1 a 4).toInt) - 1)) ≤ j → j < x113.toInt → cel (vw (G.2.1 (F p0 0))) ((G.1 q47 2).toInt) j ((G.1 q47 3).toInt) ≠ (aI (G.2.1 (F a 1)) (((G.1 a 4).toInt) - 1))))
    (e155 : x155.toInt = ((aI (G.2.1 (F a 2)) (((G.1 a 4).toInt) - 1)) + (1 : Int)))
    (e0 : 1 ≤ ((G.1 a 4).toInt) ∧ ((G.1 a 4).toInt) ≤ 90)
    (z0 : ((0 ≤ (aI (G.2.1 (F a 0)) (((G.1 a 4).toInt) - 1)) ∧ (aI (G.2.1 (F a 0)) (((G.1 a 4).toInt) - 1)) < 3) ∧ (0 ≤ (aI (G.2.1 (F a 1)) (((G.1 a 4).toInt) - 1)) ∧ (aI (G.2.1 (F a 1)) (((G.1 a 4).toInt) - 1)) < 30) ∧ (0 ≤ (aI (G.2.1 (F a 2)) (((G.1 a 4).toInt) - 1)) ∧ (aI (G.2.1 (F a 2)) (((G.1 a 4).toInt) - 1)) ≤ 12) ∧ (0 ≤ (aI (G.2.1 (F a 3)) (((G.1 a 4).toInt) - 1)) ∧ (aI (G.2.1 (F a 3)) (((G.1 a 4).toInt) - 1)) ≤ 30)) ∧ ((G.1 a 4).toInt) + (pn (vw (G.2.1 (F p0 0)))) ≤ 90)
    (c8 : ¬ ((((G.1 a 4).toInt) - (1 : Int)) < 0))
    (c14 : (((G.1 a 4).toInt) - (1 : Int)) < (90 : Int))
    (c26 : (aI (G.2.1 (F a 2)) (((G.1 a 4).toInt) - 1)) < (12 : Int))
    (ht47 : 0 ≤ (aI (G.2.1 (F a 2)) (((G.1 a 4).toInt) - 1)) ∧ (aI (G.2.1 (F a 2)) (((G.1 a 4).toInt) - 1)) < 12)
    (t65 : ((((G.1 q47 0).toInt) = 1 ∧ ((G.1 q47 4).toInt) = (aI (G.2.1 (F a 0)) (((G.1 a 4).toInt) - 1)) ∧ ((G.1 q47 7).toInt) ≠ 0) ∧ x65.toInt = 1) ∨ (¬ (((G.1 q47 0).toInt) = 1 ∧ ((G.1 q47 4).toInt) = (aI (G.2.1 (F a 0)) (((G.1 a 4).toInt) - 1)) ∧ ((G.1 q47 7).toInt) ≠ 0) ∧ x65.toInt = 0))
    (c68 : ¬ (x65.toInt = 0))
    (z71 : (0 ≤ ((G.1 q47 2).toInt) ∧ ((G.1 q47 2).toInt) ≤ 2) ∧ (0 ≤ ((G.1 q47 3).toInt) ∧ ((G.1 q47 3).toInt) ≤ 2))
    (c77 : ((G.1 q47 7).toInt) ≠ (2 : Int))
    (t113 : -1 ≤ x113.toInt ∧ x113.toInt < 30)
    (c121 : x113.toInt = (-1 : Int))
    (c_G156_F_a_3 : G156.2.1 (F a 3) = G.2.1 (F a 3))
    (c_G163_F_a_0 : G163.2.1 (F a 0) = G.2.1 (F a 0))
    (c_G163_F_a_1 : G163.2.1 (F a 1) = G.2.1 (F a 1))
    (c_G163_F_a_2 : G163.2.1 (F a 2) = G156.2.1 (F a 2))
    (c_G163_F_p0_0 : G163.2.1 (F p0 0) = G.2.1 (F p0 0))
    (d_G163_a_4 : G163.1 a 4 = G.1 a 4) :
    CGo (clsA G (G.2.2.1 (F p1 0))) (clsT G (G.2.2.1 (F p1 0))) (clsC G (G.2.2.1 (F p1 0))) (gst (G.2.1 (F a 0)) (G.2.1 (F a 1)) (G.2.1 (F a 2)) (G.2.1 (F a 3)) (Int.toNat (((G.1 a 4).toInt))), (vw (G.2.1 (F p0 0)))) (gst (G163.2.1 (F a 0)) (G163.2.1 (F a 1)) (G163.2.1 (F a 2)) (G163.2.1 (F a 3)) (Int.toNat (((G163.1 a 4).toInt))), (vw (G163.2.1 (F p0 0)))) := by
  have t9 := gst_p (a := G.2.1 (F a 0)) (b := G.2.1 (F a 1)) (c := G.2.1 (F a 2)) (d := G.2.1 (F a 3)) (n := (G.1 a 4).toInt) (by omega)
  rw [t9] at hiv hcz ⊢
  have hq : G.2.2.1 (F p1 0) ((aI (G.2.1 (F a 2)) ((G.1 a 4).toInt - 1))).toNat = some q47 := hs47
  have as := clsA_s (G := G) (t := (aI (G.2.1 (F a 0)) ((G.1 a 4).toInt - 1))) hq
  have ac := hac ((aI (G.2.1 (F a 2)) ((G.1 a 4).toInt - 1))).toNat q47 (by omega) hq
  have ts := clsT_s (G := G) hq ⟨by omega, by omega, by omega⟩
  rw [if_pos (by omega)] at as
  rcases oq113 with ⟨h0, h1⟩ | ⟨h1, -⟩
  · rw [← ts.1, ← ts.2] at h1
    have st := cgo_no (clsTo bkn) hiv hcz (by omega) (by omega) h1
    rw [d_G163_a_4, c_G163_F_a_0, c_G163_F_a_1, c_G163_F_a_2, gst_u (n := (G.1 a 4).toInt) (by omega) (aI_pu hG156 rfl e5 e155 (by omega)) (aI_pu hG163 c_G156_F_a_3 e5 (show ((0 : Int32)).toInt = 0 from by decide) (by omega)), c_G163_F_p0_0]
    exact st
  · exfalso; omega
theorem v_X2_goOn_164_9 {F : Nat → Nat → Nat} (p0 : Nat) (G : XG) (G163 : XG)
    (hro : RO (vw (G.2.1 (F p0 0))) (aI (G.2.1 (F p0 1))))
    (c_G163_F_p0_0 : G163.2.1 (F p0 0) = G.2.1 (F p0 0))
    (c_G163_F_p0_1 : G163.2.1 (F p0 1) = G.2.1 (F p0 1)) :
    RO (vw (G163.2.1 (F p0 0))) (aI (G163.2.1 (F p0 1))) := by
  rw [c_G163_F_p0_0, c_G163_F_p0_1]
  first | exact oq92a | exact hro
theorem v_X2_goOn_124_10 {K : Nat → Nat} {F : Nat → Nat → Nat} (a : Nat) (p0 : Nat) (p1 : Nat) (q47 : Nat) (G : XG) (x113 : Int32) (x65 : Int32)
    (ha : K a = 4)
    (hp0 : K p0 = 8)
    (hp1 : K p1 = 2)
    (hro : RO (vw (G.2.1 (F p0 0))) (aI (G.2.1 (F p0 1))))
    (hcz : CZ (clsA G (G.2.2.1 (F p1 0))) (gst (G.2.1 (F a 0)) (G.2.1 (F a 1)) (G.2.1 (F a 2)) (G.2.1 (F a 3)) (Int.toNat (((G.1 a 4).toInt))), (vw (G.2.1 (F p0 0)))).1)
    (hs47 : G.2.2.1 (F p1 0) ((aI (G.2.1 (F a 2)) (((G.1 a 4).toInt) - 1))).toNat = some q47)
    (oq113 : (x113.toInt = -1 ∧ ∀ j : Int, (aI (G.2.1 (F a 3)) (((G.1 a 4).toInt) - 1)) ≤ j → j < 30 → cel (vw (G.2.1 (F p0 0))) ((G.1 q47 2).toInt) j ((G.1 q47 3).toInt) ≠ (aI (G.2.1 (F a 1)) (((G.1 a 4).toInt) - 1))) ∨ (((aI (G.2.1 (F a 3)) (((G.1 a 4).toInt) - 1)) ≤ x113.toInt ∧ x113.toInt < 30) ∧ cel (vw (G.2.1 (F p0 0))) ((G.1 q47 2).toInt) x113.toInt ((G.1 q47 3).toInt) = (aI (G.2.1 (F a 1)) (((G.1 a 4).toInt) - 1)) ∧ ∀ j : Int, (aI (G.2.1 (F a 3)) (((G.1 a 4).toInt) - 1)) ≤ j → j < x113.toInt → cel (vw (G.2.1 (F p0 0))) ((G.1 q47 2).toInt) j ((G.1 q47 3).toInt) ≠ (aI (G.2.1 (F a 1)) (((G.1 a 4).toInt) - 1))))
    (e0 : 1 ≤ ((G.1 a 4).toInt) ∧ ((G.1 a 4).toInt) ≤ 90)
    (z0 : ((0 ≤ (aI (G.2.1 (F a 0)) (((G.1 a 4).toInt) - 1)) ∧ (aI (G.2.1 (F a 0)) (((G.1 a 4).toInt) - 1)) < 3) ∧ (0 ≤ (aI (G.2.1 (F a 1)) (((G.1 a 4).toInt) - 1)) ∧ (aI (G.2.1 (F a 1)) (((G.1 a 4).toInt) - 1)) < 30) ∧ (0 ≤ (aI (G.2.1 (F a 2)) (((G.1 a 4).toInt) - 1)) ∧ (aI (G.2.1 (F a 2)) (((G.1 a 4).toInt) - 1)) ≤ 12) ∧ (0 ≤ (aI (G.2.1 (F a 3)) (((G.1 a 4).toInt) - 1)) ∧ (aI (G.2.1 (F a 3)) (((G.1 a 4).toInt) - 1)) ≤ 30)) ∧ ((G.1 a 4).toInt) + (pn (vw (G.2.1 (F p0 0)))) ≤ 90)
    (c8 : ¬ ((((G.1 a 4).toInt) - (1 : Int)) < 0))
    (c14 : (((G.1 a 4).toInt) - (1 : Int)) < (90 : Int))
    (c26 : (aI (G.2.1 (F a 2)) (((G.1 a 4).toInt) - 1)) < (12 : Int))
    (ht47 : 0 ≤ (aI (G.2.1 (F a 2)) (((G.1 a 4).toInt) - 1)) ∧ (aI (G.2.1 (F a 2)) (((G.1 a 4).toInt) - 1)) < 12)
    (t65 : ((((G.1 q47 0).toInt) = 1 ∧ ((G.1 q47 4).toInt) = (aI (G.2.1 (F a 0)) (((G.1 a 4).toInt) - 1)) ∧ ((G.1 q47 7).toInt) ≠ 0) ∧ x65.toInt = 1) ∨ (¬ (((G.1 q47 0).toInt) = 1 ∧ ((G.1 q47 4).toInt) = (aI (G.2.1 (F a 0)) (((G.1 a 4).toInt) - 1)) ∧ ((G.1 q47 7).toInt) ≠ 0) ∧ x65.toInt = 0))
    (c68 : ¬ (x65.toInt = 0))
    (z71 : (0 ≤ ((G.1 q47 2).toInt) ∧ ((G.1 q47 2).toInt) ≤ 2) ∧ (0 ≤ ((G.1 q47 3).toInt) ∧ ((G.1 q47 3).toInt) ≤ 2))
    (c77 : ((G.1 q47 7).toInt) ≠ (2 : Int))
    (t113 : -1 ≤ x113.toInt ∧ x113.toInt < 30)
    (c121 : ¬ (x113.toInt = (-1 : Int))) :
    1 ≤ (pn (vw (G.2.1 (F p0 0)))) := by
  rcases oq113 with h | ⟨h1, h2, h3⟩
  · exfalso; omega
  · exact pn_pos hro.rc (by rw [h2]; omega)
theorem v_X2_goOn_143_11 {F : Nat → Nat → Nat} (p0 : Nat) (G133 : XG) (G : XG)
    (hro : RO (vw (G.2.1 (F p0 0))) (aI (G.2.1 (F p0 1))))
    (c_G133_F_p0_0 : G133.2.1 (F p0 0) = G.2.1 (F p0 0))
    (c_G133_F_p0_1 : G133.2.1 (F p0 1) = G.2.1 (F p0 1)) :
    RO (vw (G133.2.1 (F p0 0))) (aI (G133.2.1 (F p0 1))) := by simp only [c_G133_F_p0_0, c_G133_F_p0_1]; assumption
theorem v_X2_goOn_146_12 {K : Nat → Nat} {F : Nat → Nat → Nat} (a : Nat) (p0 : Nat) (p1 : Nat) (q47 : Nat) (G133 : XG) (G : XG) (x5 : Int32) (x132 : Int32) (G143 : XG) (x113 : Int32) (x65 : Int32)
    (ha : K a = 4)
    (hp0 : K p0 = 8)
    (hp1 : K p1 = 2)
    (hG133 : G133 = cput G (F a 3) x5.toNatClampNeg x132)
    (bkn : BKr K G (G.2.2.1 (F p1 0)))
    (hac : ACo G (G.2.2.1 (F p1 0)))
    (hiv : CIv (gst (G.2.1 (F a 0)) (G.2.1 (F a 1)) (G.2.1 (F a 2)) (G.2.1 (F a 3)) (Int.toNat (((G.1 a 4).toInt))), (vw (G.2.1 (F p0 0)))))
    (hcz : CZ (clsA G (G.2.2.1 (F p1 0))) (gst (G.2.1 (F a 0)) (G.2.1 (F a 1)) (G.2.1 (F a 2)) (G.2.1 (F a 3)) (Int.toNat (((G.1 a 4).toInt))), (vw (G.2.1 (F p0 0)))).1)
    (e5 : x5.toInt = (((G.1 a 4).toInt) - (1 : Int)))
    (hs47 : G.2.2.1 (F p1 0) ((aI (G.2.1 (F a 2)) (((G.1 a 4).toInt) - 1))).toNat = some q47)
    (oq113 : (x113.toInt = -1 ∧ ∀ j : Int, (aI (G.2.1 (F a 3)) (((G.1 a 4).toInt) - 1)) ≤ j → j < 30 → cel (vw (G.2.1 (F p0 0))) ((G.1 q47 2).toInt) j ((G.1 q47 3).toInt) ≠ (aI (G.2.1 (F a 1)) (((G.1 a 4).toInt) - 1))) ∨ (((aI (G.2.1 (F a 3)) (((G.1 a 4).toInt) - 1)) ≤ x113.toInt ∧ x113.toInt < 30) ∧ cel (vw (G.2.1 (F p0 0))) ((G.1 q47 2).toInt) x113.toInt ((G.1 q47 3).toInt) = (aI (G.2.1 (F a 1)) (((G.1 a 4).toInt) - 1)) ∧ ∀ j : Int, (aI (G.2.1 (F a 3)) (((G.1 a 4).toInt) - 1)) ≤ j → j < x113.toInt → cel (vw (G.2.1 (F p0 0))) ((G.1 q47 2).toInt) j ((G.1 q47 3).toInt) ≠ (aI (G.2.1 (F a 1)) (((G.1 a 4).toInt) - 1))))
    (e132 : x132.toInt = (x113.toInt + (1 : Int)))
    (oq143 : ∀ z : Int, 0 ≤ z → aI (G143.2.1 (F a 0)) z = if z = ((G.1 a 4).toInt) then ((G.1 q47 2).toInt) else aI (G.2.1 (F a 0)) z)
    (oq143a : ∀ z : Int, 0 ≤ z → aI (G143.2.1 (F a 1)) z = if z = ((G.1 a 4).toInt) then x113.toInt else aI (G.2.1 (F a 1)) z)
    (oq143b : ∀ z : Int, 0 ≤ z → aI (G143.2.1 (F a 2)) z = if z = ((G.1 a 4).toInt) then 0 else aI (G.2.1 (F a 2)) z)
    (oq143c : ∀ z : Int, 0 ≤ z → aI (G143.2.1 (F a 3)) z = if z = ((G.1 a 4).toInt) then 0 else aI (G133.2.1 (F a 3)) z)
    (oq143d : (vw (G143.2.1 (F p0 0))) = rfil (vw (G.2.1 (F p0 0))) ((G.1 q47 2).toInt) x113.toInt (-2000) 3)
    (e0 : 1 ≤ ((G.1 a 4).toInt) ∧ ((G.1 a 4).toInt) ≤ 90)
    (z0 : ((0 ≤ (aI (G.2.1 (F a 0)) (((G.1 a 4).toInt) - 1)) ∧ (aI (G.2.1 (F a 0)) (((G.1 a 4).toInt) - 1)) < 3) ∧ (0 ≤ (aI (G.2.1 (F a 1)) (((G.1 a 4).toInt) - 1)) ∧ (aI (G.2.1 (F a 1)) (((G.1 a 4).toInt) - 1)) < 30) ∧ (0 ≤ (aI (G.2.1 (F a 2)) (((G.1 a 4).toInt) - 1)) ∧ (aI (G.2.1 (F a 2)) (((G.1 a 4).toInt) - 1)) ≤ 12) ∧ (0 ≤ (aI (G.2.1 (F a 3)) (((G.1 a 4).toInt) - 1)) ∧ (aI (G.2.1 (F a 3)) (((G.1 a 4).toInt) - 1)) ≤ 30)) ∧ ((G.1 a 4).toInt) + (pn (vw (G.2.1 (F p0 0)))) ≤ 90)
    (c8 : ¬ ((((G.1 a 4).toInt) - (1 : Int)) < 0))
    (c14 : (((G.1 a 4).toInt) - (1 : Int)) < (90 : Int))
    (c26 : (aI (G.2.1 (F a 2)) (((G.1 a 4).toInt) - 1)) < (12 : Int))
    (ht47 : 0 ≤ (aI (G.2.1 (F a 2)) (((G.1 a 4).toInt) - 1)) ∧ (aI (G.2.1 (F a 2)) (((G.1 a 4).toInt) - 1)) < 12)
    (t65 : ((((G.1 q47 0).toInt) = 1 ∧ ((G.1 q47 4).toInt) = (aI (G.2.1 (F a 0)) (((G.1 a 4).toInt) - 1)) ∧ ((G.1 q47 7).toInt) ≠ 0) ∧ x65.toInt = 1) ∨ (¬ (((G.1 q47 0).toInt) = 1 ∧ ((G.1 q47 4).toInt) = (aI (G.2.1 (F a 0)) (((G.1 a 4).toInt) - 1)) ∧ ((G.1 q47 7).toInt) ≠ 0) ∧ x65.toInt = 0))
    (c68 : ¬ (x65.toInt = 0))
    (z71 : (0 ≤ ((G.1 q47 2).toInt) ∧ ((G.1 q47 2).toInt) ≤ 2) ∧ (0 ≤ ((G.1 q47 3).toInt) ∧ ((G.1 q47 3).toInt) ≤ 2))
    (c77 : ((G.1 q47 7).toInt) ≠ (2 : Int))
    (t113 : -1 ≤ x113.toInt ∧ x113.toInt < 30)
    (c121 : ¬ (x113.toInt = (-1 : Int)))
    (pp124 : 1 ≤ (pn (vw (G.2.1 (F p0 0)))))
    (t143 : ((G143.1 a 4).toInt) = ((G.1 a 4).toInt) + 1) :
    CGo (clsA G (G.2.2.1 (F p1 0))) (clsT G (G.2.2.1 (F p1 0))) (clsC G (G.2.2.1 (F p1 0))) (gst (G.2.1 (F a 0)) (G.2.1 (F a 1)) (G.2.1 (F a 2)) (G.2.1 (F a 3)) (Int.toNat (((G.1 a 4).toInt))), (vw (G.2.1 (F p0 0)))) (gst (G143.2.1 (F a 0)) (G143.2.1 (F a 1)) (G143.2.1 (F a 2)) (G143.2.1 (F a 3)) (Int.toNat (((G143.1 a 4).toInt))), (vw (G143.2.1 (F p0 0)))) := by
  have t9 := gst_p (a := G.2.1 (F a 0)) (b := G.2.1 (F a 1)) (c := G.2.1 (F a 2)) (d := G.2.1 (F a 3)) (n := (G.1 a 4).toInt) (by omega)
  rw [t9] at hiv hcz ⊢
  have hq : G.2.2.1 (F p1 0) ((aI (G.2.1 (F a 2)) ((G.1 a 4).toInt - 1))).toNat = some q47 := hs47
  have as := clsA_s (G := G) (t := (aI (G.2.1 (F a 0)) ((G.1 a 4).toInt - 1))) hq
  have ac := hac ((aI (G.2.1 (F a 2)) ((G.1 a 4).toInt - 1))).toNat q47 (by omega) hq
  have ts := clsT_s (G := G) hq ⟨by omega, by omega, by omega⟩
  rw [if_pos (by omega)] at as
  rcases oq113 with h | ⟨h1, h2, h3⟩
  · exfalso; omega
  · rw [← ts.1, ← ts.2] at h2 h3
    have st := cgo_go (clsTo bkn) hiv hcz (by omega) (by omega) (by omega) h1 h3 h2
    rw [t143, gst_g (n := (G.1 a 4).toInt) (by omega) oq143 oq143a oq143b oq143c, oq143d, gst_n (n := (G.1 a 4).toInt) (by omega) (aI_pu hG133 rfl e5 e132 (by omega)), ← ts.1]
    exact st
theorem v_X2_goOn_146_13 {F : Nat → Nat → Nat} (p0 : Nat) (G143 : XG)
    (oq143e : RO (vw (G143.2.1 (F p0 0))) (aI (G143.2.1 (F p0 1)))) :
    RO (vw (G143.2.1 (F p0 0))) (aI (G143.2.1 (F p0 1))) := by
  exact oq143e
theorem v_X2_goOn_92_14 {F : Nat → Nat → Nat} (p0 : Nat) (G : XG)
    (hro : RO (vw (G.2.1 (F p0 0))) (aI (G.2.1 (F p0 1)))) :
    RO (vw (G.2.1 (F p0 0))) (aI (G.2.1 (F p0 1))) := by exact hro
theorem v_X2_goOn_92_15 {K : Nat → Nat} {F : Nat → Nat → Nat} (a : Nat) (p0 : Nat) (p1 : Nat) (q47 : Nat) (G : XG) (x65 : Int32)
    (ha : K a = 4)
    (hp0 : K p0 = 8)
    (hp1 : K p1 = 2)
    (bkn : BKr K G (G.2.2.1 (F p1 0)))
    (hcz : CZ (clsA G (G.2.2.1 (F p1 0))) (gst (G.2.1 (F a 0)) (G.2.1 (F a 1)) (G.2.1 (F a 2)) (G.2.1 (F a 3)) (Int.toNat (((G.1 a 4).toInt))), (vw (G.2.1 (F p0 0)))).1)
    (hs47 : G.2.2.1 (F p1 0) ((aI (G.2.1 (F a 2)) (((G.1 a 4).toInt) - 1))).toNat = some q47)
    (e0 : 1 ≤ ((G.1 a 4).toInt) ∧ ((G.1 a 4).toInt) ≤ 90)
    (z0 : ((0 ≤ (aI (G.2.1 (F a 0)) (((G.1 a 4).toInt) - 1)) ∧ (aI (G.2.1 (F a 0)) (((G.1 a 4).toInt) - 1)) < 3) ∧ (0 ≤ (aI (G.2.1 (F a 1)) (((G.1 a 4).toInt) - 1)) ∧ (aI (G.2.1 (F a 1)) (((G.1 a 4).toInt) - 1)) < 30) ∧ (0 ≤ (aI (G.2.1 (F a 2)) (((G.1 a 4).toInt) - 1)) ∧ (aI (G.2.1 (F a 2)) (((G.1 a 4).toInt) - 1)) ≤ 12) ∧ (0 ≤ (aI (G.2.1 (F a 3)) (((G.1 a 4).toInt) - 1)) ∧ (aI (G.2.1 (F a 3)) (((G.1 a 4).toInt) - 1)) ≤ 30)) ∧ ((G.1 a 4).toInt) + (pn (vw (G.2.1 (F p0 0)))) ≤ 90)
    (c8 : ¬ ((((G.1 a 4).toInt) - (1 : Int)) < 0))
    (c14 : (((G.1 a 4).toInt) - (1 : Int)) < (90 : Int))
    (c26 : (aI (G.2.1 (F a 2)) (((G.1 a 4).toInt) - 1)) < (12 : Int))
    (ht47 : 0 ≤ (aI (G.2.1 (F a 2)) (((G.1 a 4).toInt) - 1)) ∧ (aI (G.2.1 (F a 2)) (((G.1 a 4).toInt) - 1)) < 12)
    (t65 : ((((G.1 q47 0).toInt) = 1 ∧ ((G.1 q47 4).toInt) = (aI (G.2.1 (F a 0)) (((G.1 a 4).toInt) - 1)) ∧ ((G.1 q47 7).toInt) ≠ 0) ∧ x65.toInt = 1) ∨ (¬ (((G.1 q47 0).toInt) = 1 ∧ ((G.1 q47 4).toInt) = (aI (G.2.1 (F a 0)) (((G.1 a 4).toInt) - 1)) ∧ ((G.1 q47 7).toInt) ≠ 0) ∧ x65.toInt = 0))
    (c68 : ¬ (x65.toInt = 0))
    (z71 : (0 ≤ ((G.1 q47 2).toInt) ∧ ((G.1 q47 2).toInt) ≤ 2) ∧ (0 ≤ ((G.1 q47 3).toInt) ∧ ((G.1 q47 3).toInt) ≤ 2))
    (c77 : ¬ (((G.1 q47 7).toInt) ≠ (2 : Int))) :
    RW (G.1 q47) := by
  exact (bkn _ q47 (by omega) hs47).2
theorem v_X2_goOn_164_16 {K : Nat → Nat} {F : Nat → Nat → Nat} (a : Nat) (p0 : Nat) (p1 : Nat) (q47 : Nat) (G : XG) (G92 : XG) (G156 : XG) (x5 : Int32) (x155 : Int32) (G163 : XG) (x65 : Int32)
    (ha : K a = 4)
    (hp0 : K p0 = 8)
    (hp1 : K p1 = 2)
    (hG156 : G156 = cput G92 (F a 2) x5.toNatClampNeg x155)
    (hG163 : G163 = cput G156 (F a 3) x5.toNatClampNeg 0)
    (bkn : BKr K G (G.2.2.1 (F p1 0)))
    (hac : ACo G (G.2.2.1 (F p1 0)))
    (hiv : CIv (gst (G.2.1 (F a 0)) (G.2.1 (F a 1)) (G.2.1 (F a 2)) (G.2.1 (F a 3)) (Int.toNat (((G.1 a 4).toInt))), (vw (G.2.1 (F p0 0)))))
    (hcz : CZ (clsA G (G.2.2.1 (F p1 0))) (gst (G.2.1 (F a 0)) (G.2.1 (F a 1)) (G.2.1 (F a 2)) (G.2.1 (F a 3)) (Int.toNat (((G.1 a 4).toInt))), (vw (G.2.1 (F p0 0)))).1)
    (e5 : x5.toInt = (((G.1 a 4).toInt) - (1 : Int)))
    (hs47 : G.2.2.1 (F p1 0) ((aI (G.2.1 (F a 2)) (((G.1 a 4).toInt) - 1))).toNat = some q47)
    (oq92 : (vw (G92.2.1 (F p0 0))) = repl (vw (G.2.1 (F p0 0))) ((G.1 q47 2).toInt) ((G.1 q47 3).toInt) (aI (G.2.1 (F a 1)) (((G.1 a 4).toInt) - 1)) (-1000 : Int) 30)
    (e155 : x155.toInt = ((aI (G.2.1 (F a 2)) (((G.1 a 4).toInt) - 1)) + (1 : Int)))
    (e0 : 1 ≤ ((G.1 a 4).toInt) ∧ ((G.1 a 4).toInt) ≤ 90)
    (z0 : ((0 ≤ (aI (G.2.1 (F a 0)) (((G.1 a 4).toInt) - 1)) ∧ (aI (G.2.1 (F a 0)) (((G.1 a 4).toInt) - 1)) < 3) ∧ (0 ≤ (aI (G.2.1 (F a 1)) (((G.1 a 4).toInt) - 1)) ∧ (aI (G.2.1 (F a 1)) (((G.1 a 4).toInt) - 1)) < 30) ∧ (0 ≤ (aI (G.2.1 (F a 2)) (((G.1 a 4).toInt) - 1)) ∧ (aI (G.2.1 (F a 2)) (((G.1 a 4).toInt) - 1)) ≤ 12) ∧ (0 ≤ (aI (G.2.1 (F a 3)) (((G.1 a 4).toInt) - 1)) ∧ (aI (G.2.1 (F a 3)) (((G.1 a 4).toInt) - 1)) ≤ 30)) ∧ ((G.1 a 4).toInt) + (pn (vw (G.2.1 (F p0 0)))) ≤ 90)
    (c8 : ¬ ((((G.1 a 4).toInt) - (1 : Int)) < 0))
    (c14 : (((G.1 a 4).toInt) - (1 : Int)) < (90 : Int))
    (c26 : (aI (G.2.1 (F a 2)) (((G.1 a 4).toInt) - 1)) < (12 : Int))
    (ht47 : 0 ≤ (aI (G.2.1 (F a 2)) (((G.1 a 4).toInt) - 1)) ∧ (aI (G.2.1 (F a 2)) (((G.1 a 4).toInt) - 1)) < 12)
    (t65 : ((((G.1 q47 0).toInt) = 1 ∧ ((G.1 q47 4).toInt) = (aI (G.2.1 (F a 0)) (((G.1 a 4).toInt) - 1)) ∧ ((G.1 q47 7).toInt) ≠ 0) ∧ x65.toInt = 1) ∨ (¬ (((G.1 q47 0).toInt) = 1 ∧ ((G.1 q47 4).toInt) = (aI (G.2.1 (F a 0)) (((G.1 a 4).toInt) - 1)) ∧ ((G.1 q47 7).toInt) ≠ 0) ∧ x65.toInt = 0))
    (c68 : ¬ (x65.toInt = 0))
    (z71 : (0 ≤ ((G.1 q47 2).toInt) ∧ ((G.1 q47 2).toInt) ≤ 2) ∧ (0 ≤ ((G.1 q47 3).toInt) ∧ ((G.1 q47 3).toInt) ≤ 2))
    (c77 : ¬ (((G.1 q47 7).toInt) ≠ (2 : Int)))
    (c_G156_F_a_3 : G156.2.1 (F a 3) = G.2.1 (F a 3))
    (c_G163_F_a_0 : G163.2.1 (F a 0) = G.2.1 (F a 0))
    (c_G163_F_a_1 : G163.2.1 (F a 1) = G.2.1 (F a 1))
    (c_G163_F_a_2 : G163.2.1 (F a 2) = G156.2.1 (F a 2))
    (c_G163_F_p0_0 : G163.2.1 (F p0 0) = G92.2.1 (F p0 0))
    (c_G92_F_a_2 : G92.2.1 (F a 2) = G.2.1 (F a 2))
    (d_G163_a_4 : G163.1 a 4 = G.1 a 4) :
    CGo (clsA G (G.2.2.1 (F p1 0))) (clsT G (G.2.2.1 (F p1 0))) (clsC G (G.2.2.1 (F p1 0))) (gst (G.2.1 (F a 0)) (G.2.1 (F a 1)) (G.2.1 (F a 2)) (G.2.1 (F a 3)) (Int.toNat (((G.1 a 4).toInt))), (vw (G.2.1 (F p0 0)))) (gst (G163.2.1 (F a 0)) (G163.2.1 (F a 1)) (G163.2.1 (F a 2)) (G163.2.1 (F a 3)) (Int.toNat (((G163.1 a 4).toInt))), (vw (G163.2.1 (F p0 0)))) := by
  have t9 := gst_p (a := G.2.1 (F a 0)) (b := G.2.1 (F a 1)) (c := G.2.1 (F a 2)) (d := G.2.1 (F a 3)) (n := (G.1 a 4).toInt) (by omega)
  rw [t9] at hiv hcz ⊢
  have hq : G.2.2.1 (F p1 0) ((aI (G.2.1 (F a 2)) ((G.1 a 4).toInt - 1))).toNat = some q47 := hs47
  have as := clsA_s (G := G) (t := (aI (G.2.1 (F a 0)) ((G.1 a 4).toInt - 1))) hq
  have ac := hac ((aI (G.2.1 (F a 2)) ((G.1 a 4).toInt - 1))).toNat q47 (by omega) hq
  have ts := clsT_s (G := G) hq ⟨by omega, by omega, by omega⟩
  rw [if_pos (by omega)] at as
  have st := cgo_cl (clsTo bkn) hiv hcz (by omega) (by omega)
  rw [ts.1, ts.2, ← oq92] at st
  rw [d_G163_a_4, c_G163_F_a_0, c_G163_F_a_1, c_G163_F_a_2, gst_u (n := (G.1 a 4).toInt) (by omega) (aI_pu hG156 c_G92_F_a_2 e5 e155 (by omega)) (aI_pu hG163 c_G156_F_a_3 e5 (show ((0 : Int32)).toInt = 0 from by decide) (by omega)), c_G163_F_p0_0]
  exact st
theorem v_X2_goOn_164_17 {F : Nat → Nat → Nat} (p0 : Nat) (G : XG) (G92 : XG) (G163 : XG)
    (hro : RO (vw (G.2.1 (F p0 0))) (aI (G.2.1 (F p0 1))))
    (oq92a : RO (vw (G92.2.1 (F p0 0))) (aI (G92.2.1 (F p0 1))))
    (c_G163_F_p0_0 : G163.2.1 (F p0 0) = G92.2.1 (F p0 0))
    (c_G163_F_p0_1 : G163.2.1 (F p0 1) = G92.2.1 (F p0 1)) :
    RO (vw (G163.2.1 (F p0 0))) (aI (G163.2.1 (F p0 1))) := by
  rw [c_G163_F_p0_0, c_G163_F_p0_1]
  first | exact oq92a | exact hro
theorem v_X2_goOn_39_18 {K : Nat → Nat} {F : Nat → Nat → Nat} (a : Nat) (p0 : Nat) (p1 : Nat) (G36 : XG) (G : XG) (x35 : Int32)
    (ha : K a = 4)
    (hp0 : K p0 = 8)
    (hp1 : K p1 = 2)
    (bkn : BKr K G (G.2.2.1 (F p1 0)))
    (hiv : CIv (gst (G.2.1 (F a 0)) (G.2.1 (F a 1)) (G.2.1 (F a 2)) (G.2.1 (F a 3)) (Int.toNat (((G.1 a 4).toInt))), (vw (G.2.1 (F p0 0)))))
    (hcz : CZ (clsA G (G.2.2.1 (F p1 0))) (gst (G.2.1 (F a 0)) (G.2.1 (F a 1)) (G.2.1 (F a 2)) (G.2.1 (F a 3)) (Int.toNat (((G.1 a 4).toInt))), (vw (G.2.1 (F p0 0)))).1)
    (e35 : x35.toInt = (((G.1 a 4).toInt) - (1 : Int)))
    (e0 : 1 ≤ ((G.1 a 4).toInt) ∧ ((G.1 a 4).toInt) ≤ 90)
    (z0 : ((0 ≤ (aI (G.2.1 (F a 0)) (((G.1 a 4).toInt) - 1)) ∧ (aI (G.2.1 (F a 0)) (((G.1 a 4).toInt) - 1)) < 3) ∧ (0 ≤ (aI (G.2.1 (F a 1)) (((G.1 a 4).toInt) - 1)) ∧ (aI (G.2.1 (F a 1)) (((G.1 a 4).toInt) - 1)) < 30) ∧ (0 ≤ (aI (G.2.1 (F a 2)) (((G.1 a 4).toInt) - 1)) ∧ (aI (G.2.1 (F a 2)) (((G.1 a 4).toInt) - 1)) ≤ 12) ∧ (0 ≤ (aI (G.2.1 (F a 3)) (((G.1 a 4).toInt) - 1)) ∧ (aI (G.2.1 (F a 3)) (((G.1 a 4).toInt) - 1)) ≤ 30)) ∧ ((G.1 a 4).toInt) + (pn (vw (G.2.1 (F p0 0)))) ≤ 90)
    (c8 : ¬ ((((G.1 a 4).toInt) - (1 : Int)) < 0))
    (c14 : (((G.1 a 4).toInt) - (1 : Int)) < (90 : Int))
    (c26 : ¬ ((aI (G.2.1 (F a 2)) (((G.1 a 4).toInt) - 1)) < (12 : Int)))
    (c_G36_F_a_0 : G36.2.1 (F a 0) = G.2.1 (F a 0))
    (c_G36_F_a_1 : G36.2.1 (F a 1) = G.2.1 (F a 1))
    (c_G36_F_a_2 : G36.2.1 (F a 2) = G.2.1 (F a 2))
    (c_G36_F_a_3 : G36.2.1 (F a 3) = G.2.1 (F a 3))
    (c_G36_F_p0_0 : G36.2.1 (F p0 0) = G.2.1 (F p0 0))
    (d_G36_a_4 : G36.1 a 4 = x35) :
    CGo (clsA G (G.2.2.1 (F p1 0))) (clsT G (G.2.2.1 (F p1 0))) (clsC G (G.2.2.1 (F p1 0))) (gst (G.2.1 (F a 0)) (G.2.1 (F a 1)) (G.2.1 (F a 2)) (G.2.1 (F a 3)) (Int.toNat (((G.1 a 4).toInt))), (vw (G.2.1 (F p0 0)))) (gst (G36.2.1 (F a 0)) (G36.2.1 (F a 1)) (G36.2.1 (F a 2)) (G36.2.1 (F a 3)) (Int.toNat (((G36.1 a 4).toInt))), (vw (G36.2.1 (F p0 0)))) := by
  have t9 := gst_p (a := G.2.1 (F a 0)) (b := G.2.1 (F a 1)) (c := G.2.1 (F a 2)) (d := G.2.1 (F a 3)) (n := (G.1 a 4).toInt) (by omega)
  rw [t9] at hiv hcz ⊢
  rw [d_G36_a_4, e35, c_G36_F_a_0, c_G36_F_a_1, c_G36_F_a_2, c_G36_F_a_3, c_G36_F_p0_0]
  exact cgo_pop (clsTo bkn) hiv hcz (by omega)
theorem v_X2_goOn_39_19 {F : Nat → Nat → Nat} (p0 : Nat) (G36 : XG) (G : XG)
    (hro : RO (vw (G.2.1 (F p0 0))) (aI (G.2.1 (F p0 1))))
    (c_G36_F_p0_0 : G36.2.1 (F p0 0) = G.2.1 (F p0 0))
    (c_G36_F_p0_1 : G36.2.1 (F p0 1) = G.2.1 (F p0 1)) :
    RO (vw (G36.2.1 (F p0 0))) (aI (G36.2.1 (F p0 1))) := by
  rw [c_G36_F_p0_0, c_G36_F_p0_1]; exact hro
theorem v_X2_goOn_17_20 {K : Nat → Nat} {F : Nat → Nat → Nat} (a : Nat) (p0 : Nat) (p1 : Nat) (G : XG)
    (ha : K a = 4)
    (hp0 : K p0 = 8)
    (hp1 : K p1 = 2)
    (hcz : CZ (clsA G (G.2.2.1 (F p1 0))) (gst (G.2.1 (F a 0)) (G.2.1 (F a 1)) (G.2.1 (F a 2)) (G.2.1 (F a 3)) (Int.toNat (((G.1 a 4).toInt))), (vw (G.2.1 (F p0 0)))).1)
    (e0 : 1 ≤ ((G.1 a 4).toInt) ∧ ((G.1 a 4).toInt) ≤ 90)
    (z0 : ((0 ≤ (aI (G.2.1 (F a 0)) (((G.1 a 4).toInt) - 1)) ∧ (aI (G.2.1 (F a 0)) (((G.1 a 4).toInt) - 1)) < 3) ∧ (0 ≤ (aI (G.2.1 (F a 1)) (((G.1 a 4).toInt) - 1)) ∧ (aI (G.2.1 (F a 1)) (((G.1 a 4).toInt) - 1)) < 30) ∧ (0 ≤ (aI (G.2.1 (F a 2)) (((G.1 a 4).toInt) - 1)) ∧ (aI (G.2.1 (F a 2)) (((G.1 a 4).toInt) - 1)) ≤ 12) ∧ (0 ≤ (aI (G.2.1 (F a 3)) (((G.1 a 4).toInt) - 1)) ∧ (aI (G.2.1 (F a 3)) (((G.1 a 4).toInt) - 1)) ≤ 30)) ∧ ((G.1 a 4).toInt) + (pn (vw (G.2.1 (F p0 0)))) ≤ 90)
    (c8 : ¬ ((((G.1 a 4).toInt) - (1 : Int)) < 0))
    (c14 : ¬ ((((G.1 a 4).toInt) - (1 : Int)) < (90 : Int))) :
    CGo (clsA G (G.2.2.1 (F p1 0))) (clsT G (G.2.2.1 (F p1 0))) (clsC G (G.2.2.1 (F p1 0))) (gst (G.2.1 (F a 0)) (G.2.1 (F a 1)) (G.2.1 (F a 2)) (G.2.1 (F a 3)) (Int.toNat (((G.1 a 4).toInt))), (vw (G.2.1 (F p0 0)))) (gst (G.2.1 (F a 0)) (G.2.1 (F a 1)) (G.2.1 (F a 2)) (G.2.1 (F a 3)) (Int.toNat (((G.1 a 4).toInt))), (vw (G.2.1 (F p0 0)))) := by
  exfalso; omega
theorem v_X2_goOn_17_21 {K : Nat → Nat} {F : Nat → Nat → Nat} (a : Nat) (p0 : Nat) (p1 : Nat) (G : XG)
    (ha : K a = 4)
    (hp0 : K p0 = 8)
    (hp1 : K p1 = 2)
    (hcz : CZ (clsA G (G.2.2.1 (F p1 0))) (gst (G.2.1 (F a 0)) (G.2.1 (F a 1)) (G.2.1 (F a 2)) (G.2.1 (F a 3)) (Int.toNat (((G.1 a 4).toInt))), (vw (G.2.1 (F p0 0)))).1)
    (e0 : 1 ≤ ((G.1 a 4).toInt) ∧ ((G.1 a 4).toInt) ≤ 90)
    (z0 : ((0 ≤ (aI (G.2.1 (F a 0)) (((G.1 a 4).toInt) - 1)) ∧ (aI (G.2.1 (F a 0)) (((G.1 a 4).toInt) - 1)) < 3) ∧ (0 ≤ (aI (G.2.1 (F a 1)) (((G.1 a 4).toInt) - 1)) ∧ (aI (G.2.1 (F a 1)) (((G.1 a 4).toInt) - 1)) < 30) ∧ (0 ≤ (aI (G.2.1 (F a 2)) (((G.1 a 4).toInt) - 1)) ∧ (aI (G.2.1 (F a 2)) (((G.1 a 4).toInt) - 1)) ≤ 12) ∧ (0 ≤ (aI (G.2.1 (F a 3)) (((G.1 a 4).toInt) - 1)) ∧ (aI (G.2.1 (F a 3)) (((G.1 a 4).toInt) - 1)) ≤ 30)) ∧ ((G.1 a 4).toInt) + (pn (vw (G.2.1 (F p0 0)))) ≤ 90)
    (c8 : ¬ ((((G.1 a 4).toInt) - (1 : Int)) < 0))
    (c14 : ¬ ((((G.1 a 4).toInt) - (1 : Int)) < (90 : Int))) :
    RO (vw (G.2.1 (F p0 0))) (aI (G.2.1 (F p0 1))) := by
  exfalso; omega
theorem v_X2_cutRow_10_1 {F : Nat → Nat → Nat} (p0 : Nat) (G : XG) (G2 : XG)
    (hro : RO (vw (G.2.1 (F p0 0))) (aI (G.2.1 (F p0 1))))
    (c_G2_F_p0_0 : G2.2.1 (F p0 0) = G.2.1 (F p0 0))
    (c_G2_F_p0_1 : G2.2.1 (F p0 1) = G.2.1 (F p0 1)) :
    RO (vw (G2.2.1 (F p0 0))) (aI (G2.2.1 (F p0 1))) := by simp only [c_G2_F_p0_0, c_G2_F_p0_1]; assumption
theorem v_X2_cutRow_13_2 {K : Nat → Nat} {F : Nat → Nat → Nat} (a : Nat) (p0 : Nat) (p1 : Nat) (G : XG) (G10 : XG) (G2 : XG) (p2 : Int32) (p3 : Int32)
    (ha : K a = 4)
    (hp0 : K p0 = 8)
    (hp1 : K p1 = 2)
    (hro : RO (vw (G.2.1 (F p0 0))) (aI (G.2.1 (F p0 1))))
    (oq10 : ∀ z : Int, 0 ≤ z → aI (G10.2.1 (F a 0)) z = if z = ((G2.1 a 4).toInt) then p2.toInt else aI (G.2.1 (F a 0)) z)
    (oq10a : ∀ z : Int, 0 ≤ z → aI (G10.2.1 (F a 1)) z = if z = ((G2.1 a 4).toInt) then p3.toInt else aI (G.2.1 (F a 1)) z)
    (oq10b : ∀ z : Int, 0 ≤ z → aI (G10.2.1 (F a 2)) z = if z = ((G2.1 a 4).toInt) then 0 else aI (G.2.1 (F a 2)) z)
    (oq10c : ∀ z : Int, 0 ≤ z → aI (G10.2.1 (F a 3)) z = if z = ((G2.1 a 4).toInt) then 0 else aI (G.2.1 (F a 3)) z)
    (oq10d : (vw (G10.2.1 (F p0 0))) = rfil (vw (G.2.1 (F p0 0))) p2.toInt p3.toInt (-2000) 3)
    (e1 : 0 ≤ p2.toInt ∧ p2.toInt < 3 ∧ 0 ≤ p3.toInt ∧ p3.toInt < 30)
    (e3 : (cel (vw (G.2.1 (F p0 0))) (p2.toInt) (p3.toInt) 0) ≠ -2000)
    (t10 : ((G10.1 a 4).toInt) = (0 : Int) + 1)
    (d_G2_a_4 : G2.1 a 4 = 0) :
    (cnv (gst (G10.2.1 (F a 0)) (G10.2.1 (F a 1)) (G10.2.1 (F a 2)) (G10.2.1 (F a 3)) (Int.toNat ((G10.1 a 4).toInt)), (vw (G10.2.1 (F p0 0))))) ≤ 1259 := by
  have e4 : (G10.1 a 4).toInt = 0 + 1 := by omega
  have z4 : (G2.1 a 4).toInt = 0 := by rw [d_G2_a_4]; decide
  rw [z4] at oq10 oq10a oq10b oq10c
  have e := gst_g (n := 0) (by decide) oq10 oq10a oq10b oq10c
  have hb := (civ_0 hro.rc (t := p2.toInt) (k := p3.toInt) (by omega) e3).2
  rw [← oq10d] at hb
  rw [e4, e]
  show 14 * pn (vw (G10.2.1 (F p0 0))) + (13 - 0 + 0) ≤ 1259
  omega
theorem v_X2_cutRow_43_3 {K : Nat → Nat} {F : Nat → Nat → Nat} (a : Nat) (p0 : Nat) (p1 : Nat) (G : XG) (G_16 : XG) (G10 : XG) (p2 : Int32) (p3 : Int32) (l5_16 : Int32) (N16 : Nat)
    (ha : K a = 4)
    (hp0 : K p0 = 8)
    (hp1 : K p1 = 2)
    (cz : CZ (clsA G (G.2.2.1 (F p1 0))) (gst (G_16.2.1 (F a 0)) (G_16.2.1 (F a 1)) (G_16.2.1 (F a 2)) (G_16.2.1 (F a 3)) (Int.toNat (((G_16.1 a 4).toInt))), (vw (G_16.2.1 (F p0 0)))).1)
    (fi : cfin (clsA G (G.2.2.1 (F p1 0))) (clsT G (G.2.2.1 (F p1 0))) (clsC G (G.2.2.1 (F p1 0))) (gst (G_16.2.1 (F a 0)) (G_16.2.1 (F a 1)) (G_16.2.1 (F a 2)) (G_16.2.1 (F a 3)) (Int.toNat (((G_16.1 a 4).toInt))), (vw (G_16.2.1 (F p0 0)))) = cfin (clsA G (G.2.2.1 (F p1 0))) (clsT G (G.2.2.1 (F p1 0))) (clsC G (G.2.2.1 (F p1 0))) ([(p2.toInt, p3.toInt, 0, 0)], rfil (vw (G.2.1 (F p0 0))) p2.toInt p3.toInt (-2000) 3))
    (e1 : 0 ≤ p2.toInt ∧ p2.toInt < 3 ∧ 0 ≤ p3.toInt ∧ p3.toInt < 30)
    (e3 : (cel (vw (G.2.1 (F p0 0))) (p2.toInt) (p3.toInt) 0) ≠ -2000)
    (t10 : ((G10.1 a 4).toInt) = (0 : Int) + 1)
    (en13 : (cnv (gst (G10.2.1 (F a 0)) (G10.2.1 (F a 1)) (G10.2.1 (F a 2)) (G10.2.1 (F a 3)) (Int.toNat ((G10.1 a 4).toInt)), (vw (G10.2.1 (F p0 0))))) ≤ 1259)
    (I16_0 : 0 ≤ l5_16.toInt ∧ l5_16.toInt ≤ 1260)
    (I16_1 : 0 ≤ ((G_16.1 a 4).toInt) ∧ ((G_16.1 a 4).toInt) ≤ 90)
    (I16_2 : l5_16.toInt + (cnv (gst (G_16.2.1 (F a 0)) (G_16.2.1 (F a 1)) (G_16.2.1 (F a 2)) (G_16.2.1 (F a 3)) (Int.toNat ((G_16.1 a 4).toInt)), (vw (G_16.2.1 (F p0 0))))) ≤ 1259)
    (I16_3 : (0 : Int) ≤ l5_16.toInt)
    (hm16 : 2147483648 - l5_16.toInt < (((N16) + 1 : Nat) : Int))
    (c21 : (1260 : Int) ≤ l5_16.toInt)
    (z43 : 0 ≤ (cnv (gst (G_16.2.1 (F a 0)) (G_16.2.1 (F a 1)) (G_16.2.1 (F a 2)) (G_16.2.1 (F a 3)) (Int.toNat ((G_16.1 a 4).toInt)), (vw (G_16.2.1 (F p0 0)))))) :
    (vw (G_16.2.1 (F p0 0))) = cfin (clsA G (G.2.2.1 (F p1 0))) (clsT G (G.2.2.1 (F p1 0))) (clsC G (G.2.2.1 (F p1 0))) ([(p2.toInt, p3.toInt, 0, 0)], rfil (vw (G.2.1 (F p0 0))) p2.toInt p3.toInt (-2000) 3) := by
  first
    | (exfalso; omega)
    | (rw [show (G_16.1 a 4).toInt = 0 from by omega] at fi
       exact (cfin_e _ _ _ _).symm.trans fi)
theorem v_X2_cutRow_43_4 {F : Nat → Nat → Nat} (p0 : Nat) (G_16 : XG)
    (ro : RO (vw (G_16.2.1 (F p0 0))) (aI (G_16.2.1 (F p0 1)))) :
    RO (vw (G_16.2.1 (F p0 0))) (aI (G_16.2.1 (F p0 1))) := by
  exact ro
theorem v_X2_cutRow_43_5 {K : Nat → Nat} {F : Nat → Nat → Nat} (a : Nat) (p0 : Nat) (p1 : Nat) (G : XG) (G_16 : XG) (G10 : XG) (p2 : Int32) (p3 : Int32) (l5_16 : Int32) (N16 : Nat)
    (ha : K a = 4)
    (hp0 : K p0 = 8)
    (hp1 : K p1 = 2)
    (cz : CZ (clsA G (G.2.2.1 (F p1 0))) (gst (G_16.2.1 (F a 0)) (G_16.2.1 (F a 1)) (G_16.2.1 (F a 2)) (G_16.2.1 (F a 3)) (Int.toNat (((G_16.1 a 4).toInt))), (vw (G_16.2.1 (F p0 0)))).1)
    (fi : cfin (clsA G (G.2.2.1 (F p1 0))) (clsT G (G.2.2.1 (F p1 0))) (clsC G (G.2.2.1 (F p1 0))) (gst (G_16.2.1 (F a 0)) (G_16.2.1 (F a 1)) (G_16.2.1 (F a 2)) (G_16.2.1 (F a 3)) (Int.toNat (((G_16.1 a 4).toInt))), (vw (G_16.2.1 (F p0 0)))) = cfin (clsA G (G.2.2.1 (F p1 0))) (clsT G (G.2.2.1 (F p1 0))) (clsC G (G.2.2.1 (F p1 0))) ([(p2.toInt, p3.toInt, 0, 0)], rfil (vw (G.2.1 (F p0 0))) p2.toInt p3.toInt (-2000) 3))
    (e1 : 0 ≤ p2.toInt ∧ p2.toInt < 3 ∧ 0 ≤ p3.toInt ∧ p3.toInt < 30)
    (e3 : (cel (vw (G.2.1 (F p0 0))) (p2.toInt) (p3.toInt) 0) ≠ -2000)
    (t10 : ((G10.1 a 4).toInt) = (0 : Int) + 1)
    (en13 : (cnv (gst (G10.2.1 (F a 0)) (G10.2.1 (F a 1)) (G10.2.1 (F a 2)) (G10.2.1 (F a 3)) (Int.toNat ((G10.1 a 4).toInt)), (vw (G10.2.1 (F p0 0))))) ≤ 1259)
    (I16_0 : 0 ≤ l5_16.toInt ∧ l5_16.toInt ≤ 1260)
    (I16_1 : 0 ≤ ((G_16.1 a 4).toInt) ∧ ((G_16.1 a 4).toInt) ≤ 90)
    (I16_2 : l5_16.toInt + (cnv (gst (G_16.2.1 (F a 0)) (G_16.2.1 (F a 1)) (G_16.2.1 (F a 2)) (G_16.2.1 (F a 3)) (Int.toNat ((G_16.1 a 4).toInt)), (vw (G_16.2.1 (F p0 0))))) ≤ 1259)
    (I16_3 : (0 : Int) ≤ l5_16.toInt)
    (hm16 : 2147483648 - l5_16.toInt < (((N16) + 1 : Nat) : Int))
    (c21 : ¬ ((1260 : Int) ≤ l5_16.toInt))
    (c28 : ((G_16.1 a 4).toInt) ≤ 0)
    (z43 : 0 ≤ (cnv (gst (G_16.2.1 (F a 0)) (G_16.2.1 (F a 1)) (G_16.2.1 (F a 2)) (G_16.2.1 (F a 3)) (Int.toNat ((G_16.1 a 4).toInt)), (vw (G_16.2.1 (F p0 0)))))) :
    (vw (G_16.2.1 (F p0 0))) = cfin (clsA G (G.2.2.1 (F p1 0))) (clsT G (G.2.2.1 (F p1 0))) (clsC G (G.2.2.1 (F p1 0))) ([(p2.toInt, p3.toInt, 0, 0)], rfil (vw (G.2.1 (F p0 0))) p2.toInt p3.toInt (-2000) 3) := by
  first
    | (exfalso; omega)
    | (rw [show (G_16.1 a 4).toInt = 0 from by omega] at fi
       exact (cfin_e _ _ _ _).symm.trans fi)
theorem v_X2_cutRow_43_6 {F : Nat → Nat → Nat} (p0 : Nat) (G_16 : XG)
    (ro : RO (vw (G_16.2.1 (F p0 0))) (aI (G_16.2.1 (F p0 1)))) :
    RO (vw (G_16.2.1 (F p0 0))) (aI (G_16.2.1 (F p0 1))) := by
  exact ro
theorem v_X2_cutRow_34_7 {F : Nat → Nat → Nat} (p0 : Nat) (G_16 : XG)
    (ro : RO (vw (G_16.2.1 (F p0 0))) (aI (G_16.2.1 (F p0 1)))) :
    RO (vw (G_16.2.1 (F p0 0))) (aI (G_16.2.1 (F p0 1))) := by exact ro
theorem v_X2_cutRow_34_8 {K : Nat → Nat} {F : Nat → Nat → Nat} (a : Nat) (p0 : Nat) (p1 : Nat) (G : XG) (G_16 : XG) (G10 : XG) (p2 : Int32) (p3 : Int32) (l5_16 : Int32) (N16 : Nat)
    (ha : K a = 4)
    (hp0 : K p0 = 8)
    (hp1 : K p1 = 2)
    (hk9999 : K (F a 0) = 24)
    (hj9999 : F (F a 0) 99 = 0)
    (hk9999a : K (F a 1) = 24)
    (hj9999a : F (F a 1) 99 = 1)
    (hk9999b : K (F a 2) = 24)
    (hj9999b : F (F a 2) 99 = 2)
    (hk9999c : K (F a 3) = 24)
    (hj9999c : F (F a 3) 99 = 3)
    (hk9999d : K (F p0 0) = 20)
    (hj9999d : F (F p0 0) 99 = F p0 99)
    (hk9999e : K (F p0 1) = 21)
    (hj9999e : F (F p0 1) 99 = F p0 99)
    (hk9999f : K (F p1 0) = 15)
    (hj9999f : F (F p1 0) 99 = 0)
    (hfr : XFr [(a, 4)] [F a 0, F a 1, F a 2, F a 3, F p0 0, F p0 1] [] G G_16)
    (bkn : BKr K G (G.2.2.1 (F p1 0)))
    (cz : CZ (clsA G (G.2.2.1 (F p1 0))) (gst (G_16.2.1 (F a 0)) (G_16.2.1 (F a 1)) (G_16.2.1 (F a 2)) (G_16.2.1 (F a 3)) (Int.toNat (((G_16.1 a 4).toInt))), (vw (G_16.2.1 (F p0 0)))).1)
    (e1 : 0 ≤ p2.toInt ∧ p2.toInt < 3 ∧ 0 ≤ p3.toInt ∧ p3.toInt < 30)
    (e3 : (cel (vw (G.2.1 (F p0 0))) (p2.toInt) (p3.toInt) 0) ≠ -2000)
    (t10 : ((G10.1 a 4).toInt) = (0 : Int) + 1)
    (en13 : (cnv (gst (G10.2.1 (F a 0)) (G10.2.1 (F a 1)) (G10.2.1 (F a 2)) (G10.2.1 (F a 3)) (Int.toNat ((G10.1 a 4).toInt)), (vw (G10.2.1 (F p0 0))))) ≤ 1259)
    (I16_0 : 0 ≤ l5_16.toInt ∧ l5_16.toInt ≤ 1260)
    (I16_1 : 0 ≤ ((G_16.1 a 4).toInt) ∧ ((G_16.1 a 4).toInt) ≤ 90)
    (I16_2 : l5_16.toInt + (cnv (gst (G_16.2.1 (F a 0)) (G_16.2.1 (F a 1)) (G_16.2.1 (F a 2)) (G_16.2.1 (F a 3)) (Int.toNat ((G_16.1 a 4).toInt)), (vw (G_16.2.1 (F p0 0))))) ≤ 1259)
    (I16_3 : (0 : Int) ≤ l5_16.toInt)
    (hm16 : 2147483648 - l5_16.toInt < (((N16) + 1 : Nat) : Int))
    (c21 : ¬ ((1260 : Int) ≤ l5_16.toInt))
    (c28 : ¬ (((G_16.1 a 4).toInt) ≤ 0))
    (r_G_16_F_p1_0 : G_16.2.2.1 (F p1 0) = G.2.2.1 (F p1 0)) :
    BKr K G_16 (G_16.2.2.1 (F p1 0)) := by
  have hd : ∀ p, p ∈ [(a, 4)] → K p.1 ≠ 9 := (List.forall_mem_cons.mpr ⟨(show K a ≠ 9 by omega), fun _ h => by cases h⟩)
  have hc : ∀ (i q : Nat), i < 12 → G.2.2.1 (F p1 0) i = some q → G_16.1 q = G.1 q := fun i q hi hq => hfr.rule hd (bkn i q hi hq).1
  rw [r_G_16_F_p1_0]
  exact bkn.cg hc
theorem v_X2_cutRow_34_9 {K : Nat → Nat} {F : Nat → Nat → Nat} (a : Nat) (p0 : Nat) (p1 : Nat) (G : XG) (G_16 : XG) (G10 : XG) (p2 : Int32) (p3 : Int32) (l5_16 : Int32) (N16 : Nat)
    (ha : K a = 4)
    (hp0 : K p0 = 8)
    (hp1 : K p1 = 2)
    (hk9999 : K (F a 0) = 24)
    (hj9999 : F (F a 0) 99 = 0)
    (hk9999a : K (F a 1) = 24)
    (hj9999a : F (F a 1) 99 = 1)
    (hk9999b : K (F a 2) = 24)
    (hj9999b : F (F a 2) 99 = 2)
    (hk9999c : K (F a 3) = 24)
    (hj9999c : F (F a 3) 99 = 3)
    (hk9999d : K (F p0 0) = 20)
    (hj9999d : F (F p0 0) 99 = F p0 99)
    (hk9999e : K (F p0 1) = 21)
    (hj9999e : F (F p0 1) 99 = F p0 99)
    (hk9999f : K (F p1 0) = 15)
    (hj9999f : F (F p1 0) 99 = 0)
    (hfr : XFr [(a, 4)] [F a 0, F a 1, F a 2, F a 3, F p0 0, F p0 1] [] G G_16)
    (bkn : BKr K G (G.2.2.1 (F p1 0)))
    (hac : ACo G (G.2.2.1 (F p1 0)))
    (cz : CZ (clsA G (G.2.2.1 (F p1 0))) (gst (G_16.2.1 (F a 0)) (G_16.2.1 (F a 1)) (G_16.2.1 (F a 2)) (G_16.2.1 (F a 3)) (Int.toNat (((G_16.1 a 4).toInt))), (vw (G_16.2.1 (F p0 0)))).1)
    (e1 : 0 ≤ p2.toInt ∧ p2.toInt < 3 ∧ 0 ≤ p3.toInt ∧ p3.toInt < 30)
    (e3 : (cel (vw (G.2.1 (F p0 0))) (p2.toInt) (p3.toInt) 0) ≠ -2000)
    (t10 : ((G10.1 a 4).toInt) = (0 : Int) + 1)
    (en13 : (cnv (gst (G10.2.1 (F a 0)) (G10.2.1 (F a 1)) (G10.2.1 (F a 2)) (G10.2.1 (F a 3)) (Int.toNat ((G10.1 a 4).toInt)), (vw (G10.2.1 (F p0 0))))) ≤ 1259)
    (I16_0 : 0 ≤ l5_16.toInt ∧ l5_16.toInt ≤ 1260)
    (I16_1 : 0 ≤ ((G_16.1 a 4).toInt) ∧ ((G_16.1 a 4).toInt) ≤ 90)
    (I16_2 : l5_16.toInt + (cnv (gst (G_16.2.1 (F a 0)) (G_16.2.1 (F a 1)) (G_16.2.1 (F a 2)) (G_16.2.1 (F a 3)) (Int.toNat ((G_16.1 a 4).toInt)), (vw (G_16.2.1 (F p0 0))))) ≤ 1259)
    (I16_3 : (0 : Int) ≤ l5_16.toInt)
    (hm16 : 2147483648 - l5_16.toInt < (((N16) + 1 : Nat) : Int))
    (c21 : ¬ ((1260 : Int) ≤ l5_16.toInt))
    (c28 : ¬ (((G_16.1 a 4).toInt) ≤ 0))
    (r_G_16_F_p1_0 : G_16.2.2.1 (F p1 0) = G.2.2.1 (F p1 0)) :
    ACo G_16 (G_16.2.2.1 (F p1 0)) := by
  have hd : ∀ p, p ∈ [(a, 4)] → K p.1 ≠ 9 := (List.forall_mem_cons.mpr ⟨(show K a ≠ 9 by omega), fun _ h => by cases h⟩)
  have hc : ∀ (i q : Nat), i < 12 → G.2.2.1 (F p1 0) i = some q → G_16.1 q = G.1 q := fun i q hi hq => hfr.rule hd (bkn i q hi hq).1
  rw [r_G_16_F_p1_0]
  exact hac.cg hc
theorem v_X2_cutRow_34_10 {F : Nat → Nat → Nat} (a : Nat) (p0 : Nat) (G_16 : XG)
    (iv : CIv (gst (G_16.2.1 (F a 0)) (G_16.2.1 (F a 1)) (G_16.2.1 (F a 2)) (G_16.2.1 (F a 3)) (Int.toNat (((G_16.1 a 4).toInt))), (vw (G_16.2.1 (F p0 0))))) :
    CIv (gst (G_16.2.1 (F a 0)) (G_16.2.1 (F a 1)) (G_16.2.1 (F a 2)) (G_16.2.1 (F a 3)) (Int.toNat (((G_16.1 a 4).toInt))), (vw (G_16.2.1 (F p0 0)))) := by
  exact iv
theorem v_X2_cutRow_34_11 {K : Nat → Nat} {F : Nat → Nat → Nat} (a : Nat) (p0 : Nat) (p1 : Nat) (G : XG) (G_16 : XG) (G10 : XG) (p2 : Int32) (p3 : Int32) (l5_16 : Int32) (N16 : Nat)
    (ha : K a = 4)
    (hp0 : K p0 = 8)
    (hp1 : K p1 = 2)
    (hk9999 : K (F a 0) = 24)
    (hj9999 : F (F a 0) 99 = 0)
    (hk9999a : K (F a 1) = 24)
    (hj9999a : F (F a 1) 99 = 1)
    (hk9999b : K (F a 2) = 24)
    (hj9999b : F (F a 2) 99 = 2)
    (hk9999c : K (F a 3) = 24)
    (hj9999c : F (F a 3) 99 = 3)
    (hk9999d : K (F p0 0) = 20)
    (hj9999d : F (F p0 0) 99 = F p0 99)
    (hk9999e : K (F p0 1) = 21)
    (hj9999e : F (F p0 1) 99 = F p0 99)
    (hk9999f : K (F p1 0) = 15)
    (hj9999f : F (F p1 0) 99 = 0)
    (hfr : XFr [(a, 4)] [F a 0, F a 1, F a 2, F a 3, F p0 0, F p0 1] [] G G_16)
    (bkn : BKr K G (G.2.2.1 (F p1 0)))
    (cz : CZ (clsA G (G.2.2.1 (F p1 0))) (gst (G_16.2.1 (F a 0)) (G_16.2.1 (F a 1)) (G_16.2.1 (F a 2)) (G_16.2.1 (F a 3)) (Int.toNat (((G_16.1 a 4).toInt))), (vw (G_16.2.1 (F p0 0)))).1)
    (e1 : 0 ≤ p2.toInt ∧ p2.toInt < 3 ∧ 0 ≤ p3.toInt ∧ p3.toInt < 30)
    (e3 : (cel (vw (G.2.1 (F p0 0))) (p2.toInt) (p3.toInt) 0) ≠ -2000)
    (t10 : ((G10.1 a 4).toInt) = (0 : Int) + 1)
    (en13 : (cnv (gst (G10.2.1 (F a 0)) (G10.2.1 (F a 1)) (G10.2.1 (F a 2)) (G10.2.1 (F a 3)) (Int.toNat ((G10.1 a 4).toInt)), (vw (G10.2.1 (F p0 0))))) ≤ 1259)
    (I16_0 : 0 ≤ l5_16.toInt ∧ l5_16.toInt ≤ 1260)
    (I16_1 : 0 ≤ ((G_16.1 a 4).toInt) ∧ ((G_16.1 a 4).toInt) ≤ 90)
    (I16_2 : l5_16.toInt + (cnv (gst (G_16.2.1 (F a 0)) (G_16.2.1 (F a 1)) (G_16.2.1 (F a 2)) (G_16.2.1 (F a 3)) (Int.toNat ((G_16.1 a 4).toInt)), (vw (G_16.2.1 (F p0 0))))) ≤ 1259)
    (I16_3 : (0 : Int) ≤ l5_16.toInt)
    (hm16 : 2147483648 - l5_16.toInt < (((N16) + 1 : Nat) : Int))
    (c21 : ¬ ((1260 : Int) ≤ l5_16.toInt))
    (c28 : ¬ (((G_16.1 a 4).toInt) ≤ 0))
    (r_G_16_F_p1_0 : G_16.2.2.1 (F p1 0) = G.2.2.1 (F p1 0)) :
    CZ (clsA G_16 (G_16.2.2.1 (F p1 0))) (gst (G_16.2.1 (F a 0)) (G_16.2.1 (F a 1)) (G_16.2.1 (F a 2)) (G_16.2.1 (F a 3)) (Int.toNat (((G_16.1 a 4).toInt))), (vw (G_16.2.1 (F p0 0)))).1 := by
  have hd : ∀ p, p ∈ [(a, 4)] → K p.1 ≠ 9 := (List.forall_mem_cons.mpr ⟨(show K a ≠ 9 by omega), fun _ h => by cases h⟩)
  have hc : ∀ (i q : Nat), i < 12 → G.2.2.1 (F p1 0) i = some q → G_16.1 q = G.1 q := fun i q hi hq => hfr.rule hd (bkn i q hi hq).1
  rw [r_G_16_F_p1_0, (cls_cg hc).1]
  exact cz
theorem v_X2_cutRow_40_12 {F : Nat → Nat → Nat} (a : Nat) (p0 : Nat) (p1 : Nat) (G34 : XG) (G_16 : XG)
    (oq34 : CGo (clsA G_16 (G_16.2.2.1 (F p1 0))) (clsT G_16 (G_16.2.2.1 (F p1 0))) (clsC G_16 (G_16.2.2.1 (F p1 0))) (gst (G_16.2.1 (F a 0)) (G_16.2.1 (F a 1)) (G_16.2.1 (F a 2)) (G_16.2.1 (F a 3)) (Int.toNat (((G_16.1 a 4).toInt))), (vw (G_16.2.1 (F p0 0)))) (gst (G34.2.1 (F a 0)) (G34.2.1 (F a 1)) (G34.2.1 (F a 2)) (G34.2.1 (F a 3)) (Int.toNat (((G34.1 a 4).toInt))), (vw (G34.2.1 (F p0 0))))) :
    CIv (gst (G34.2.1 (F a 0)) (G34.2.1 (F a 1)) (G34.2.1 (F a 2)) (G34.2.1 (F a 3)) (Int.toNat (((G34.1 a 4).toInt))), (vw (G34.2.1 (F p0 0)))) := by
  exact oq34.1
theorem v_X2_cutRow_40_13 {K : Nat → Nat} {F : Nat → Nat → Nat} (a : Nat) (p0 : Nat) (p1 : Nat) (G : XG) (G34 : XG) (G10 : XG) (G_16 : XG) (p2 : Int32) (p3 : Int32) (l5_16 : Int32) (N16 : Nat)
    (ha : K a = 4)
    (hp0 : K p0 = 8)
    (hp1 : K p1 = 2)
    (hk9999 : K (F a 0) = 24)
    (hj9999 : F (F a 0) 99 = 0)
    (hk9999a : K (F a 1) = 24)
    (hj9999a : F (F a 1) 99 = 1)
    (hk9999b : K (F a 2) = 24)
    (hj9999b : F (F a 2) 99 = 2)
    (hk9999c : K (F a 3) = 24)
    (hj9999c : F (F a 3) 99 = 3)
    (hk9999d : K (F p0 0) = 20)
    (hj9999d : F (F p0 0) 99 = F p0 99)
    (hk9999e : K (F p0 1) = 21)
    (hj9999e : F (F p0 1) 99 = F p0 99)
    (hk9999f : K (F p1 0) = 15)
    (hj9999f : F (F p1 0) 99 = 0)
    (hfr : XFr [(a, 4)] [F a 0, F a 1, F a 2, F a 3, F p0 0, F p0 1] [] G G34)
    (hF34 : XFr [(a, 4)] [F a 0, F a 1, F a 2, F a 3, F p0 0, F p0 1] [] G_16 G34)
    (bkn : BKr K G (G.2.2.1 (F p1 0)))
    (cz : CZ (clsA G (G.2.2.1 (F p1 0))) (gst (G_16.2.1 (F a 0)) (G_16.2.1 (F a 1)) (G_16.2.1 (F a 2)) (G_16.2.1 (F a 3)) (Int.toNat (((G_16.1 a 4).toInt))), (vw (G_16.2.1 (F p0 0)))).1)
    (oq34 : CGo (clsA G_16 (G_16.2.2.1 (F p1 0))) (clsT G_16 (G_16.2.2.1 (F p1 0))) (clsC G_16 (G_16.2.2.1 (F p1 0))) (gst (G_16.2.1 (F a 0)) (G_16.2.1 (F a 1)) (G_16.2.1 (F a 2)) (G_16.2.1 (F a 3)) (Int.toNat (((G_16.1 a 4).toInt))), (vw (G_16.2.1 (F p0 0)))) (gst (G34.2.1 (F a 0)) (G34.2.1 (F a 1)) (G34.2.1 (F a 2)) (G34.2.1 (F a 3)) (Int.toNat (((G34.1 a 4).toInt))), (vw (G34.2.1 (F p0 0)))))
    (e1 : 0 ≤ p2.toInt ∧ p2.toInt < 3 ∧ 0 ≤ p3.toInt ∧ p3.toInt < 30)
    (e3 : (cel (vw (G.2.1 (F p0 0))) (p2.toInt) (p3.toInt) 0) ≠ -2000)
    (t10 : ((G10.1 a 4).toInt) = (0 : Int) + 1)
    (en13 : (cnv (gst (G10.2.1 (F a 0)) (G10.2.1 (F a 1)) (G10.2.1 (F a 2)) (G10.2.1 (F a 3)) (Int.toNat ((G10.1 a 4).toInt)), (vw (G10.2.1 (F p0 0))))) ≤ 1259)
    (I16_0 : 0 ≤ l5_16.toInt ∧ l5_16.toInt ≤ 1260)
    (I16_1 : 0 ≤ ((G_16.1 a 4).toInt) ∧ ((G_16.1 a 4).toInt) ≤ 90)
    (I16_2 : l5_16.toInt + (cnv (gst (G_16.2.1 (F a 0)) (G_16.2.1 (F a 1)) (G_16.2.1 (F a 2)) (G_16.2.1 (F a 3)) (Int.toNat ((G_16.1 a 4).toInt)), (vw (G_16.2.1 (F p0 0))))) ≤ 1259)
    (I16_3 : (0 : Int) ≤ l5_16.toInt)
    (hm16 : 2147483648 - l5_16.toInt < (((N16) + 1 : Nat) : Int))
    (c21 : ¬ ((1260 : Int) ≤ l5_16.toInt))
    (c28 : ¬ (((G_16.1 a 4).toInt) ≤ 0))
    (t34 : 0 ≤ ((G34.1 a 4).toInt) ∧ ((G34.1 a 4).toInt) ≤ 90)
    (z37 : (cnv (gst (G34.2.1 (F a 0)) (G34.2.1 (F a 1)) (G34.2.1 (F a 2)) (G34.2.1 (F a 3)) (Int.toNat ((G34.1 a 4).toInt)), (vw (G34.2.1 (F p0 0))))) = (cnv (gst (G_16.2.1 (F a 0)) (G_16.2.1 (F a 1)) (G_16.2.1 (F a 2)) (G_16.2.1 (F a 3)) (Int.toNat ((G_16.1 a 4).toInt)), (vw (G_16.2.1 (F p0 0))))) - 1)
    (r_G_16_F_p1_0 : G_16.2.2.1 (F p1 0) = G.2.2.1 (F p1 0)) :
    CZ (clsA G (G.2.2.1 (F p1 0))) (gst (G34.2.1 (F a 0)) (G34.2.1 (F a 1)) (G34.2.1 (F a 2)) (G34.2.1 (F a 3)) (Int.toNat (((G34.1 a 4).toInt))), (vw (G34.2.1 (F p0 0)))).1 := by
  have hd : ∀ p, p ∈ [(a, 4)] → K p.1 ≠ 9 := (List.forall_mem_cons.mpr ⟨(show K a ≠ 9 by omega), fun _ h => by cases h⟩)
  have hc : ∀ (i q : Nat), i < 12 → G.2.2.1 (F p1 0) i = some q → G_16.1 q = G.1 q := fun i q hi hq => (hF34.rule hd (bkn i q hi hq).1).symm.trans (hfr.rule hd (bkn i q hi hq).1)
  have o := oq34.2.1
  rw [r_G_16_F_p1_0, (cls_cg hc).1] at o
  exact o
theorem v_X2_cutRow_40_14 {K : Nat → Nat} {F : Nat → Nat → Nat} (a : Nat) (p0 : Nat) (p1 : Nat) (G : XG) (G34 : XG) (G10 : XG) (G_16 : XG) (p2 : Int32) (p3 : Int32) (l5_16 : Int32) (N16 : Nat)
    (ha : K a = 4)
    (hp0 : K p0 = 8)
    (hp1 : K p1 = 2)
    (hk9999 : K (F a 0) = 24)
    (hj9999 : F (F a 0) 99 = 0)
    (hk9999a : K (F a 1) = 24)
    (hj9999a : F (F a 1) 99 = 1)
    (hk9999b : K (F a 2) = 24)
    (hj9999b : F (F a 2) 99 = 2)
    (hk9999c : K (F a 3) = 24)
    (hj9999c : F (F a 3) 99 = 3)
    (hk9999d : K (F p0 0) = 20)
    (hj9999d : F (F p0 0) 99 = F p0 99)
    (hk9999e : K (F p0 1) = 21)
    (hj9999e : F (F p0 1) 99 = F p0 99)
    (hk9999f : K (F p1 0) = 15)
    (hj9999f : F (F p1 0) 99 = 0)
    (hfr : XFr [(a, 4)] [F a 0, F a 1, F a 2, F a 3, F p0 0, F p0 1] [] G G34)
    (hF34 : XFr [(a, 4)] [F a 0, F a 1, F a 2, F a 3, F p0 0, F p0 1] [] G_16 G34)
    (bkn : BKr K G (G.2.2.1 (F p1 0)))
    (cz : CZ (clsA G (G.2.2.1 (F p1 0))) (gst (G_16.2.1 (F a 0)) (G_16.2.1 (F a 1)) (G_16.2.1 (F a 2)) (G_16.2.1 (F a 3)) (Int.toNat (((G_16.1 a 4).toInt))), (vw (G_16.2.1 (F p0 0)))).1)
    (fi : cfin (clsA G (G.2.2.1 (F p1 0))) (clsT G (G.2.2.1 (F p1 0))) (clsC G (G.2.2.1 (F p1 0))) (gst (G_16.2.1 (F a 0)) (G_16.2.1 (F a 1)) (G_16.2.1 (F a 2)) (G_16.2.1 (F a 3)) (Int.toNat (((G_16.1 a 4).toInt))), (vw (G_16.2.1 (F p0 0)))) = cfin (clsA G (G.2.2.1 (F p1 0))) (clsT G (G.2.2.1 (F p1 0))) (clsC G (G.2.2.1 (F p1 0))) ([(p2.toInt, p3.toInt, 0, 0)], rfil (vw (G.2.1 (F p0 0))) p2.toInt p3.toInt (-2000) 3))
    (oq34 : CGo (clsA G_16 (G_16.2.2.1 (F p1 0))) (clsT G_16 (G_16.2.2.1 (F p1 0))) (clsC G_16 (G_16.2.2.1 (F p1 0))) (gst (G_16.2.1 (F a 0)) (G_16.2.1 (F a 1)) (G_16.2.1 (F a 2)) (G_16.2.1 (F a 3)) (Int.toNat (((G_16.1 a 4).toInt))), (vw (G_16.2.1 (F p0 0)))) (gst (G34.2.1 (F a 0)) (G34.2.1 (F a 1)) (G34.2.1 (F a 2)) (G34.2.1 (F a 3)) (Int.toNat (((G34.1 a 4).toInt))), (vw (G34.2.1 (F p0 0)))))
    (e1 : 0 ≤ p2.toInt ∧ p2.toInt < 3 ∧ 0 ≤ p3.toInt ∧ p3.toInt < 30)
    (e3 : (cel (vw (G.2.1 (F p0 0))) (p2.toInt) (p3.toInt) 0) ≠ -2000)
    (t10 : ((G10.1 a 4).toInt) = (0 : Int) + 1)
    (en13 : (cnv (gst (G10.2.1 (F a 0)) (G10.2.1 (F a 1)) (G10.2.1 (F a 2)) (G10.2.1 (F a 3)) (Int.toNat ((G10.1 a 4).toInt)), (vw (G10.2.1 (F p0 0))))) ≤ 1259)
    (I16_0 : 0 ≤ l5_16.toInt ∧ l5_16.toInt ≤ 1260)
    (I16_1 : 0 ≤ ((G_16.1 a 4).toInt) ∧ ((G_16.1 a 4).toInt) ≤ 90)
    (I16_2 : l5_16.toInt + (cnv (gst (G_16.2.1 (F a 0)) (G_16.2.1 (F a 1)) (G_16.2.1 (F a 2)) (G_16.2.1 (F a 3)) (Int.toNat ((G_16.1 a 4).toInt)), (vw (G_16.2.1 (F p0 0))))) ≤ 1259)
    (I16_3 : (0 : Int) ≤ l5_16.toInt)
    (hm16 : 2147483648 - l5_16.toInt < (((N16) + 1 : Nat) : Int))
    (c21 : ¬ ((1260 : Int) ≤ l5_16.toInt))
    (c28 : ¬ (((G_16.1 a 4).toInt) ≤ 0))
    (t34 : 0 ≤ ((G34.1 a 4).toInt) ∧ ((G34.1 a 4).toInt) ≤ 90)
    (z37 : (cnv (gst (G34.2.1 (F a 0)) (G34.2.1 (F a 1)) (G34.2.1 (F a 2)) (G34.2.1 (F a 3)) (Int.toNat ((G34.1 a 4).toInt)), (vw (G34.2.1 (F p0 0))))) = (cnv (gst (G_16.2.1 (F a 0)) (G_16.2.1 (F a 1)) (G_16.2.1 (F a 2)) (G_16.2.1 (F a 3)) (Int.toNat ((G_16.1 a 4).toInt)), (vw (G_16.2.1 (F p0 0))))) - 1)
    (r_G_16_F_p1_0 : G_16.2.2.1 (F p1 0) = G.2.2.1 (F p1 0)) :
    cfin (clsA G (G.2.2.1 (F p1 0))) (clsT G (G.2.2.1 (F p1 0))) (clsC G (G.2.2.1 (F p1 0))) (gst (G34.2.1 (F a 0)) (G34.2.1 (F a 1)) (G34.2.1 (F a 2)) (G34.2.1 (F a 3)) (Int.toNat (((G34.1 a 4).toInt))), (vw (G34.2.1 (F p0 0)))) = cfin (clsA G (G.2.2.1 (F p1 0))) (clsT G (G.2.2.1 (F p1 0))) (clsC G (G.2.2.1 (F p1 0))) ([(p2.toInt, p3.toInt, 0, 0)], rfil (vw (G.2.1 (F p0 0))) p2.toInt p3.toInt (-2000) 3) := by
  have hd : ∀ p, p ∈ [(a, 4)] → K p.1 ≠ 9 := (List.forall_mem_cons.mpr ⟨(show K a ≠ 9 by omega), fun _ h => by cases h⟩)
  have hc : ∀ (i q : Nat), i < 12 → G.2.2.1 (F p1 0) i = some q → G_16.1 q = G.1 q := fun i q hi hq => (hF34.rule hd (bkn i q hi hq).1).symm.trans (hfr.rule hd (bkn i q hi hq).1)
  have o := oq34.2.2.1
  rw [r_G_16_F_p1_0, (cls_cg hc).1, (cls_cg hc).2.1, (cls_cg hc).2.2] at o
  exact o.trans fi
theorem v_X2_cutRow_40_15 {F : Nat → Nat → Nat} (p0 : Nat) (G34 : XG)
    (oq34a : RO (vw (G34.2.1 (F p0 0))) (aI (G34.2.1 (F p0 1)))) :
    RO (vw (G34.2.1 (F p0 0))) (aI (G34.2.1 (F p0 1))) := by
  exact oq34a
theorem v_X2_cutRow_14_16 {K : Nat → Nat} {F : Nat → Nat → Nat} (a : Nat) (p0 : Nat) (p1 : Nat) (G : XG) (G10 : XG) (G2 : XG) (p2 : Int32) (p3 : Int32)
    (ha : K a = 4)
    (hp0 : K p0 = 8)
    (hp1 : K p1 = 2)
    (hro : RO (vw (G.2.1 (F p0 0))) (aI (G.2.1 (F p0 1))))
    (oq10 : ∀ z : Int, 0 ≤ z → aI (G10.2.1 (F a 0)) z = if z = ((G2.1 a 4).toInt) then p2.toInt else aI (G.2.1 (F a 0)) z)
    (oq10a : ∀ z : Int, 0 ≤ z → aI (G10.2.1 (F a 1)) z = if z = ((G2.1 a 4).toInt) then p3.toInt else aI (G.2.1 (F a 1)) z)
    (oq10b : ∀ z : Int, 0 ≤ z → aI (G10.2.1 (F a 2)) z = if z = ((G2.1 a 4).toInt) then 0 else aI (G.2.1 (F a 2)) z)
    (oq10c : ∀ z : Int, 0 ≤ z → aI (G10.2.1 (F a 3)) z = if z = ((G2.1 a 4).toInt) then 0 else aI (G.2.1 (F a 3)) z)
    (oq10d : (vw (G10.2.1 (F p0 0))) = rfil (vw (G.2.1 (F p0 0))) p2.toInt p3.toInt (-2000) 3)
    (e1 : 0 ≤ p2.toInt ∧ p2.toInt < 3 ∧ 0 ≤ p3.toInt ∧ p3.toInt < 30)
    (e3 : (cel (vw (G.2.1 (F p0 0))) (p2.toInt) (p3.toInt) 0) ≠ -2000)
    (t10 : ((G10.1 a 4).toInt) = (0 : Int) + 1)
    (en13 : (cnv (gst (G10.2.1 (F a 0)) (G10.2.1 (F a 1)) (G10.2.1 (F a 2)) (G10.2.1 (F a 3)) (Int.toNat ((G10.1 a 4).toInt)), (vw (G10.2.1 (F p0 0))))) ≤ 1259)
    (d_G2_a_4 : G2.1 a 4 = 0) :
    CIv (gst (G10.2.1 (F a 0)) (G10.2.1 (F a 1)) (G10.2.1 (F a 2)) (G10.2.1 (F a 3)) (Int.toNat (((G10.1 a 4).toInt))), (vw (G10.2.1 (F p0 0)))) := by
  have e4 : (G10.1 a 4).toInt = 0 + 1 := by omega
  have z4 : (G2.1 a 4).toInt = 0 := by rw [d_G2_a_4]; decide
  rw [z4] at oq10 oq10a oq10b oq10c
  have e := gst_g (n := 0) (by decide) oq10 oq10a oq10b oq10c
  rw [e4, e, oq10d]
  exact (civ_0 hro.rc (by omega) e3).1
theorem v_X2_cutRow_14_17 {K : Nat → Nat} {F : Nat → Nat → Nat} (a : Nat) (p0 : Nat) (p1 : Nat) (G : XG) (G10 : XG) (G2 : XG) (p2 : Int32) (p3 : Int32)
    (ha : K a = 4)
    (hp0 : K p0 = 8)
    (hp1 : K p1 = 2)
    (oq10 : ∀ z : Int, 0 ≤ z → aI (G10.2.1 (F a 0)) z = if z = ((G2.1 a 4).toInt) then p2.toInt else aI (G.2.1 (F a 0)) z)
    (oq10a : ∀ z : Int, 0 ≤ z → aI (G10.2.1 (F a 1)) z = if z = ((G2.1 a 4).toInt) then p3.toInt else aI (G.2.1 (F a 1)) z)
    (oq10b : ∀ z : Int, 0 ≤ z → aI (G10.2.1 (F a 2)) z = if z = ((G2.1 a 4).toInt) then 0 else aI (G.2.1 (F a 2)) z)
    (oq10c : ∀ z : Int, 0 ≤ z → aI (G10.2.1 (F a 3)) z = if z = ((G2.1 a 4).toInt) then 0 else aI (G.2.1 (F a 3)) z)
    (e1 : 0 ≤ p2.toInt ∧ p2.toInt < 3 ∧ 0 ≤ p3.toInt ∧ p3.toInt < 30)
    (e3 : (cel (vw (G.2.1 (F p0 0))) (p2.toInt) (p3.toInt) 0) ≠ -2000)
    (t10 : ((G10.1 a 4).toInt) = (0 : Int) + 1)
    (en13 : (cnv (gst (G10.2.1 (F a 0)) (G10.2.1 (F a 1)) (G10.2.1 (F a 2)) (G10.2.1 (F a 3)) (Int.toNat ((G10.1 a 4).toInt)), (vw (G10.2.1 (F p0 0))))) ≤ 1259)
    (d_G2_a_4 : G2.1 a 4 = 0) :
    CZ (clsA G (G.2.2.1 (F p1 0))) (gst (G10.2.1 (F a 0)) (G10.2.1 (F a 1)) (G10.2.1 (F a 2)) (G10.2.1 (F a 3)) (Int.toNat (((G10.1 a 4).toInt))), (vw (G10.2.1 (F p0 0)))).1 := by
  have e4 : (G10.1 a 4).toInt = 0 + 1 := by omega
  have z4 : (G2.1 a 4).toInt = 0 := by rw [d_G2_a_4]; decide
  rw [z4] at oq10 oq10a oq10b oq10c
  have e := gst_g (n := 0) (by decide) oq10 oq10a oq10b oq10c
  rw [e4, e]
  exact CZ.cons (fun _ h => by cases h) (fun _ => rfl)
theorem v_X2_cutRow_14_18 {K : Nat → Nat} {F : Nat → Nat → Nat} (a : Nat) (p0 : Nat) (p1 : Nat) (G : XG) (G10 : XG) (G2 : XG) (p2 : Int32) (p3 : Int32)
    (ha : K a = 4)
    (hp0 : K p0 = 8)
    (hp1 : K p1 = 2)
    (oq10 : ∀ z : Int, 0 ≤ z → aI (G10.2.1 (F a 0)) z = if z = ((G2.1 a 4).toInt) then p2.toInt else aI (G.2.1 (F a 0)) z)
    (oq10a : ∀ z : Int, 0 ≤ z → aI (G10.2.1 (F a 1)) z = if z = ((G2.1 a 4).toInt) then p3.toInt else aI (G.2.1 (F a 1)) z)
    (oq10b : ∀ z : Int, 0 ≤ z → aI (G10.2.1 (F a 2)) z = if z = ((G2.1 a 4).toInt) then 0 else aI (G.2.1 (F a 2)) z)
    (oq10c : ∀ z : Int, 0 ≤ z → aI (G10.2.1 (F a 3)) z = if z = ((G2.1 a 4).toInt) then 0 else aI (G.2.1 (F a 3)) z)
    (oq10d : (vw (G10.2.1 (F p0 0))) = rfil (vw (G.2.1 (F p0 0))) p2.toInt p3.toInt (-2000) 3)
    (e1 : 0 ≤ p2.toInt ∧ p2.toInt < 3 ∧ 0 ≤ p3.toInt ∧ p3.toInt < 30)
    (e3 : (cel (vw (G.2.1 (F p0 0))) (p2.toInt) (p3.toInt) 0) ≠ -2000)
    (t10 : ((G10.1 a 4).toInt) = (0 : Int) + 1)
    (en13 : (cnv (gst (G10.2.1 (F a 0)) (G10.2.1 (F a 1)) (G10.2.1 (F a 2)) (G10.2.1 (F a 3)) (Int.toNat ((G10.1 a 4).toInt)), (vw (G10.2.1 (F p0 0))))) ≤ 1259)
    (d_G2_a_4 : G2.1 a 4 = 0) :
    cfin (clsA G (G.2.2.1 (F p1 0))) (clsT G (G.2.2.1 (F p1 0))) (clsC G (G.2.2.1 (F p1 0))) (gst (G10.2.1 (F a 0)) (G10.2.1 (F a 1)) (G10.2.1 (F a 2)) (G10.2.1 (F a 3)) (Int.toNat (((G10.1 a 4).toInt))), (vw (G10.2.1 (F p0 0)))) = cfin (clsA G (G.2.2.1 (F p1 0))) (clsT G (G.2.2.1 (F p1 0))) (clsC G (G.2.2.1 (F p1 0))) ([(p2.toInt, p3.toInt, 0, 0)], rfil (vw (G.2.1 (F p0 0))) p2.toInt p3.toInt (-2000) 3) := by
  have e4 : (G10.1 a 4).toInt = 0 + 1 := by omega
  have z4 : (G2.1 a 4).toInt = 0 := by rw [d_G2_a_4]; decide
  rw [z4] at oq10 oq10a oq10b oq10c
  have e := gst_g (n := 0) (by decide) oq10 oq10a oq10b oq10c
  rw [e4, e, oq10d]
  rfl
theorem v_X2_cutRow_14_19 {F : Nat → Nat → Nat} (p0 : Nat) (G10 : XG)
    (oq10e : RO (vw (G10.2.1 (F p0 0))) (aI (G10.2.1 (F p0 1)))) :
    RO (vw (G10.2.1 (F p0 0))) (aI (G10.2.1 (F p0 1))) := by
  exact oq10e
theorem z_X2_goOn_1 (a0 : Int) (h0 : 1 ≤ a0 ∧ a0 ≤ 90) : 0 < a0 := by omega
theorem z_X2_goOn_2 (a0 : Int) (a1 : Int) (h0 : 1 ≤ a1 ∧ a1 ≤ 90) (h1 : a0 = (a1 - (1 : Int)) ∨ (a1 - (1 : Int)) < -2147483648 ∨ 2147483648 ≤ (a1 - (1 : Int))) : a0 = (a1 - (1 : Int)) := by omega
theorem z_X2_goOn_3 (a0 : Int) (h0 : 1 ≤ a0 ∧ a0 ≤ 90) : 0 ≤ a0 ∧ a0 ≤ 90 := by omega
theorem z_X2_goOn_4 (a0 : Int) (h0 : 1 ≤ a0 ∧ a0 ≤ 90) : 0 ≤ (a0 - (1 : Int)) ∧ (a0 - (1 : Int)) < ((90 : Nat) : Int) := by omega
theorem z_X2_goOn_5 (a0 : Int) : (a0 - (1 : Int)) = a0 - 1 := by omega
theorem z_X2_goOn_10 (a0 : Int) (a1 : Int) (a2 : Int) (a3 : Int) (a4 : Int) (a5 : Int) (a6 : Int) (h0 : ((0 ≤ a2 ∧ a2 < 3) ∧ (0 ≤ a3 ∧ a3 < 30) ∧ (0 ≤ a4 ∧ a4 ≤ 12) ∧ (0 ≤ a5 ∧ a5 ≤ 30)) ∧ a1 + a6 ≤ 90) (h1 : a0 = (a4 + (1 : Int)) ∨ (a4 + (1 : Int)) < -2147483648 ∨ 2147483648 ≤ (a4 + (1 : Int))) : a0 = (a4 + (1 : Int)) := by omega
theorem z_X2_goOn_22 (a0 : Int) (a1 : Int) (a2 : Int) (a3 : Int) (a4 : Int) (a5 : Int) (h0 : ((0 ≤ a1 ∧ a1 < 3) ∧ (0 ≤ a2 ∧ a2 < 30) ∧ (0 ≤ a3 ∧ a3 ≤ 12) ∧ (0 ≤ a4 ∧ a4 ≤ 30)) ∧ a0 + a5 ≤ 90) (h1 : a3 < (12 : Int)) : 0 ≤ a3 ∧ a3 < 12 := by omega
theorem z_X2_goOn_27 (a0 : Int) (a1 : Int) (a2 : Int) (a3 : Int) (a4 : Int) (a5 : Int) (h0 : ((0 ≤ a1 ∧ a1 < 3) ∧ (0 ≤ a2 ∧ a2 < 30) ∧ (0 ≤ a3 ∧ a3 ≤ 12) ∧ (0 ≤ a4 ∧ a4 ≤ 30)) ∧ a0 + a5 ≤ 90) : 0 ≤ a4 ∧ a4 ≤ 30 := by omega
theorem z_X2_goOn_34 (a0 : Int) (a1 : Int) (h0 : -1 ≤ a0 ∧ a0 < 30) (h1 : a1 = (a0 + (1 : Int)) ∨ (a0 + (1 : Int)) < -2147483648 ∨ 2147483648 ≤ (a0 + (1 : Int))) : a1 = (a0 + (1 : Int)) := by omega
theorem z_X2_goOn_36 (a0 : Int) (a1 : Int) (a2 : Int) (h0 : (0 ≤ a1 ∧ a1 ≤ 2) ∧ (0 ≤ a2 ∧ a2 ≤ 2)) (h1 : -1 ≤ a0 ∧ a0 < 30) (h2 : ¬ (a0 = (-1 : Int))) : 0 ≤ a1 ∧ a1 < 3 ∧ 0 ≤ a0 ∧ a0 < 30 := by omega
theorem z_X2_goOn_37 (a0 : Int) (a1 : Int) (a2 : Int) (a3 : Int) (a4 : Int) (a5 : Int) (h0 : 1 ≤ a0 ∧ a0 ≤ 90) (h1 : ((0 ≤ a1 ∧ a1 < 3) ∧ (0 ≤ a2 ∧ a2 < 30) ∧ (0 ≤ a3 ∧ a3 ≤ 12) ∧ (0 ≤ a4 ∧ a4 ≤ 30)) ∧ a0 + a5 ≤ 90) (h2 : 1 ≤ a5) : 0 ≤ a0 ∧ a0 < 90 := by omega
theorem z_X2_goOn_38 (a0 : Int) (a1 : Int) (a2 : Int) (a3 : Int) (a4 : Int) (a5 : Int) (a6 : Int) (h0 : 1 ≤ a0 ∧ a0 ≤ 90) (h1 : ((0 ≤ a2 ∧ a2 < 3) ∧ (0 ≤ a3 ∧ a3 < 30) ∧ (0 ≤ a4 ∧ a4 ≤ 12) ∧ (0 ≤ a5 ∧ a5 ≤ 30)) ∧ a0 + a6 ≤ 90) (h2 : 1 ≤ a6) (h3 : a1 = a0 + 1) : 0 ≤ a1 ∧ a1 ≤ 90 := by omega
theorem z_X2_goOn_41 (a0 : Int) (a1 : Int) (a2 : Int) (a3 : Int) (a4 : Int) (a5 : Int) (h0 : ((0 ≤ a1 ∧ a1 < 3) ∧ (0 ≤ a2 ∧ a2 < 30) ∧ (0 ≤ a3 ∧ a3 ≤ 12) ∧ (0 ≤ a4 ∧ a4 ≤ 30)) ∧ a0 + a5 ≤ 90) : 0 ≤ a2 ∧ a2 < 30 := by omega
theorem z_X2_goOn_49 (a0 : Int) (h0 : 1 ≤ a0 ∧ a0 ≤ 90) : 0 ≤ (a0 - (1 : Int)) ∧ (a0 - (1 : Int)) ≤ 90 := by omega
abbrev rm_X2_goOn : Room := { frames := 4, cells := 0, slots := 0, locals := 90 }
set_option maxHeartbeats 4000000 in
set_option maxRecDepth 100000 in
theorem c_X2_goOn (l : Launch) (E : XE) (K : Nat → Nat) (F : Nat → Nat → Nat) (G : XG) (a : Nat) (p0 : Nat) (p1 : Nat) (ha : K a = 4) (hp0 : K p0 = 8) (hp1 : K p1 = 2) (e0 : 1 ≤ ((G.1 a 4).toInt) ∧ ((G.1 a 4).toInt) ≤ 90) (hro : RO (vw (G.2.1 (F p0 0))) (aI (G.2.1 (F p0 1)))) (bkn : BKr K G (G.2.2.1 (F p1 0))) (hac : ACo G (G.2.2.1 (F p1 0))) (hiv : CIv (gst (G.2.1 (F a 0)) (G.2.1 (F a 1)) (G.2.1 (F a 2)) (G.2.1 (F a 3)) (Int.toNat (((G.1 a 4).toInt))), (vw (G.2.1 (F p0 0))))) (hcz : CZ (clsA G (G.2.2.1 (F p1 0))) (gst (G.2.1 (F a 0)) (G.2.1 (F a 1)) (G.2.1 (F a 2)) (G.2.1 (F a 3)) (Int.toNat (((G.1 a 4).toInt))), (vw (G.2.1 (F p0 0)))).1) : Met l yX2_goOn (xw yX2_goOn cX2_goOn 6 none) rm_X2_goOn (va_Pc [.ref a, .ref p0, .ref p1] (XP E K F G)) (XQv E (fun (u : XG) => XFr [(a, 4)] [F a 0, F a 1, F a 2, F a 3, F p0 0, F p0 1] [] G u ∧ (0 ≤ ((u.1 a 4).toInt) ∧ ((u.1 a 4).toInt) ≤ 90) ∧ (CGo (clsA G (G.2.2.1 (F p1 0))) (clsT G (G.2.2.1 (F p1 0))) (clsC G (G.2.2.1 (F p1 0))) (gst (G.2.1 (F a 0)) (G.2.1 (F a 1)) (G.2.1 (F a 2)) (G.2.1 (F a 3)) (Int.toNat (((G.1 a 4).toInt))), (vw (G.2.1 (F p0 0)))) (gst (u.2.1 (F a 0)) (u.2.1 (F a 1)) (u.2.1 (F a 2)) (u.2.1 (F a 3)) (Int.toNat (((u.1 a 4).toInt))), (vw (u.2.1 (F p0 0))))) ∧ (RO (vw (u.2.1 (F p0 0))) (aI (u.2.1 (F p0 1))))) (fun u H => TW E K F u H)) 0 0 (xA E) := by
  refine x_enter (by decide) (Nat.le_of_ble_eq_true rfl) ?_
  intro p e s m args below meth c Q S hr hlk hnm hQ hP ls hl
  obtain ⟨hz, hK, hT⟩ := hP
  obtain ⟨hx, hb, -, -, -⟩ := id S
  obtain ⟨H, hT, hS, hgo⟩ : ∃ H : Heap, TW E K F G H ∧ va_S (xA E) s.heap H [] ∧ H = s.heap := ⟨_, hT, va_S.rf, rfl⟩
  rw [← hgo]
  have hl : lv_has ls 6 [(0, .ref a), (1, .ref p0), (2, .ref p1)] := hl
  obtain ⟨hk9999, hj9999⟩ := fkX2_0 hT ha
  obtain ⟨hk9999a, hj9999a⟩ := fkX2_1 hT ha
  obtain ⟨hk9999b, hj9999b⟩ := fkX2_2 hT ha
  obtain ⟨hk9999c, hj9999c⟩ := fkX2_3 hT ha
  obtain ⟨hk9999d, hj9999d⟩ := fkX6_0 hT hp0
  obtain ⟨hk9999e, hj9999e⟩ := fkX6_1 hT hp0
  obtain ⟨hk9999f, hj9999f⟩ := fkX0_0 hT hp1
  have z0 : ((0 ≤ (aI (G.2.1 (F a 0)) (((G.1 a 4).toInt) - 1)) ∧ (aI (G.2.1 (F a 0)) (((G.1 a 4).toInt) - 1)) < 3) ∧ (0 ≤ (aI (G.2.1 (F a 1)) (((G.1 a 4).toInt) - 1)) ∧ (aI (G.2.1 (F a 1)) (((G.1 a 4).toInt) - 1)) < 30) ∧ (0 ≤ (aI (G.2.1 (F a 2)) (((G.1 a 4).toInt) - 1)) ∧ (aI (G.2.1 (F a 2)) (((G.1 a 4).toInt) - 1)) ≤ 12) ∧ (0 ≤ (aI (G.2.1 (F a 3)) (((G.1 a 4).toInt) - 1)) ∧ (aI (G.2.1 (F a 3)) (((G.1 a 4).toInt) - 1)) ≤ 30)) ∧ ((G.1 a 4).toInt) + (pn (vw (G.2.1 (F p0 0)))) ≤ 90 := gst_top (z_X2_goOn_1 ((G.1 a 4).toInt) e0) hiv
  refine lv_aload_n hx hb dX2_goOn_0 rfl (lv_at hl 0 rfl) ?_
  refine gX2_4 S hK hT ha kf_X2_24 dX2_goOn_1 (v := (G.1 a 4)) rfl (?_)
  refine lv_iconst (v := 1) hx hb dX2_goOn_4 (by decide) ?_
  refine xi_isub hx hb (rfl : Int32.toInt (G.1 a 4) = ((G.1 a 4).toInt)) ((by decide) : Int32.toInt 1 = (1 : Int)) dX2_goOn_5 (fun x5 t5 => ?_)
  have e5 : x5.toInt = (((G.1 a 4).toInt) - (1 : Int)) := (z_X2_goOn_2 x5.toInt ((G.1 a 4).toInt) e0 t5)
  refine lv_istore_n (lv' := [(3, .int x5), (0, .ref a), (1, .ref p0), (2, .ref p1)]) hx hb dX2_goOn_6 rfl hl (by decide) rfl (fun ls hl => ?_)
  refine lv_iload_n hx hb dX2_goOn_7 rfl (lv_at hl 0 rfl) ?_
  refine xi_zlt (tgt := 17) hx hb (e5 : Int32.toInt x5 = (((G.1 a 4).toInt) - (1 : Int))) dX2_goOn_8 (by decide) (fun c8 => ?_) (fun c8 => ?_)
  · exact x_rv hx hb hr hlk hQ (Nat.le_of_ble_eq_true rfl) (Nat.le_of_ble_eq_true rfl) hS dX2_goOn_17 G ⟨XFr.rf, (z_X2_goOn_3 ((G.1 a 4).toInt) e0), (v_X2_goOn_17_1 (K := K) (F := F) a p0 p1 G ha hp0 hp1 hcz e0 z0 c8), (v_X2_goOn_17_2 (K := K) (F := F) a p0 p1 G ha hp0 hp1 hcz e0 z0 c8)⟩ hT
  · refine lv_iload_n hx hb dX2_goOn_11 rfl (lv_at hl 0 rfl) ?_
    refine lv_bipush (v := 90) hx hb dX2_goOn_12 (by decide) ?_
    refine xi_clt (tgt := 18) hx hb (e5 : Int32.toInt x5 = (((G.1 a 4).toInt) - (1 : Int))) ((by decide) : Int32.toInt 90 = (90 : Int)) dX2_goOn_14 (by decide) (fun c14 => ?_) (fun c14 => ?_)
    · refine lv_aload_n hx hb dX2_goOn_18 rfl (lv_at hl 1 rfl) ?_
      refine gX2_2 S hK hT ha kf_X2_18 dX2_goOn_19 (fun _ _ => ?_)
      refine lv_iload_n hx hb dX2_goOn_22 rfl (lv_at hl 0 rfl) ?_
      refine al_0 S hK hT hk9999b ar_24 (by decide) (by rw [(e5 : Int32.toInt x5 = (((G.1 a 4).toInt) - (1 : Int)))]; exact (z_X2_goOn_4 ((G.1 a 4).toInt) e0)) dX2_goOn_23 (fun x23 hv23 o23 => ?_)
      have hv23 : x23.toInt = (aI (G.2.1 (F a 2)) (((G.1 a 4).toInt) - 1)) := hv23.trans (by rw [((e5 : Int32.toInt x5 = (((G.1 a 4).toInt) - (1 : Int))).trans (z_X2_goOn_5 ((G.1 a 4).toInt)))])
      refine lv_bipush (v := 12) hx hb dX2_goOn_24 (by decide) ?_
      refine xi_clt (tgt := 40) hx hb (hv23 : Int32.toInt x23 = (aI (G.2.1 (F a 2)) (((G.1 a 4).toInt) - 1))) ((by decide) : Int32.toInt 12 = (12 : Int)) dX2_goOn_26 (by decide) (fun c26 => ?_) (fun c26 => ?_)
      · refine lv_aload_n hx hb dX2_goOn_40 rfl (lv_at hl 3 rfl) ?_
        refine lv_aload_n hx hb dX2_goOn_41 rfl (lv_at hl 1 rfl) ?_
        refine gX2_2 S hK hT ha kf_X2_18 dX2_goOn_42 (fun _ _ => ?_)
        refine lv_iload_n hx hb dX2_goOn_45 rfl (lv_at hl 0 rfl) ?_
        refine al_0 S hK hT hk9999b ar_24 (by decide) (by rw [(e5 : Int32.toInt x5 = (((G.1 a 4).toInt) - (1 : Int)))]; exact (z_X2_goOn_4 ((G.1 a 4).toInt) e0)) dX2_goOn_46 (fun x46 hv46 o46 => ?_)
        have hv46 : x46.toInt = (aI (G.2.1 (F a 2)) (((G.1 a 4).toInt) - 1)) := hv46.trans (by rw [((e5 : Int32.toInt x5 = (((G.1 a 4).toInt) - (1 : Int))).trans (z_X2_goOn_5 ((G.1 a 4).toInt)))])
        refine x_clp (x_runV (b := p1) (As := [.int x46]) (rest := []) S (c_X0_get l E K F G H p1 x46 hp1) mv_X0_get km_X2_42 rfl rfl ⟨Nat.le_of_ble_eq_true rfl, Nat.le_of_ble_eq_true rfl⟩ (rc_2 hK hT hp1) hK (fun _ => XPh.blind) (fun U hU hW => XPh.at hK hz hS hT hU hW) rfl hl.1 (Nat.le_of_ble_eq_true rfl) dX2_goOn_47 ⟨Nat.le_of_ble_eq_true rfl, Nat.le_of_ble_eq_true rfl⟩) hS ?_
        rintro _ _ locs (⟨rfl, hn47⟩ | ⟨q47, rfl, hk47, ht47, hs47⟩) hS
        · have hn47 : ((aI (G.2.1 (F a 2)) (((G.1 a 4).toInt) - 1)) < 0 ∨ 12 ≤ (aI (G.2.1 (F a 2)) (((G.1 a 4).toInt) - 1))) ∨ G.2.2.1 (F p1 0) ((aI (G.2.1 (F a 2)) (((G.1 a 4).toInt) - 1))).toNat = none := by rw [(hv46 : Int32.toInt x46 = (aI (G.2.1 (F a 2)) (((G.1 a 4).toInt) - 1)))] at hn47; exact hn47
          refine lv_astoreN (lv' := [(4, .null), (3, .int x5), (0, .ref a), (1, .ref p0), (2, .ref p1)]) hx hb dX2_goOn_50 hl (by decide) rfl (fun ls hl => ?_)
          refine lv_aloadN hx hb dX2_goOn_52 (lv_at hl 0 rfl) ?_
          refine lv_ifnullN (tgt := 147) hx hb dX2_goOn_54 (by decide) ?_
          refine lv_aload_n hx hb dX2_goOn_147 rfl (lv_at hl 2 rfl) ?_
          refine gX2_2 S hK hT ha kf_X2_18 dX2_goOn_148 (fun _ _ => ?_)
          refine lv_iload_n hx hb dX2_goOn_151 rfl (lv_at hl 1 rfl) ?_
          refine lv_dup2_11 hx hb dX2_goOn_152 rfl rfl ?_
          refine al_0 S hK hT hk9999b ar_24 (by decide) (by rw [(e5 : Int32.toInt x5 = (((G.1 a 4).toInt) - (1 : Int)))]; exact (z_X2_goOn_4 ((G.1 a 4).toInt) e0)) dX2_goOn_153 (fun x153 hv153 o153 => ?_)
          have hv153 : x153.toInt = (aI (G.2.1 (F a 2)) (((G.1 a 4).toInt) - 1)) := hv153.trans (by rw [((e5 : Int32.toInt x5 = (((G.1 a 4).toInt) - (1 : Int))).trans (z_X2_goOn_5 ((G.1 a 4).toInt)))])
          refine lv_iconst (v := 1) hx hb dX2_goOn_154 (by decide) ?_
          refine xi_iadd hx hb (hv153 : Int32.toInt x153 = (aI (G.2.1 (F a 2)) (((G.1 a 4).toInt) - 1))) ((by decide) : Int32.toInt 1 = (1 : Int)) dX2_goOn_155 (fun x155 t155 => ?_)
          have e155 : x155.toInt = ((aI (G.2.1 (F a 2)) (((G.1 a 4).toInt) - 1)) + (1 : Int)) := (z_X2_goOn_10 x155.toInt ((G.1 a 4).toInt) (aI (G.2.1 (F a 0)) (((G.1 a 4).toInt) - 1)) (aI (G.2.1 (F a 1)) (((G.1 a 4).toInt) - 1)) (aI (G.2.1 (F a 2)) (((G.1 a 4).toInt) - 1)) (aI (G.2.1 (F a 3)) (((G.1 a 4).toInt) - 1)) (pn (vw (G.2.1 (F p0 0)))) z0 t155)
          refine as_0 (x := x155) S hK hT hS hk9999b ar_24 aw_24 (by decide) (by rw [(e5 : Int32.toInt x5 = (((G.1 a 4).toInt) - (1 : Int)))]; exact (z_X2_goOn_4 ((G.1 a 4).toInt) e0)) dX2_goOn_156 (fun H locs hT hS => ?_)
          obtain ⟨G156, hG156⟩ : ∃ GG : XG, GG = cput G (F a 2) x5.toNatClampNeg x155 := ⟨_, rfl⟩
          rw [← hG156] at hT
          refine lv_aload_n hx hb dX2_goOn_157 rfl (lv_at hl 2 rfl) ?_
          refine gX2_3 S hK hT ha kf_X2_21 dX2_goOn_158 (fun _ _ => ?_)
          refine lv_iload_n hx hb dX2_goOn_161 rfl (lv_at hl 1 rfl) ?_
          refine lv_iconst (v := 0) hx hb dX2_goOn_162 (by decide) ?_
          refine as_0 (x := 0) S hK hT hS hk9999c ar_24 aw_24 (by decide) (by rw [(e5 : Int32.toInt x5 = (((G.1 a 4).toInt) - (1 : Int)))]; exact (z_X2_goOn_4 ((G.1 a 4).toInt) e0)) dX2_goOn_163 (fun H locs hT hS => ?_)
          obtain ⟨G163, hG163⟩ : ∃ GG : XG, GG = cput G156 (F a 3) x5.toNatClampNeg 0 := ⟨_, rfl⟩
          rw [← hG163] at hT
          exact x_rv hx hb hr hlk hQ (Nat.le_of_ble_eq_true rfl) (Nat.le_of_ble_eq_true rfl) hS dX2_goOn_164 G163 ⟨(by rw [hG163]; exact XFr.cput (by rw [hG156]; exact XFr.cput XFr.rf (List.mem_of_getElem? (i := 2) rfl)) (List.mem_of_getElem? (i := 3) rfl)), (by rw [(show (G163.1 a 4).toInt = ((G.1 a 4).toInt) from (congrArg Int32.toInt ((lc_d hG163).trans (lc_d hG156))).trans (rfl : Int32.toInt (G.1 a 4) = ((G.1 a 4).toInt)))] <;> exact (z_X2_goOn_3 ((G.1 a 4).toInt) e0)), (v_X2_goOn_164_3 (K := K) (F := F) a p0 p1 G156 G x5 x155 G163 ha hp0 hp1 hG156 hG163 bkn hiv hcz e5 hn47 e155 e0 z0 c8 c14 c26 (lc_c hG156 (xne_j hj9999c hj9999b (by first | decide | omega))) ((lc_c hG163 (xne_j hj9999 hj9999c (by first | decide | omega))).trans (lc_c hG156 (xne_j hj9999 hj9999b (by first | decide | omega)))) ((lc_c hG163 (xne_j hj9999a hj9999c (by first | decide | omega))).trans (lc_c hG156 (xne_j hj9999a hj9999b (by first | decide | omega)))) (lc_c hG163 (xne_j hj9999b hj9999c (by first | decide | omega))) ((lc_c hG163 (xne_k hk9999d hk9999c (by decide))).trans (lc_c hG156 (xne_k hk9999d hk9999b (by decide)))) ((lc_d hG163).trans (lc_d hG156))), (v_X2_goOn_164_4 (F := F) p0 G G163 hro ((lc_c hG163 (xne_k hk9999d hk9999c (by decide))).trans (lc_c hG156 (xne_k hk9999d hk9999b (by decide)))) ((lc_c hG163 (xne_k hk9999e hk9999c (by decide))).trans (lc_c hG156 (xne_k hk9999e hk9999b (by decide)))))⟩ hT
        · have ht47 : 0 ≤ (aI (G.2.1 (F a 2)) (((G.1 a 4).toInt) - 1)) ∧ (aI (G.2.1 (F a 2)) (((G.1 a 4).toInt) - 1)) < 12 := by rw [(hv46 : Int32.toInt x46 = (aI (G.2.1 (F a 2)) (((G.1 a 4).toInt) - 1)))] at ht47; exact ht47
          have hs47 : G.2.2.1 (F p1 0) ((aI (G.2.1 (F a 2)) (((G.1 a 4).toInt) - 1))).toNat = some q47 := by rw [(hv46 : Int32.toInt x46 = (aI (G.2.1 (F a 2)) (((G.1 a 4).toInt) - 1)))] at hs47; exact hs47
          refine lv_astore (lv' := [(4, .ref q47), (3, .int x5), (0, .ref a), (1, .ref p0), (2, .ref p1)]) hx hb dX2_goOn_50 hl (by decide) rfl (fun ls hl => ?_)
          refine lv_aload hx hb dX2_goOn_52 (lv_at hl 0 rfl) ?_
          refine lv_ifnull hx hb dX2_goOn_54 ?_
          refine lv_aload hx hb dX2_goOn_57 (lv_at hl 0 rfl) ?_
          refine lv_aload_n hx hb dX2_goOn_59 rfl (lv_at hl 2 rfl) ?_
          refine gX2_0 S hK hT ha kf_X2_11 dX2_goOn_60 (fun _ _ => ?_)
          refine lv_iload_n hx hb dX2_goOn_63 rfl (lv_at hl 1 rfl) ?_
          refine al_0 S hK hT hk9999 ar_24 (by decide) (by rw [(e5 : Int32.toInt x5 = (((G.1 a 4).toInt) - (1 : Int)))]; exact (z_X2_goOn_4 ((G.1 a 4).toInt) e0)) dX2_goOn_64 (fun x64 hv64 o64 => ?_)
          have hv64 : x64.toInt = (aI (G.2.1 (F a 0)) (((G.1 a 4).toInt) - 1)) := hv64.trans (by rw [((e5 : Int32.toInt x5 = (((G.1 a 4).toInt) - (1 : Int))).trans (z_X2_goOn_5 ((G.1 a 4).toInt)))])
          refine x_clp (x_runV (b := q47) (As := [.int x64]) (rest := []) S (c_X7_follows l E K F G H q47 x64 hk47) mv_X7_follows km_X2_48 rfl rfl ⟨Nat.le_of_ble_eq_true rfl, Nat.le_of_ble_eq_true rfl⟩ (rc_9 hK hT hk47) hK (fun _ => XPh.blind) (fun U hU hW => XPh.at hK hz hS hT hU hW) rfl hl.1 (Nat.le_of_ble_eq_true rfl) dX2_goOn_65 ⟨Nat.le_of_ble_eq_true rfl, Nat.le_of_ble_eq_true rfl⟩) hS ?_
          rintro _ _ locs ⟨x65, rfl, b65, t65⟩ hS
          have t65 : ((((G.1 q47 0).toInt) = 1 ∧ ((G.1 q47 4).toInt) = (aI (G.2.1 (F a 0)) (((G.1 a 4).toInt) - 1)) ∧ ((G.1 q47 7).toInt) ≠ 0) ∧ x65.toInt = 1) ∨ (¬ (((G.1 q47 0).toInt) = 1 ∧ ((G.1 q47 4).toInt) = (aI (G.2.1 (F a 0)) (((G.1 a 4).toInt) - 1)) ∧ ((G.1 q47 7).toInt) ≠ 0) ∧ x65.toInt = 0) := by rw [(hv64 : Int32.toInt x64 = (aI (G.2.1 (F a 0)) (((G.1 a 4).toInt) - 1)))] at t65; exact t65
          refine xi_zeq (tgt := 147) hx hb (rfl : Int32.toInt x65 = x65.toInt) dX2_goOn_68 (by decide) (fun c68 => ?_) (fun c68 => ?_)
          · refine lv_aload_n hx hb dX2_goOn_147 rfl (lv_at hl 2 rfl) ?_
            refine gX2_2 S hK hT ha kf_X2_18 dX2_goOn_148 (fun _ _ => ?_)
            refine lv_iload_n hx hb dX2_goOn_151 rfl (lv_at hl 1 rfl) ?_
            refine lv_dup2_11 hx hb dX2_goOn_152 rfl rfl ?_
            refine al_0 S hK hT hk9999b ar_24 (by decide) (by rw [(e5 : Int32.toInt x5 = (((G.1 a 4).toInt) - (1 : Int)))]; exact (z_X2_goOn_4 ((G.1 a 4).toInt) e0)) dX2_goOn_153 (fun x153 hv153 o153 => ?_)
            have hv153 : x153.toInt = (aI (G.2.1 (F a 2)) (((G.1 a 4).toInt) - 1)) := hv153.trans (by rw [((e5 : Int32.toInt x5 = (((G.1 a 4).toInt) - (1 : Int))).trans (z_X2_goOn_5 ((G.1 a 4).toInt)))])
            refine lv_iconst (v := 1) hx hb dX2_goOn_154 (by decide) ?_
            refine xi_iadd hx hb (hv153 : Int32.toInt x153 = (aI (G.2.1 (F a 2)) (((G.1 a 4).toInt) - 1))) ((by decide) : Int32.toInt 1 = (1 : Int)) dX2_goOn_155 (fun x155 t155 => ?_)
            have e155 : x155.toInt = ((aI (G.2.1 (F a 2)) (((G.1 a 4).toInt) - 1)) + (1 : Int)) := (z_X2_goOn_10 x155.toInt ((G.1 a 4).toInt) (aI (G.2.1 (F a 0)) (((G.1 a 4).toInt) - 1)) (aI (G.2.1 (F a 1)) (((G.1 a 4).toInt) - 1)) (aI (G.2.1 (F a 2)) (((G.1 a 4).toInt) - 1)) (aI (G.2.1 (F a 3)) (((G.1 a 4).toInt) - 1)) (pn (vw (G.2.1 (F p0 0)))) z0 t155)
            refine as_0 (x := x155) S hK hT hS hk9999b ar_24 aw_24 (by decide) (by rw [(e5 : Int32.toInt x5 = (((G.1 a 4).toInt) - (1 : Int)))]; exact (z_X2_goOn_4 ((G.1 a 4).toInt) e0)) dX2_goOn_156 (fun H locs hT hS => ?_)
            obtain ⟨G156, hG156⟩ : ∃ GG : XG, GG = cput G (F a 2) x5.toNatClampNeg x155 := ⟨_, rfl⟩
            rw [← hG156] at hT
            refine lv_aload_n hx hb dX2_goOn_157 rfl (lv_at hl 2 rfl) ?_
            refine gX2_3 S hK hT ha kf_X2_21 dX2_goOn_158 (fun _ _ => ?_)
            refine lv_iload_n hx hb dX2_goOn_161 rfl (lv_at hl 1 rfl) ?_
            refine lv_iconst (v := 0) hx hb dX2_goOn_162 (by decide) ?_
            refine as_0 (x := 0) S hK hT hS hk9999c ar_24 aw_24 (by decide) (by rw [(e5 : Int32.toInt x5 = (((G.1 a 4).toInt) - (1 : Int)))]; exact (z_X2_goOn_4 ((G.1 a 4).toInt) e0)) dX2_goOn_163 (fun H locs hT hS => ?_)
            obtain ⟨G163, hG163⟩ : ∃ GG : XG, GG = cput G156 (F a 3) x5.toNatClampNeg 0 := ⟨_, rfl⟩
            rw [← hG163] at hT
            exact x_rv hx hb hr hlk hQ (Nat.le_of_ble_eq_true rfl) (Nat.le_of_ble_eq_true rfl) hS dX2_goOn_164 G163 ⟨(by rw [hG163]; exact XFr.cput (by rw [hG156]; exact XFr.cput XFr.rf (List.mem_of_getElem? (i := 2) rfl)) (List.mem_of_getElem? (i := 3) rfl)), (by rw [(show (G163.1 a 4).toInt = ((G.1 a 4).toInt) from (congrArg Int32.toInt ((lc_d hG163).trans (lc_d hG156))).trans (rfl : Int32.toInt (G.1 a 4) = ((G.1 a 4).toInt)))] <;> exact (z_X2_goOn_3 ((G.1 a 4).toInt) e0)), (v_X2_goOn_164_5 (K := K) (F := F) a p0 p1 q47 G156 G x5 x155 G163 x65 ha hp0 hp1 hG156 hG163 bkn hac hiv hcz e5 hs47 e155 e0 z0 c8 c14 c26 ht47 t65 c68 (lc_c hG156 (xne_j hj9999c hj9999b (by first | decide | omega))) ((lc_c hG163 (xne_j hj9999 hj9999c (by first | decide | omega))).trans (lc_c hG156 (xne_j hj9999 hj9999b (by first | decide | omega)))) ((lc_c hG163 (xne_j hj9999a hj9999c (by first | decide | omega))).trans (lc_c hG156 (xne_j hj9999a hj9999b (by first | decide | omega)))) (lc_c hG163 (xne_j hj9999b hj9999c (by first | decide | omega))) ((lc_c hG163 (xne_k hk9999d hk9999c (by decide))).trans (lc_c hG156 (xne_k hk9999d hk9999b (by decide)))) ((lc_d hG163).trans (lc_d hG156))), (v_X2_goOn_164_6 (F := F) p0 G G163 hro ((lc_c hG163 (xne_k hk9999d hk9999c (by decide))).trans (lc_c hG156 (xne_k hk9999d hk9999b (by decide)))) ((lc_c hG163 (xne_k hk9999e hk9999c (by decide))).trans (lc_c hG156 (xne_k hk9999e hk9999b (by decide)))))⟩ hT
          · have z71 : (0 ≤ ((G.1 q47 2).toInt) ∧ ((G.1 q47 2).toInt) ≤ 2) ∧ (0 ≤ ((G.1 q47 3).toInt) ∧ ((G.1 q47 3).toInt) ≤ 2) := (fun h => ⟨h.2.1, h.2.2.1⟩) (bkn _ q47 (toNat_lt12 (z_X2_goOn_22 ((G.1 a 4).toInt) (aI (G.2.1 (F a 0)) (((G.1 a 4).toInt) - 1)) (aI (G.2.1 (F a 1)) (((G.1 a 4).toInt) - 1)) (aI (G.2.1 (F a 2)) (((G.1 a 4).toInt) - 1)) (aI (G.2.1 (F a 3)) (((G.1 a 4).toInt) - 1)) (pn (vw (G.2.1 (F p0 0)))) z0 c26)) hs47).2.f
            refine lv_aload hx hb dX2_goOn_71 (lv_at hl 0 rfl) ?_
            refine gX7_7 S hK hT hk47 kf_X2_54 dX2_goOn_73 (v := (G.1 q47 7)) rfl (?_)
            refine lv_iconst (v := 2) hx hb dX2_goOn_76 (by decide) ?_
            refine xi_cne (tgt := 98) hx hb (rfl : Int32.toInt (G.1 q47 7) = ((G.1 q47 7).toInt)) ((by decide) : Int32.toInt 2 = (2 : Int)) dX2_goOn_77 (by decide) (fun c77 => ?_) (fun c77 => ?_)
            · refine lv_aload_n hx hb dX2_goOn_98 rfl (lv_at hl 3 rfl) ?_
              refine lv_aload hx hb dX2_goOn_99 (lv_at hl 0 rfl) ?_
              refine lv_aload_n hx hb dX2_goOn_101 rfl (lv_at hl 2 rfl) ?_
              refine gX2_3 S hK hT ha kf_X2_21 dX2_goOn_102 (fun _ _ => ?_)
              refine lv_iload_n hx hb dX2_goOn_105 rfl (lv_at hl 1 rfl) ?_
              refine al_0 S hK hT hk9999c ar_24 (by decide) (by rw [(e5 : Int32.toInt x5 = (((G.1 a 4).toInt) - (1 : Int)))]; exact (z_X2_goOn_4 ((G.1 a 4).toInt) e0)) dX2_goOn_106 (fun x106 hv106 o106 => ?_)
              have hv106 : x106.toInt = (aI (G.2.1 (F a 3)) (((G.1 a 4).toInt) - 1)) := hv106.trans (by rw [((e5 : Int32.toInt x5 = (((G.1 a 4).toInt) - (1 : Int))).trans (z_X2_goOn_5 ((G.1 a 4).toInt)))])
              refine lv_aload_n hx hb dX2_goOn_107 rfl (lv_at hl 2 rfl) ?_
              refine gX2_1 S hK hT ha kf_X2_15 dX2_goOn_108 (fun _ _ => ?_)
              refine lv_iload_n hx hb dX2_goOn_111 rfl (lv_at hl 1 rfl) ?_
              refine al_0 S hK hT hk9999a ar_24 (by decide) (by rw [(e5 : Int32.toInt x5 = (((G.1 a 4).toInt) - (1 : Int)))]; exact (z_X2_goOn_4 ((G.1 a 4).toInt) e0)) dX2_goOn_112 (fun x112 hv112 o112 => ?_)
              have hv112 : x112.toInt = (aI (G.2.1 (F a 1)) (((G.1 a 4).toInt) - 1)) := hv112.trans (by rw [((e5 : Int32.toInt x5 = (((G.1 a 4).toInt) - (1 : Int))).trans (z_X2_goOn_5 ((G.1 a 4).toInt)))])
              refine x_clp (x_runS (As := [.ref p0, .ref q47, .int x106, .int x112]) (rest := []) S (c_X2_nextWith l E K F G H p0 q47 x106 x112 hp0 hk47 (by rw [(hv106 : Int32.toInt x106 = (aI (G.2.1 (F a 3)) (((G.1 a 4).toInt) - 1)))] <;> exact (z_X2_goOn_27 ((G.1 a 4).toInt) (aI (G.2.1 (F a 0)) (((G.1 a 4).toInt) - 1)) (aI (G.2.1 (F a 1)) (((G.1 a 4).toInt) - 1)) (aI (G.2.1 (F a 2)) (((G.1 a 4).toInt) - 1)) (aI (G.2.1 (F a 3)) (((G.1 a 4).toInt) - 1)) (pn (vw (G.2.1 (F p0 0)))) z0)) (v_X2_goOn_113_7 (K := K) (F := F) a p0 p1 q47 G x65 ha hp0 hp1 bkn hcz hs47 e0 z0 c8 c14 c26 ht47 t65 c68 z71 c77)) ms_X2_nextWith km_X2_79 rfl rfl ⟨Nat.le_of_ble_eq_true rfl, Nat.le_of_ble_eq_true rfl⟩ hK (fun _ => XPh.blind) (fun U hU hW => XPh.at hK hz hS hT hU hW) rfl hl.1 (Nat.le_of_ble_eq_true rfl) dX2_goOn_113 ⟨Nat.le_of_ble_eq_true rfl, Nat.le_of_ble_eq_true rfl⟩) hS ?_
              rintro _ _ locs ⟨x113, rfl, t113, oq113⟩ hS
              have t113 : -1 ≤ x113.toInt ∧ x113.toInt < 30 := t113
              have oq113 : (x113.toInt = -1 ∧ ∀ j : Int, (aI (G.2.1 (F a 3)) (((G.1 a 4).toInt) - 1)) ≤ j → j < 30 → cel (vw (G.2.1 (F p0 0))) ((G.1 q47 2).toInt) j ((G.1 q47 3).toInt) ≠ (aI (G.2.1 (F a 1)) (((G.1 a 4).toInt) - 1))) ∨ (((aI (G.2.1 (F a 3)) (((G.1 a 4).toInt) - 1)) ≤ x113.toInt ∧ x113.toInt < 30) ∧ cel (vw (G.2.1 (F p0 0))) ((G.1 q47 2).toInt) x113.toInt ((G.1 q47 3).toInt) = (aI (G.2.1 (F a 1)) (((G.1 a 4).toInt) - 1)) ∧ ∀ j : Int, (aI (G.2.1 (F a 3)) (((G.1 a 4).toInt) - 1)) ≤ j → j < x113.toInt → cel (vw (G.2.1 (F p0 0))) ((G.1 q47 2).toInt) j ((G.1 q47 3).toInt) ≠ (aI (G.2.1 (F a 1)) (((G.1 a 4).toInt) - 1))) := by simp only [(hv106 : Int32.toInt x106 = (aI (G.2.1 (F a 3)) (((G.1 a 4).toInt) - 1))), (hv112 : Int32.toInt x112 = (aI (G.2.1 (F a 1)) (((G.1 a 4).toInt) - 1)))] at oq113; exact oq113
              refine lv_istore (lv' := [(5, .int x113), (4, .ref q47), (3, .int x5), (0, .ref a), (1, .ref p0), (2, .ref p1)]) hx hb dX2_goOn_116 hl (by decide) rfl (fun ls hl => ?_)
              refine lv_iload hx hb dX2_goOn_118 (lv_at hl 0 rfl) ?_
              refine lv_iconst (v := (-1)) hx hb dX2_goOn_120 (by decide) ?_
              refine xi_ceq (tgt := 147) hx hb (rfl : Int32.toInt x113 = x113.toInt) ((by decide) : Int32.toInt (-1) = (-1 : Int)) dX2_goOn_121 (by decide) (fun c121 => ?_) (fun c121 => ?_)
              · refine lv_aload_n hx hb dX2_goOn_147 rfl (lv_at hl 3 rfl) ?_
                refine gX2_2 S hK hT ha kf_X2_18 dX2_goOn_148 (fun _ _ => ?_)
                refine lv_iload_n hx hb dX2_goOn_151 rfl (lv_at hl 2 rfl) ?_
                refine lv_dup2_11 hx hb dX2_goOn_152 rfl rfl ?_
                refine al_0 S hK hT hk9999b ar_24 (by decide) (by rw [(e5 : Int32.toInt x5 = (((G.1 a 4).toInt) - (1 : Int)))]; exact (z_X2_goOn_4 ((G.1 a 4).toInt) e0)) dX2_goOn_153 (fun x153 hv153 o153 => ?_)
                have hv153 : x153.toInt = (aI (G.2.1 (F a 2)) (((G.1 a 4).toInt) - 1)) := hv153.trans (by rw [((e5 : Int32.toInt x5 = (((G.1 a 4).toInt) - (1 : Int))).trans (z_X2_goOn_5 ((G.1 a 4).toInt)))])
                refine lv_iconst (v := 1) hx hb dX2_goOn_154 (by decide) ?_
                refine xi_iadd hx hb (hv153 : Int32.toInt x153 = (aI (G.2.1 (F a 2)) (((G.1 a 4).toInt) - 1))) ((by decide) : Int32.toInt 1 = (1 : Int)) dX2_goOn_155 (fun x155 t155 => ?_)
                have e155 : x155.toInt = ((aI (G.2.1 (F a 2)) (((G.1 a 4).toInt) - 1)) + (1 : Int)) := (z_X2_goOn_10 x155.toInt ((G.1 a 4).toInt) (aI (G.2.1 (F a 0)) (((G.1 a 4).toInt) - 1)) (aI (G.2.1 (F a 1)) (((G.1 a 4).toInt) - 1)) (aI (G.2.1 (F a 2)) (((G.1 a 4).toInt) - 1)) (aI (G.2.1 (F a 3)) (((G.1 a 4).toInt) - 1)) (pn (vw (G.2.1 (F p0 0)))) z0 t155)
                refine as_0 (x := x155) S hK hT hS hk9999b ar_24 aw_24 (by decide) (by rw [(e5 : Int32.toInt x5 = (((G.1 a 4).toInt) - (1 : Int)))]; exact (z_X2_goOn_4 ((G.1 a 4).toInt) e0)) dX2_goOn_156 (fun H locs hT hS => ?_)
                obtain ⟨G156, hG156⟩ : ∃ GG : XG, GG = cput G (F a 2) x5.toNatClampNeg x155 := ⟨_, rfl⟩
                rw [← hG156] at hT
                refine lv_aload_n hx hb dX2_goOn_157 rfl (lv_at hl 3 rfl) ?_
                refine gX2_3 S hK hT ha kf_X2_21 dX2_goOn_158 (fun _ _ => ?_)
                refine lv_iload_n hx hb dX2_goOn_161 rfl (lv_at hl 2 rfl) ?_
                refine lv_iconst (v := 0) hx hb dX2_goOn_162 (by decide) ?_
                refine as_0 (x := 0) S hK hT hS hk9999c ar_24 aw_24 (by decide) (by rw [(e5 : Int32.toInt x5 = (((G.1 a 4).toInt) - (1 : Int)))]; exact (z_X2_goOn_4 ((G.1 a 4).toInt) e0)) dX2_goOn_163 (fun H locs hT hS => ?_)
                obtain ⟨G163, hG163⟩ : ∃ GG : XG, GG = cput G156 (F a 3) x5.toNatClampNeg 0 := ⟨_, rfl⟩
                rw [← hG163] at hT
                exact x_rv hx hb hr hlk hQ (Nat.le_of_ble_eq_true rfl) (Nat.le_of_ble_eq_true rfl) hS dX2_goOn_164 G163 ⟨(by rw [hG163]; exact XFr.cput (by rw [hG156]; exact XFr.cput XFr.rf (List.mem_of_getElem? (i := 2) rfl)) (List.mem_of_getElem? (i := 3) rfl)), (by rw [(show (G163.1 a 4).toInt = ((G.1 a 4).toInt) from (congrArg Int32.toInt ((lc_d hG163).trans (lc_d hG156))).trans (rfl : Int32.toInt (G.1 a 4) = ((G.1 a 4).toInt)))] <;> exact (z_X2_goOn_3 ((G.1 a 4).toInt) e0)), (v_X2_goOn_164_8 (K := K) (F := F) a p0 p1 q47 G156 G x5 x155 G163 x113 x65 ha hp0 hp1 hG156 hG163 bkn hac hiv hcz e5 hs47 oq113 e155 e0 z0 c8 c14 c26 ht47 t65 c68 z71 c77 t113 c121 (lc_c hG156 (xne_j hj9999c hj9999b (by first | decide | omega))) ((lc_c hG163 (xne_j hj9999 hj9999c (by first | decide | omega))).trans (lc_c hG156 (xne_j hj9999 hj9999b (by first | decide | omega)))) ((lc_c hG163 (xne_j hj9999a hj9999c (by first | decide | omega))).trans (lc_c hG156 (xne_j hj9999a hj9999b (by first | decide | omega)))) (lc_c hG163 (xne_j hj9999b hj9999c (by first | decide | omega))) ((lc_c hG163 (xne_k hk9999d hk9999c (by decide))).trans (lc_c hG156 (xne_k hk9999d hk9999b (by decide)))) ((lc_d hG163).trans (lc_d hG156))), (v_X2_goOn_164_9 (F := F) p0 G G163 hro ((lc_c hG163 (xne_k hk9999d hk9999c (by decide))).trans (lc_c hG156 (xne_k hk9999d hk9999b (by decide)))) ((lc_c hG163 (xne_k hk9999e hk9999c (by decide))).trans (lc_c hG156 (xne_k hk9999e hk9999b (by decide)))))⟩ hT
              · have pp124 : 1 ≤ (pn (vw (G.2.1 (F p0 0)))) := (v_X2_goOn_124_10 (K := K) (F := F) a p0 p1 q47 G x113 x65 ha hp0 hp1 hro hcz hs47 oq113 e0 z0 c8 c14 c26 ht47 t65 c68 z71 c77 t113 c121)
                refine lv_aload_n hx hb dX2_goOn_124 rfl (lv_at hl 3 rfl) ?_
                refine gX2_3 S hK hT ha kf_X2_21 dX2_goOn_125 (fun _ _ => ?_)
                refine lv_iload_n hx hb dX2_goOn_128 rfl (lv_at hl 2 rfl) ?_
                refine lv_iload hx hb dX2_goOn_129 (lv_at hl 0 rfl) ?_
                refine lv_iconst (v := 1) hx hb dX2_goOn_131 (by decide) ?_
                refine xi_iadd hx hb (rfl : Int32.toInt x113 = x113.toInt) ((by decide) : Int32.toInt 1 = (1 : Int)) dX2_goOn_132 (fun x132 t132 => ?_)
                have e132 : x132.toInt = (x113.toInt + (1 : Int)) := (z_X2_goOn_34 x113.toInt x132.toInt t113 t132)
                refine as_0 (x := x132) S hK hT hS hk9999c ar_24 aw_24 (by decide) (by rw [(e5 : Int32.toInt x5 = (((G.1 a 4).toInt) - (1 : Int)))]; exact (z_X2_goOn_4 ((G.1 a 4).toInt) e0)) dX2_goOn_133 (fun H locs hT hS => ?_)
                obtain ⟨G133, hG133⟩ : ∃ GG : XG, GG = cput G (F a 3) x5.toNatClampNeg x132 := ⟨_, rfl⟩
                rw [← hG133] at hT
                refine lv_aload_n hx hb dX2_goOn_134 rfl (lv_at hl 3 rfl) ?_
                refine lv_aload_n hx hb dX2_goOn_135 rfl (lv_at hl 4 rfl) ?_
                refine lv_aload hx hb dX2_goOn_136 (lv_at hl 1 rfl) ?_
                refine gX7_2 S hK hT hk47 kf_X2_61 dX2_goOn_138 (v := (G.1 q47 2)) (lc_d hG133) (?_)
                refine lv_iload hx hb dX2_goOn_141 (lv_at hl 0 rfl) ?_
                refine x_cv0 (x_runV (b := a) (As := [.ref p0, .int (G.1 q47 2), .int x113]) (rest := []) S (c_X2_descend l E K F G133 a p0 (G.1 q47 2) x113 ha hp0 (z_X2_goOn_36 x113.toInt ((G.1 q47 2).toInt) ((G.1 q47 3).toInt) z71 t113 c121) (by rw [(show (G133.1 a 4).toInt = ((G.1 a 4).toInt) from (congrArg Int32.toInt (lc_d hG133)).trans (rfl : Int32.toInt (G.1 a 4) = ((G.1 a 4).toInt)))] <;> exact (z_X2_goOn_37 ((G.1 a 4).toInt) (aI (G.2.1 (F a 0)) (((G.1 a 4).toInt) - 1)) (aI (G.2.1 (F a 1)) (((G.1 a 4).toInt) - 1)) (aI (G.2.1 (F a 2)) (((G.1 a 4).toInt) - 1)) (aI (G.2.1 (F a 3)) (((G.1 a 4).toInt) - 1)) (pn (vw (G.2.1 (F p0 0)))) e0 z0 pp124)) (v_X2_goOn_143_11 (F := F) p0 G133 G hro (lc_c hG133 (xne_k hk9999d hk9999c (by decide))) (lc_c hG133 (xne_k hk9999e hk9999c (by decide))))) mv_X2_descend km_X2_28 rfl rfl ⟨Nat.le_of_ble_eq_true rfl, Nat.le_of_ble_eq_true rfl⟩ (rc_4 hK hT ha) hK (fun _ => XP.blind) (fun U hU hW => XP.at hK hz hS hT hU hW) rfl hl.1 (Nat.le_of_ble_eq_true rfl) dX2_goOn_143 ⟨Nat.le_of_ble_eq_true rfl, Nat.le_of_ble_eq_true rfl⟩) hS ?_
                rintro G143 H locs ⟨hF143, t143, oq143, oq143a, oq143b, oq143c, oq143d, oq143e⟩ hT hS
                have t143 : ((G143.1 a 4).toInt) = ((G.1 a 4).toInt) + 1 := by rw [(show (G133.1 a 4).toInt = ((G.1 a 4).toInt) from (congrArg Int32.toInt (lc_d hG133)).trans (rfl : Int32.toInt (G.1 a 4) = ((G.1 a 4).toInt)))] at t143; exact t143
                have oq143 : ∀ z : Int, 0 ≤ z → aI (G143.2.1 (F a 0)) z = if z = ((G.1 a 4).toInt) then ((G.1 q47 2).toInt) else aI (G.2.1 (F a 0)) z := by simp only [(show G133.1 a 4 = G.1 a 4 from (lc_d hG133)), (show G133.2.1 (F a 0) = G.2.1 (F a 0) from (lc_c hG133 (xne_j hj9999 hj9999c (by first | decide | omega))))] at oq143; exact oq143
                have oq143a : ∀ z : Int, 0 ≤ z → aI (G143.2.1 (F a 1)) z = if z = ((G.1 a 4).toInt) then x113.toInt else aI (G.2.1 (F a 1)) z := by simp only [(show G133.1 a 4 = G.1 a 4 from (lc_d hG133)), (show G133.2.1 (F a 1) = G.2.1 (F a 1) from (lc_c hG133 (xne_j hj9999a hj9999c (by first | decide | omega))))] at oq143a; exact oq143a
                have oq143b : ∀ z : Int, 0 ≤ z → aI (G143.2.1 (F a 2)) z = if z = ((G.1 a 4).toInt) then 0 else aI (G.2.1 (F a 2)) z := by simp only [(show G133.1 a 4 = G.1 a 4 from (lc_d hG133)), (show G133.2.1 (F a 2) = G.2.1 (F a 2) from (lc_c hG133 (xne_j hj9999b hj9999c (by first | decide | omega))))] at oq143b; exact oq143b
                have oq143c : ∀ z : Int, 0 ≤ z → aI (G143.2.1 (F a 3)) z = if z = ((G.1 a 4).toInt) then 0 else aI (G133.2.1 (F a 3)) z := by simp only [(show G133.1 a 4 = G.1 a 4 from (lc_d hG133))] at oq143c; exact oq143c
                have oq143d : (vw (G143.2.1 (F p0 0))) = rfil (vw (G.2.1 (F p0 0))) ((G.1 q47 2).toInt) x113.toInt (-2000) 3 := by simp only [(show G133.2.1 (F p0 0) = G.2.1 (F p0 0) from (lc_c hG133 (xne_k hk9999d hk9999c (by decide))))] at oq143d; exact oq143d
                exact x_rv hx hb hr hlk hQ (Nat.le_of_ble_eq_true rfl) (Nat.le_of_ble_eq_true rfl) hS dX2_goOn_146 G143 ⟨(XFr.call (by rw [hG133]; exact XFr.cput XFr.rf (List.mem_of_getElem? (i := 3) rfl)) hF143 (xm1 0 rfl xm0) (xm1 0 rfl (xm1 1 rfl (xm1 2 rfl (xm1 3 rfl (xm1 4 rfl (xm1 5 rfl xm0)))))) xm0), (z_X2_goOn_38 ((G.1 a 4).toInt) ((G143.1 a 4).toInt) (aI (G.2.1 (F a 0)) (((G.1 a 4).toInt) - 1)) (aI (G.2.1 (F a 1)) (((G.1 a 4).toInt) - 1)) (aI (G.2.1 (F a 2)) (((G.1 a 4).toInt) - 1)) (aI (G.2.1 (F a 3)) (((G.1 a 4).toInt) - 1)) (pn (vw (G.2.1 (F p0 0)))) e0 z0 pp124 t143), (v_X2_goOn_146_12 (K := K) (F := F) a p0 p1 q47 G133 G x5 x132 G143 x113 x65 ha hp0 hp1 hG133 bkn hac hiv hcz e5 hs47 oq113 e132 oq143 oq143a oq143b oq143c oq143d e0 z0 c8 c14 c26 ht47 t65 c68 z71 c77 t113 c121 pp124 t143), (v_X2_goOn_146_13 (F := F) p0 G143 oq143e)⟩ hT
            · refine lv_aload_n hx hb dX2_goOn_80 rfl (lv_at hl 3 rfl) ?_
              refine lv_aload hx hb dX2_goOn_81 (lv_at hl 0 rfl) ?_
              refine lv_aload_n hx hb dX2_goOn_83 rfl (lv_at hl 2 rfl) ?_
              refine gX2_1 S hK hT ha kf_X2_15 dX2_goOn_84 (fun _ _ => ?_)
              refine lv_iload_n hx hb dX2_goOn_87 rfl (lv_at hl 1 rfl) ?_
              refine al_0 S hK hT hk9999a ar_24 (by decide) (by rw [(e5 : Int32.toInt x5 = (((G.1 a 4).toInt) - (1 : Int)))]; exact (z_X2_goOn_4 ((G.1 a 4).toInt) e0)) dX2_goOn_88 (fun x88 hv88 o88 => ?_)
              have hv88 : x88.toInt = (aI (G.2.1 (F a 1)) (((G.1 a 4).toInt) - 1)) := hv88.trans (by rw [((e5 : Int32.toInt x5 = (((G.1 a 4).toInt) - (1 : Int))).trans (z_X2_goOn_5 ((G.1 a 4).toInt)))])
              refine lv_sipush (v := (-1000)) hx hb dX2_goOn_89 (by decide) ?_
              refine x_cv0 (x_runS (As := [.ref p0, .ref q47, .int x88, .int (-1000)]) (rest := []) S (c_X2_replace l E K F G p0 q47 x88 (-1000) hp0 hk47 (by rw [(hv88 : Int32.toInt x88 = (aI (G.2.1 (F a 1)) (((G.1 a 4).toInt) - 1)))] <;> exact (z_X2_goOn_41 ((G.1 a 4).toInt) (aI (G.2.1 (F a 0)) (((G.1 a 4).toInt) - 1)) (aI (G.2.1 (F a 1)) (((G.1 a 4).toInt) - 1)) (aI (G.2.1 (F a 2)) (((G.1 a 4).toInt) - 1)) (aI (G.2.1 (F a 3)) (((G.1 a 4).toInt) - 1)) (pn (vw (G.2.1 (F p0 0)))) z0)) (by rw [((by decide) : Int32.toInt (-1000) = (-1000 : Int))] <;> exact (by decide)) (v_X2_goOn_92_14 (F := F) p0 G hro) (v_X2_goOn_92_15 (K := K) (F := F) a p0 p1 q47 G x65 ha hp0 hp1 bkn hcz hs47 e0 z0 c8 c14 c26 ht47 t65 c68 z71 c77)) ms_X2_replace km_X2_57 rfl rfl ⟨Nat.le_of_ble_eq_true rfl, Nat.le_of_ble_eq_true rfl⟩ hK (fun _ => XP.blind) (fun U hU hW => XP.at hK hz hS hT hU hW) rfl hl.1 (Nat.le_of_ble_eq_true rfl) dX2_goOn_92 ⟨Nat.le_of_ble_eq_true rfl, Nat.le_of_ble_eq_true rfl⟩) hS ?_
              rintro G92 H locs ⟨hF92, oq92, oq92a⟩ hT hS
              have oq92 : (vw (G92.2.1 (F p0 0))) = repl (vw (G.2.1 (F p0 0))) ((G.1 q47 2).toInt) ((G.1 q47 3).toInt) (aI (G.2.1 (F a 1)) (((G.1 a 4).toInt) - 1)) (-1000 : Int) 30 := by simp only [(hv88 : Int32.toInt x88 = (aI (G.2.1 (F a 1)) (((G.1 a 4).toInt) - 1))), ((by decide) : Int32.toInt (-1000) = (-1000 : Int))] at oq92; exact oq92
              refine lv_goto (tgt := 147) hx hb dX2_goOn_95 (by decide) ?_
              refine lv_aload_n hx hb dX2_goOn_147 rfl (lv_at hl 2 rfl) ?_
              refine gX2_2 S hK hT ha kf_X2_18 dX2_goOn_148 (fun _ _ => ?_)
              refine lv_iload_n hx hb dX2_goOn_151 rfl (lv_at hl 1 rfl) ?_
              refine lv_dup2_11 hx hb dX2_goOn_152 rfl rfl ?_
              refine al_0 S hK hT hk9999b ar_24 (by decide) (by rw [(e5 : Int32.toInt x5 = (((G.1 a 4).toInt) - (1 : Int)))]; exact (z_X2_goOn_4 ((G.1 a 4).toInt) e0)) dX2_goOn_153 (fun x153 hv153 o153 => ?_)
              have hv153 : x153.toInt = (aI (G.2.1 (F a 2)) (((G.1 a 4).toInt) - 1)) := hv153.trans (by rw [((e5 : Int32.toInt x5 = (((G.1 a 4).toInt) - (1 : Int))).trans (z_X2_goOn_5 ((G.1 a 4).toInt))), ((hF92.2.1 _ (xn1 (xne_k hk9999b hk9999d (by decide)) (xn1 (xne_k hk9999b hk9999e (by decide)) xn0))) : G92.2.1 (F a 2) = G.2.1 (F a 2))])
              refine lv_iconst (v := 1) hx hb dX2_goOn_154 (by decide) ?_
              refine xi_iadd hx hb (hv153 : Int32.toInt x153 = (aI (G.2.1 (F a 2)) (((G.1 a 4).toInt) - 1))) ((by decide) : Int32.toInt 1 = (1 : Int)) dX2_goOn_155 (fun x155 t155 => ?_)
              have e155 : x155.toInt = ((aI (G.2.1 (F a 2)) (((G.1 a 4).toInt) - 1)) + (1 : Int)) := (z_X2_goOn_10 x155.toInt ((G.1 a 4).toInt) (aI (G.2.1 (F a 0)) (((G.1 a 4).toInt) - 1)) (aI (G.2.1 (F a 1)) (((G.1 a 4).toInt) - 1)) (aI (G.2.1 (F a 2)) (((G.1 a 4).toInt) - 1)) (aI (G.2.1 (F a 3)) (((G.1 a 4).toInt) - 1)) (pn (vw (G.2.1 (F p0 0)))) z0 t155)
              refine as_0 (x := x155) S hK hT hS hk9999b ar_24 aw_24 (by decide) (by rw [(e5 : Int32.toInt x5 = (((G.1 a 4).toInt) - (1 : Int)))]; exact (z_X2_goOn_4 ((G.1 a 4).toInt) e0)) dX2_goOn_156 (fun H locs hT hS => ?_)
              obtain ⟨G156, hG156⟩ : ∃ GG : XG, GG = cput G92 (F a 2) x5.toNatClampNeg x155 := ⟨_, rfl⟩
              rw [← hG156] at hT
              refine lv_aload_n hx hb dX2_goOn_157 rfl (lv_at hl 2 rfl) ?_
              refine gX2_3 S hK hT ha kf_X2_21 dX2_goOn_158 (fun _ _ => ?_)
              refine lv_iload_n hx hb dX2_goOn_161 rfl (lv_at hl 1 rfl) ?_
              refine lv_iconst (v := 0) hx hb dX2_goOn_162 (by decide) ?_
              refine as_0 (x := 0) S hK hT hS hk9999c ar_24 aw_24 (by decide) (by rw [(e5 : Int32.toInt x5 = (((G.1 a 4).toInt) - (1 : Int)))]; exact (z_X2_goOn_4 ((G.1 a 4).toInt) e0)) dX2_goOn_163 (fun H locs hT hS => ?_)
              obtain ⟨G163, hG163⟩ : ∃ GG : XG, GG = cput G156 (F a 3) x5.toNatClampNeg 0 := ⟨_, rfl⟩
              rw [← hG163] at hT
              exact x_rv hx hb hr hlk hQ (Nat.le_of_ble_eq_true rfl) (Nat.le_of_ble_eq_true rfl) hS dX2_goOn_164 G163 ⟨(by rw [hG163]; exact XFr.cput (by rw [hG156]; exact XFr.cput (XFr.call XFr.rf hF92 xm0 (xm1 4 rfl (xm1 5 rfl xm0)) xm0) (List.mem_of_getElem? (i := 2) rfl)) (List.mem_of_getElem? (i := 3) rfl)), (by rw [(show (G163.1 a 4).toInt = ((G.1 a 4).toInt) from (congrArg Int32.toInt ((lc_d hG163).trans ((lc_d hG156).trans (hF92.1 _ _ xn0)))).trans (rfl : Int32.toInt (G.1 a 4) = ((G.1 a 4).toInt)))] <;> exact (z_X2_goOn_3 ((G.1 a 4).toInt) e0)), (v_X2_goOn_164_16 (K := K) (F := F) a p0 p1 q47 G G92 G156 x5 x155 G163 x65 ha hp0 hp1 hG156 hG163 bkn hac hiv hcz e5 hs47 oq92 e155 e0 z0 c8 c14 c26 ht47 t65 c68 z71 c77 ((lc_c hG156 (xne_j hj9999c hj9999b (by first | decide | omega))).trans (hF92.2.1 _ (xn1 (xne_k hk9999c hk9999d (by decide)) (xn1 (xne_k hk9999c hk9999e (by decide)) xn0)))) ((lc_c hG163 (xne_j hj9999 hj9999c (by first | decide | omega))).trans ((lc_c hG156 (xne_j hj9999 hj9999b (by first | decide | omega))).trans (hF92.2.1 _ (xn1 (xne_k hk9999 hk9999d (by decide)) (xn1 (xne_k hk9999 hk9999e (by decide)) xn0))))) ((lc_c hG163 (xne_j hj9999a hj9999c (by first | decide | omega))).trans ((lc_c hG156 (xne_j hj9999a hj9999b (by first | decide | omega))).trans (hF92.2.1 _ (xn1 (xne_k hk9999a hk9999d (by decide)) (xn1 (xne_k hk9999a hk9999e (by decide)) xn0))))) (lc_c hG163 (xne_j hj9999b hj9999c (by first | decide | omega))) ((lc_c hG163 (xne_k hk9999d hk9999c (by decide))).trans (lc_c hG156 (xne_k hk9999d hk9999b (by decide)))) (hF92.2.1 _ (xn1 (xne_k hk9999b hk9999d (by decide)) (xn1 (xne_k hk9999b hk9999e (by decide)) xn0))) ((lc_d hG163).trans ((lc_d hG156).trans (hF92.1 _ _ xn0)))), (v_X2_goOn_164_17 (F := F) p0 G G92 G163 hro oq92a ((lc_c hG163 (xne_k hk9999d hk9999c (by decide))).trans (lc_c hG156 (xne_k hk9999d hk9999b (by decide)))) ((lc_c hG163 (xne_k hk9999e hk9999c (by decide))).trans (lc_c hG156 (xne_k hk9999e hk9999b (by decide)))))⟩ hT
      · refine lv_aload_n hx hb dX2_goOn_29 rfl (lv_at hl 1 rfl) ?_
        refine lv_dup hx hb dX2_goOn_30 rfl ?_
        refine gX2_4 S hK hT ha kf_X2_24 dX2_goOn_31 (v := (G.1 a 4)) rfl (?_)
        refine lv_iconst (v := 1) hx hb dX2_goOn_34 (by decide) ?_
        refine xi_isub hx hb (rfl : Int32.toInt (G.1 a 4) = ((G.1 a 4).toInt)) ((by decide) : Int32.toInt 1 = (1 : Int)) dX2_goOn_35 (fun x35 t35 => ?_)
        have e35 : x35.toInt = (((G.1 a 4).toInt) - (1 : Int)) := (z_X2_goOn_2 x35.toInt ((G.1 a 4).toInt) e0 t35)
        refine pX2_4 (v := x35) S hK hT hS ha kf_X2_24 dX2_goOn_36 (fun H locs hT hS => ?_)
        obtain ⟨G36, hG36⟩ : ∃ GG : XG, GG = dput G a 4 x35 := ⟨_, rfl⟩
        rw [← hG36] at hT
        exact x_rv hx hb hr hlk hQ (Nat.le_of_ble_eq_true rfl) (Nat.le_of_ble_eq_true rfl) hS dX2_goOn_39 G36 ⟨(by rw [hG36]; exact XFr.dput XFr.rf (List.mem_of_getElem? (i := 0) rfl)), (by rw [(show (G36.1 a 4).toInt = (((G.1 a 4).toInt) - (1 : Int)) from (congrArg Int32.toInt (ld_at hG36)).trans (e35 : Int32.toInt x35 = (((G.1 a 4).toInt) - (1 : Int))))] <;> exact (z_X2_goOn_49 ((G.1 a 4).toInt) e0)), (v_X2_goOn_39_18 (K := K) (F := F) a p0 p1 G36 G x35 ha hp0 hp1 bkn hiv hcz e35 e0 z0 c8 c14 c26 (ld_c hG36) (ld_c hG36) (ld_c hG36) (ld_c hG36) (ld_c hG36) (ld_at hG36)), (v_X2_goOn_39_19 (F := F) p0 G36 G hro (ld_c hG36) (ld_c hG36))⟩ hT
    · exact x_rv hx hb hr hlk hQ (Nat.le_of_ble_eq_true rfl) (Nat.le_of_ble_eq_true rfl) hS dX2_goOn_17 G ⟨XFr.rf, (z_X2_goOn_3 ((G.1 a 4).toInt) e0), (v_X2_goOn_17_20 (K := K) (F := F) a p0 p1 G ha hp0 hp1 hcz e0 z0 c8 c14), (v_X2_goOn_17_21 (K := K) (F := F) a p0 p1 G ha hp0 hp1 hcz e0 z0 c8 c14)⟩ hT

theorem z_X2_cutRow_2 (a0 : Int) (h0 : 0 ≤ a0 ∧ a0 ≤ 1260) : ¬ (2147483648 - a0 < ((0 : Nat) : Int)) := by omega
theorem z_X2_cutRow_3 (a0 : Int) (h0 : 0 ≤ a0 ∧ a0 ≤ 90) (h1 : ¬ (a0 ≤ 0)) : 1 ≤ a0 ∧ a0 ≤ 90 := by omega
theorem z_X2_cutRow_4 (a0 : Int) (a1 : Int) (h0 : 0 ≤ a0 ∧ a0 ≤ 1260) (h1 : a1 = (a0 + 1) ∨ (a0 + 1) < -2147483648 ∨ 2147483648 ≤ (a0 + 1)) : a1 = (a0 + 1) := by omega
theorem z_X2_cutRow_5 (a0 : Int) (h0 : 0 ≤ a0 ∧ a0 ≤ 1260) (h1 : ¬ ((1260 : Int) ≤ a0)) : 0 ≤ (a0 + 1) ∧ (a0 + 1) ≤ 1260 := by omega
theorem z_X2_cutRow_7 (a0 : Int) (a1 : Int) (a2 : Int) (h0 : a0 + a2 ≤ 1259) (h1 : a1 = a2 - 1) : (a0 + 1) + a1 ≤ 1259 := by omega
theorem z_X2_cutRow_8 (a0 : Int) (h0 : 0 ≤ a0 ∧ a0 ≤ 1260) : (0 : Int) ≤ (a0 + 1) := by omega
theorem z_X2_cutRow_9 (a0 : Int) (a1 : Nat) (h0 : 2147483648 - a0 < ((a1 + 1 : Nat) : Int)) : 2147483648 - (a0 + 1) < ((a1 : Nat) : Int) := by omega
theorem z_X2_cutRow_10 (a0 : Int) (h0 : a0 = (0 : Int) + 1) : 0 ≤ a0 ∧ a0 ≤ 90 := by omega
theorem z_X2_cutRow_11 (a0 : Int) (h0 : a0 ≤ 1259) : (0 : Int) + a0 ≤ 1259 := by omega
abbrev rm_X2_cutRow : Room := { frames := 5, cells := 0, slots := 0, locals := 115 }
set_option maxHeartbeats 4000000 in
set_option maxRecDepth 100000 in
theorem c_X2_cutRow (l : Launch) (E : XE) (K : Nat → Nat) (F : Nat → Nat → Nat) (G : XG) (a : Nat) (p0 : Nat) (p1 : Nat) (p2 : Int32) (p3 : Int32) (ha : K a = 4) (hp0 : K p0 = 8) (hp1 : K p1 = 2) (e1 : 0 ≤ p2.toInt ∧ p2.toInt < 3 ∧ 0 ≤ p3.toInt ∧ p3.toInt < 30) (e3 : (cel (vw (G.2.1 (F p0 0))) (p2.toInt) (p3.toInt) 0) ≠ -2000) (hro : RO (vw (G.2.1 (F p0 0))) (aI (G.2.1 (F p0 1)))) (bkn : BKr K G (G.2.2.1 (F p1 0))) (hac : ACo G (G.2.2.1 (F p1 0))) : Met l yX2_cutRow (xw yX2_cutRow cX2_cutRow 6 none) rm_X2_cutRow (va_Pc [.ref a, .ref p0, .ref p1, .int p2, .int p3] (XP E K F G)) (XQv E (fun (u : XG) => XFr [(a, 4)] [F a 0, F a 1, F a 2, F a 3, F p0 0, F p0 1] [] G u ∧ ((vw (u.2.1 (F p0 0))) = cfin (clsA G (G.2.2.1 (F p1 0))) (clsT G (G.2.2.1 (F p1 0))) (clsC G (G.2.2.1 (F p1 0))) ([(p2.toInt, p3.toInt, 0, 0)], rfil (vw (G.2.1 (F p0 0))) p2.toInt p3.toInt (-2000) 3)) ∧ (RO (vw (u.2.1 (F p0 0))) (aI (u.2.1 (F p0 1))))) (fun u H => TW E K F u H)) 0 0 (xA E) := by
  refine x_enter (by decide) (Nat.le_of_ble_eq_true rfl) ?_
  intro p e s m args below meth c Q S hr hlk hnm hQ hP ls hl
  obtain ⟨hz, hK, hT⟩ := hP
  obtain ⟨hx, hb, -, -, -⟩ := id S
  obtain ⟨H, hT, hS, hgo⟩ : ∃ H : Heap, TW E K F G H ∧ va_S (xA E) s.heap H [] ∧ H = s.heap := ⟨_, hT, va_S.rf, rfl⟩
  rw [← hgo]
  have hl : lv_has ls 6 [(0, .ref a), (1, .ref p0), (2, .ref p1), (3, .int p2), (4, .int p3)] := hl
  obtain ⟨hk9999, hj9999⟩ := fkX2_0 hT ha
  obtain ⟨hk9999a, hj9999a⟩ := fkX2_1 hT ha
  obtain ⟨hk9999b, hj9999b⟩ := fkX2_2 hT ha
  obtain ⟨hk9999c, hj9999c⟩ := fkX2_3 hT ha
  obtain ⟨hk9999d, hj9999d⟩ := fkX6_0 hT hp0
  obtain ⟨hk9999e, hj9999e⟩ := fkX6_1 hT hp0
  obtain ⟨hk9999f, hj9999f⟩ := fkX0_0 hT hp1
  refine lv_aload_n hx hb dX2_cutRow_0 rfl (lv_at hl 0 rfl) ?_
  refine lv_iconst (v := 0) hx hb dX2_cutRow_1 (by decide) ?_
  refine pX2_4 (v := 0) S hK hT hS ha kf_X2_24 dX2_cutRow_2 (fun H locs hT hS => ?_)
  obtain ⟨G2, hG2⟩ : ∃ GG : XG, GG = dput G a 4 0 := ⟨_, rfl⟩
  rw [← hG2] at hT
  refine lv_aload_n hx hb dX2_cutRow_5 rfl (lv_at hl 0 rfl) ?_
  refine lv_aload_n hx hb dX2_cutRow_6 rfl (lv_at hl 1 rfl) ?_
  refine lv_iload_n hx hb dX2_cutRow_7 rfl (lv_at hl 3 rfl) ?_
  refine lv_iload hx hb dX2_cutRow_8 (lv_at hl 4 rfl) ?_
  refine x_cv0 (x_runV (b := a) (As := [.ref p0, .int p2, .int p3]) (rest := []) S (c_X2_descend l E K F G2 a p0 p2 p3 ha hp0 (e1) (by rw [(show (G2.1 a 4).toInt = (0 : Int) from (congrArg Int32.toInt (ld_at hG2)).trans ((by decide) : Int32.toInt 0 = (0 : Int)))] <;> exact (by decide)) (v_X2_cutRow_10_1 (F := F) p0 G G2 hro (ld_c hG2) (ld_c hG2))) mv_X2_descend km_X2_28 rfl rfl ⟨Nat.le_of_ble_eq_true rfl, Nat.le_of_ble_eq_true rfl⟩ (rc_4 hK hT ha) hK (fun _ => XP.blind) (fun U hU hW => XP.at hK hz hS hT hU hW) rfl hl.1 (Nat.le_of_ble_eq_true rfl) dX2_cutRow_10 ⟨Nat.le_of_ble_eq_true rfl, Nat.le_of_ble_eq_true rfl⟩) hS ?_
  rintro G10 H locs ⟨hF10, t10, oq10, oq10a, oq10b, oq10c, oq10d, oq10e⟩ hT hS
  have t10 : ((G10.1 a 4).toInt) = (0 : Int) + 1 := by rw [(show (G2.1 a 4).toInt = (0 : Int) from (congrArg Int32.toInt (ld_at hG2)).trans ((by decide) : Int32.toInt 0 = (0 : Int)))] at t10; exact t10
  have oq10 : ∀ z : Int, 0 ≤ z → aI (G10.2.1 (F a 0)) z = if z = ((G2.1 a 4).toInt) then p2.toInt else aI (G.2.1 (F a 0)) z := by simp only [(show G2.2.1 (F a 0) = G.2.1 (F a 0) from (ld_c hG2))] at oq10; exact oq10
  have oq10a : ∀ z : Int, 0 ≤ z → aI (G10.2.1 (F a 1)) z = if z = ((G2.1 a 4).toInt) then p3.toInt else aI (G.2.1 (F a 1)) z := by simp only [(show G2.2.1 (F a 1) = G.2.1 (F a 1) from (ld_c hG2))] at oq10a; exact oq10a
  have oq10b : ∀ z : Int, 0 ≤ z → aI (G10.2.1 (F a 2)) z = if z = ((G2.1 a 4).toInt) then 0 else aI (G.2.1 (F a 2)) z := by simp only [(show G2.2.1 (F a 2) = G.2.1 (F a 2) from (ld_c hG2))] at oq10b; exact oq10b
  have oq10c : ∀ z : Int, 0 ≤ z → aI (G10.2.1 (F a 3)) z = if z = ((G2.1 a 4).toInt) then 0 else aI (G.2.1 (F a 3)) z := by simp only [(show G2.2.1 (F a 3) = G.2.1 (F a 3) from (ld_c hG2))] at oq10c; exact oq10c
  have oq10d : (vw (G10.2.1 (F p0 0))) = rfil (vw (G.2.1 (F p0 0))) p2.toInt p3.toInt (-2000) 3 := by simp only [(show G2.2.1 (F p0 0) = G.2.1 (F p0 0) from (ld_c hG2))] at oq10d; exact oq10d
  have en13 : (cnv (gst (G10.2.1 (F a 0)) (G10.2.1 (F a 1)) (G10.2.1 (F a 2)) (G10.2.1 (F a 3)) (Int.toNat ((G10.1 a 4).toInt)), (vw (G10.2.1 (F p0 0))))) ≤ 1259 := (v_X2_cutRow_13_2 (K := K) (F := F) a p0 p1 G G10 G2 p2 p3 ha hp0 hp1 hro oq10 oq10a oq10b oq10c oq10d e1 e3 t10 (ld_at hG2))
  refine lv_iconst (v := 0) hx hb dX2_cutRow_13 (by decide) ?_
  refine lv_istore (lv' := [(5, .int 0), (0, .ref a), (1, .ref p0), (2, .ref p1), (3, .int p2), (4, .int p3)]) hx hb dX2_cutRow_14 hl (by decide) rfl (fun ls hl => ?_)
  have L16 : ∀ (N16 : Nat) (l5_16 : Int32) (G_16 : XG) (H : Heap) (locs : List Loc) (ls : Array Slot), XFr [(a, 4)] [F a 0, F a 1, F a 2, F a 3, F p0 0, F p0 1] [] G10 G_16 → CIv (gst (G_16.2.1 (F a 0)) (G_16.2.1 (F a 1)) (G_16.2.1 (F a 2)) (G_16.2.1 (F a 3)) (Int.toNat (((G_16.1 a 4).toInt))), (vw (G_16.2.1 (F p0 0)))) → CZ (clsA G (G.2.2.1 (F p1 0))) (gst (G_16.2.1 (F a 0)) (G_16.2.1 (F a 1)) (G_16.2.1 (F a 2)) (G_16.2.1 (F a 3)) (Int.toNat (((G_16.1 a 4).toInt))), (vw (G_16.2.1 (F p0 0)))).1 → cfin (clsA G (G.2.2.1 (F p1 0))) (clsT G (G.2.2.1 (F p1 0))) (clsC G (G.2.2.1 (F p1 0))) (gst (G_16.2.1 (F a 0)) (G_16.2.1 (F a 1)) (G_16.2.1 (F a 2)) (G_16.2.1 (F a 3)) (Int.toNat (((G_16.1 a 4).toInt))), (vw (G_16.2.1 (F p0 0)))) = cfin (clsA G (G.2.2.1 (F p1 0))) (clsT G (G.2.2.1 (F p1 0))) (clsC G (G.2.2.1 (F p1 0))) ([(p2.toInt, p3.toInt, 0, 0)], rfil (vw (G.2.1 (F p0 0))) p2.toInt p3.toInt (-2000) 3) → RO (vw (G_16.2.1 (F p0 0))) (aI (G_16.2.1 (F p0 1))) → 0 ≤ l5_16.toInt ∧ l5_16.toInt ≤ 1260 → 0 ≤ ((G_16.1 a 4).toInt) ∧ ((G_16.1 a 4).toInt) ≤ 90 → l5_16.toInt + (cnv (gst (G_16.2.1 (F a 0)) (G_16.2.1 (F a 1)) (G_16.2.1 (F a 2)) (G_16.2.1 (F a 3)) (Int.toNat ((G_16.1 a 4).toInt)), (vw (G_16.2.1 (F p0 0))))) ≤ 1259 → (0 : Int) ≤ l5_16.toInt → 2147483648 - l5_16.toInt < ((N16 : Nat) : Int) → TW E K F G_16 H → va_S (xA E) s.heap H locs → lv_has ls 6 [(0, .ref a), (1, .ref p0), (2, .ref p1), (5, .int l5_16)] → W p l e rm_X2_cutRow s m args below meth c H locs 0 0 Q (F0 m 16 ls []) := by
    intro N16
    induction N16 with
    | zero =>
      intro l5_16 G_16 H locs ls hF_16 iv cz fi ro I16_0 I16_1 I16_2 I16_3 hm16
      exact absurd hm16 (z_X2_cutRow_2 l5_16.toInt I16_0)
    | succ N16 ih16 =>
      intro l5_16 G_16 H locs ls hF_16 iv cz fi ro I16_0 I16_1 I16_2 I16_3 hm16 hT hS hl
      refine lv_iload hx hb dX2_cutRow_16 (lv_at hl 3 rfl) ?_
      refine lv_sipush (v := 1260) hx hb dX2_cutRow_18 (by decide) ?_
      refine xi_cge (tgt := 43) hx hb (rfl : Int32.toInt l5_16 = l5_16.toInt) ((by decide) : Int32.toInt 1260 = (1260 : Int)) dX2_cutRow_21 (by decide) (fun c21 => ?_) (fun c21 => ?_)
      · have z43 : 0 ≤ (cnv (gst (G_16.2.1 (F a 0)) (G_16.2.1 (F a 1)) (G_16.2.1 (F a 2)) (G_16.2.1 (F a 3)) (Int.toNat ((G_16.1 a 4).toInt)), (vw (G_16.2.1 (F p0 0))))) := (cnv_b iv).1
        exact x_rv hx hb hr hlk hQ (Nat.le_of_ble_eq_true rfl) (Nat.le_of_ble_eq_true rfl) hS dX2_cutRow_43 G_16 ⟨(XFr.call (XFr.call (by rw [hG2]; exact XFr.dput XFr.rf (List.mem_of_getElem? (i := 0) rfl)) hF10 (xm1 0 rfl xm0) (xm1 0 rfl (xm1 1 rfl (xm1 2 rfl (xm1 3 rfl (xm1 4 rfl (xm1 5 rfl xm0)))))) xm0) hF_16 (xm1 0 rfl xm0) (xm1 0 rfl (xm1 1 rfl (xm1 2 rfl (xm1 3 rfl (xm1 4 rfl (xm1 5 rfl xm0)))))) xm0), (v_X2_cutRow_43_3 (K := K) (F := F) a p0 p1 G G_16 G10 p2 p3 l5_16 N16 ha hp0 hp1 cz fi e1 e3 t10 en13 I16_0 I16_1 I16_2 I16_3 hm16 c21 z43), (v_X2_cutRow_43_4 (F := F) p0 G_16 ro)⟩ hT
      · refine lv_aload_n hx hb dX2_cutRow_24 rfl (lv_at hl 0 rfl) ?_
        refine gX2_4 S hK hT ha kf_X2_24 dX2_cutRow_25 (v := (G_16.1 a 4)) rfl (?_)
        refine xi_zle (tgt := 43) hx hb (rfl : Int32.toInt (G_16.1 a 4) = ((G_16.1 a 4).toInt)) dX2_cutRow_28 (by decide) (fun c28 => ?_) (fun c28 => ?_)
        · have z43 : 0 ≤ (cnv (gst (G_16.2.1 (F a 0)) (G_16.2.1 (F a 1)) (G_16.2.1 (F a 2)) (G_16.2.1 (F a 3)) (Int.toNat ((G_16.1 a 4).toInt)), (vw (G_16.2.1 (F p0 0))))) := (cnv_b iv).1
          exact x_rv hx hb hr hlk hQ (Nat.le_of_ble_eq_true rfl) (Nat.le_of_ble_eq_true rfl) hS dX2_cutRow_43 G_16 ⟨(XFr.call (XFr.call (by rw [hG2]; exact XFr.dput XFr.rf (List.mem_of_getElem? (i := 0) rfl)) hF10 (xm1 0 rfl xm0) (xm1 0 rfl (xm1 1 rfl (xm1 2 rfl (xm1 3 rfl (xm1 4 rfl (xm1 5 rfl xm0)))))) xm0) hF_16 (xm1 0 rfl xm0) (xm1 0 rfl (xm1 1 rfl (xm1 2 rfl (xm1 3 rfl (xm1 4 rfl (xm1 5 rfl xm0)))))) xm0), (v_X2_cutRow_43_5 (K := K) (F := F) a p0 p1 G G_16 G10 p2 p3 l5_16 N16 ha hp0 hp1 cz fi e1 e3 t10 en13 I16_0 I16_1 I16_2 I16_3 hm16 c21 c28 z43), (v_X2_cutRow_43_6 (F := F) p0 G_16 ro)⟩ hT
        · refine lv_aload_n hx hb dX2_cutRow_31 rfl (lv_at hl 0 rfl) ?_
          refine lv_aload_n hx hb dX2_cutRow_32 rfl (lv_at hl 1 rfl) ?_
          refine lv_aload_n hx hb dX2_cutRow_33 rfl (lv_at hl 2 rfl) ?_
          refine x_cv0 (x_runV (b := a) (As := [.ref p0, .ref p1]) (rest := []) S (c_X2_goOn l E K F G_16 a p0 p1 ha hp0 hp1 (z_X2_cutRow_3 ((G_16.1 a 4).toInt) I16_1 c28) (v_X2_cutRow_34_7 (F := F) p0 G_16 ro) (v_X2_cutRow_34_8 (K := K) (F := F) a p0 p1 G G_16 G10 p2 p3 l5_16 N16 ha hp0 hp1 hk9999 hj9999 hk9999a hj9999a hk9999b hj9999b hk9999c hj9999c hk9999d hj9999d hk9999e hj9999e hk9999f hj9999f (XFr.call (XFr.call (by rw [hG2]; exact XFr.dput XFr.rf (List.mem_of_getElem? (i := 0) rfl)) hF10 (xm1 0 rfl xm0) (xm1 0 rfl (xm1 1 rfl (xm1 2 rfl (xm1 3 rfl (xm1 4 rfl (xm1 5 rfl xm0)))))) xm0) hF_16 (xm1 0 rfl xm0) (xm1 0 rfl (xm1 1 rfl (xm1 2 rfl (xm1 3 rfl (xm1 4 rfl (xm1 5 rfl xm0)))))) xm0) bkn cz e1 e3 t10 en13 I16_0 I16_1 I16_2 I16_3 hm16 c21 c28 ((hF_16.2.2 _ xn0).trans ((hF10.2.2 _ xn0).trans (ld_r hG2)))) (v_X2_cutRow_34_9 (K := K) (F := F) a p0 p1 G G_16 G10 p2 p3 l5_16 N16 ha hp0 hp1 hk9999 hj9999 hk9999a hj9999a hk9999b hj9999b hk9999c hj9999c hk9999d hj9999d hk9999e hj9999e hk9999f hj9999f (XFr.call (XFr.call (by rw [hG2]; exact XFr.dput XFr.rf (List.mem_of_getElem? (i := 0) rfl)) hF10 (xm1 0 rfl xm0) (xm1 0 rfl (xm1 1 rfl (xm1 2 rfl (xm1 3 rfl (xm1 4 rfl (xm1 5 rfl xm0)))))) xm0) hF_16 (xm1 0 rfl xm0) (xm1 0 rfl (xm1 1 rfl (xm1 2 rfl (xm1 3 rfl (xm1 4 rfl (xm1 5 rfl xm0)))))) xm0) bkn hac cz e1 e3 t10 en13 I16_0 I16_1 I16_2 I16_3 hm16 c21 c28 ((hF_16.2.2 _ xn0).trans ((hF10.2.2 _ xn0).trans (ld_r hG2)))) (v_X2_cutRow_34_10 (F := F) a p0 G_16 iv) (v_X2_cutRow_34_11 (K := K) (F := F) a p0 p1 G G_16 G10 p2 p3 l5_16 N16 ha hp0 hp1 hk9999 hj9999 hk9999a hj9999a hk9999b hj9999b hk9999c hj9999c hk9999d hj9999d hk9999e hj9999e hk9999f hj9999f (XFr.call (XFr.call (by rw [hG2]; exact XFr.dput XFr.rf (List.mem_of_getElem? (i := 0) rfl)) hF10 (xm1 0 rfl xm0) (xm1 0 rfl (xm1 1 rfl (xm1 2 rfl (xm1 3 rfl (xm1 4 rfl (xm1 5 rfl xm0)))))) xm0) hF_16 (xm1 0 rfl xm0) (xm1 0 rfl (xm1 1 rfl (xm1 2 rfl (xm1 3 rfl (xm1 4 rfl (xm1 5 rfl xm0)))))) xm0) bkn cz e1 e3 t10 en13 I16_0 I16_1 I16_2 I16_3 hm16 c21 c28 ((hF_16.2.2 _ xn0).trans ((hF10.2.2 _ xn0).trans (ld_r hG2))))) mv_X2_goOn km_X2_32 rfl rfl ⟨Nat.le_of_ble_eq_true rfl, Nat.le_of_ble_eq_true rfl⟩ (rc_4 hK hT ha) hK (fun _ => XP.blind) (fun U hU hW => XP.at hK hz hS hT hU hW) rfl hl.1 (Nat.le_of_ble_eq_true rfl) dX2_cutRow_34 ⟨Nat.le_of_ble_eq_true rfl, Nat.le_of_ble_eq_true rfl⟩) hS ?_
          rintro G34 H locs ⟨hF34, t34, oq34, oq34a⟩ hT hS
          have t34 : 0 ≤ ((G34.1 a 4).toInt) ∧ ((G34.1 a 4).toInt) ≤ 90 := t34
          have z37 : (cnv (gst (G34.2.1 (F a 0)) (G34.2.1 (F a 1)) (G34.2.1 (F a 2)) (G34.2.1 (F a 3)) (Int.toNat ((G34.1 a 4).toInt)), (vw (G34.2.1 (F p0 0))))) = (cnv (gst (G_16.2.1 (F a 0)) (G_16.2.1 (F a 1)) (G_16.2.1 (F a 2)) (G_16.2.1 (F a 3)) (Int.toNat ((G_16.1 a 4).toInt)), (vw (G_16.2.1 (F p0 0))))) - 1 := oq34.2.2.2
          refine xi_iinc (n := 1) (lv' := fun z9 => [(5, .int z9), (0, .ref a), (1, .ref p0), (2, .ref p1)]) (k := 3) hx hb (rfl : Int32.toInt l5_16 = l5_16.toInt) (by decide) dX2_cutRow_37 hl rfl (by decide) (fun _ => rfl) (fun x37 ls t37 hl => ?_)
          have e37 : x37.toInt = (l5_16.toInt + 1) := (z_X2_cutRow_4 l5_16.toInt x37.toInt I16_0 t37)
          have hl : lv_has ls 6 [(5, .int x37), (0, .ref a), (1, .ref p0), (2, .ref p1)] := hl
          refine lv_goto (tgt := 16) hx hb dX2_cutRow_40 (by decide) ?_
          exact ih16 x37 G34 _ _ _ (XFr.call (XFr.call XFr.rf hF_16 (xm1 0 rfl xm0) (xm1 0 rfl (xm1 1 rfl (xm1 2 rfl (xm1 3 rfl (xm1 4 rfl (xm1 5 rfl xm0)))))) xm0) hF34 (xm1 0 rfl xm0) (xm1 0 rfl (xm1 1 rfl (xm1 2 rfl (xm1 3 rfl (xm1 4 rfl (xm1 5 rfl xm0)))))) xm0) (v_X2_cutRow_40_12 (F := F) a p0 p1 G34 G_16 oq34) (v_X2_cutRow_40_13 (K := K) (F := F) a p0 p1 G G34 G10 G_16 p2 p3 l5_16 N16 ha hp0 hp1 hk9999 hj9999 hk9999a hj9999a hk9999b hj9999b hk9999c hj9999c hk9999d hj9999d hk9999e hj9999e hk9999f hj9999f (XFr.call (XFr.call (XFr.call (by rw [hG2]; exact XFr.dput XFr.rf (List.mem_of_getElem? (i := 0) rfl)) hF10 (xm1 0 rfl xm0) (xm1 0 rfl (xm1 1 rfl (xm1 2 rfl (xm1 3 rfl (xm1 4 rfl (xm1 5 rfl xm0)))))) xm0) hF_16 (xm1 0 rfl xm0) (xm1 0 rfl (xm1 1 rfl (xm1 2 rfl (xm1 3 rfl (xm1 4 rfl (xm1 5 rfl xm0)))))) xm0) hF34 (xm1 0 rfl xm0) (xm1 0 rfl (xm1 1 rfl (xm1 2 rfl (xm1 3 rfl (xm1 4 rfl (xm1 5 rfl xm0)))))) xm0) hF34 bkn cz oq34 e1 e3 t10 en13 I16_0 I16_1 I16_2 I16_3 hm16 c21 c28 t34 z37 ((hF_16.2.2 _ xn0).trans ((hF10.2.2 _ xn0).trans (ld_r hG2)))) (v_X2_cutRow_40_14 (K := K) (F := F) a p0 p1 G G34 G10 G_16 p2 p3 l5_16 N16 ha hp0 hp1 hk9999 hj9999 hk9999a hj9999a hk9999b hj9999b hk9999c hj9999c hk9999d hj9999d hk9999e hj9999e hk9999f hj9999f (XFr.call (XFr.call (XFr.call (by rw [hG2]; exact XFr.dput XFr.rf (List.mem_of_getElem? (i := 0) rfl)) hF10 (xm1 0 rfl xm0) (xm1 0 rfl (xm1 1 rfl (xm1 2 rfl (xm1 3 rfl (xm1 4 rfl (xm1 5 rfl xm0)))))) xm0) hF_16 (xm1 0 rfl xm0) (xm1 0 rfl (xm1 1 rfl (xm1 2 rfl (xm1 3 rfl (xm1 4 rfl (xm1 5 rfl xm0)))))) xm0) hF34 (xm1 0 rfl xm0) (xm1 0 rfl (xm1 1 rfl (xm1 2 rfl (xm1 3 rfl (xm1 4 rfl (xm1 5 rfl xm0)))))) xm0) hF34 bkn cz fi oq34 e1 e3 t10 en13 I16_0 I16_1 I16_2 I16_3 hm16 c21 c28 t34 z37 ((hF_16.2.2 _ xn0).trans ((hF10.2.2 _ xn0).trans (ld_r hG2)))) (v_X2_cutRow_40_15 (F := F) p0 G34 oq34a) (by rw [(e37 : Int32.toInt x37 = (l5_16.toInt + 1))] <;> exact (z_X2_cutRow_5 l5_16.toInt I16_0 c21)) (t34) (by rw [(e37 : Int32.toInt x37 = (l5_16.toInt + 1))] <;> exact (z_X2_cutRow_7 l5_16.toInt (cnv (gst (G34.2.1 (F a 0)) (G34.2.1 (F a 1)) (G34.2.1 (F a 2)) (G34.2.1 (F a 3)) (Int.toNat ((G34.1 a 4).toInt)), (vw (G34.2.1 (F p0 0))))) (cnv (gst (G_16.2.1 (F a 0)) (G_16.2.1 (F a 1)) (G_16.2.1 (F a 2)) (G_16.2.1 (F a 3)) (Int.toNat ((G_16.1 a 4).toInt)), (vw (G_16.2.1 (F p0 0))))) I16_2 z37)) (by rw [(e37 : Int32.toInt x37 = (l5_16.toInt + 1))] <;> exact (z_X2_cutRow_8 l5_16.toInt I16_0)) (by rw [(e37 : Int32.toInt x37 = (l5_16.toInt + 1))] <;> exact (z_X2_cutRow_9 l5_16.toInt N16 hm16)) hT hS (lv_sub hl [1, 2, 3, 0] rfl)
  exact L16 4294967297 0 G10 _ _ _ XFr.rf (v_X2_cutRow_14_16 (K := K) (F := F) a p0 p1 G G10 G2 p2 p3 ha hp0 hp1 hro oq10 oq10a oq10b oq10c oq10d e1 e3 t10 en13 (ld_at hG2)) (v_X2_cutRow_14_17 (K := K) (F := F) a p0 p1 G G10 G2 p2 p3 ha hp0 hp1 oq10 oq10a oq10b oq10c e1 e3 t10 en13 (ld_at hG2)) (v_X2_cutRow_14_18 (K := K) (F := F) a p0 p1 G G10 G2 p2 p3 ha hp0 hp1 oq10 oq10a oq10b oq10c oq10d e1 e3 t10 en13 (ld_at hG2)) (v_X2_cutRow_14_19 (F := F) p0 G10 oq10e) (by decide) (z_X2_cutRow_10 ((G10.1 a 4).toInt) t10) (z_X2_cutRow_11 (cnv (gst (G10.2.1 (F a 0)) (G10.2.1 (F a 1)) (G10.2.1 (F a 2)) (G10.2.1 (F a 3)) (Int.toNat ((G10.1 a 4).toInt)), (vw (G10.2.1 (F p0 0))))) en13) (by decide) (by decide) hT hS (lv_sub hl [1, 2, 3, 0] rfl)
theorem v_X2_moveRow_6_1 {F : Nat → Nat → Nat} (p0 : Nat) (G : XG)
    (hro : RO (vw (G.2.1 (F p0 0))) (aI (G.2.1 (F p0 1)))) :
    RO (vw (G.2.1 (F p0 0))) (aI (G.2.1 (F p0 1))) := by exact hro
theorem v_X2_moveRow_72_2 {K : Nat → Nat} {F : Nat → Nat → Nat} (a : Nat) (p0 : Nat) (p1 : Nat) (G : XG) (G_12 : XG) (p2 : Int32) (p3 : Int32) (p4 : Int32) (l6_12 : Int32) (N12 : Nat)
    (ha : K a = 4)
    (hp0 : K p0 = 8)
    (hp1 : K p1 = 2)
    (mv : (vw (G_12.2.1 (F p0 0))) = mvR (clsA G (G.2.2.1 (F p1 0))) (clsT G (G.2.2.1 (F p1 0))) (clsC G (G.2.2.1 (F p1 0))) p2.toInt p3.toInt p4.toInt (rmv (vw (G.2.1 (F p0 0))) p2.toInt p3.toInt p4.toInt) (Int.toNat (l6_12.toInt)))
    (e1 : 0 ≤ p2.toInt ∧ p2.toInt < 3 ∧ 0 ≤ p3.toInt ∧ p3.toInt < 30 ∧ 0 ≤ p4.toInt ∧ p4.toInt < 30 ∧ p3.toInt ≠ p4.toInt)
    (e3 : (cel (vw (G.2.1 (F p0 0))) (p2.toInt) (p3.toInt) 0) ≠ -2000)
    (I12_0 : 0 ≤ l6_12.toInt ∧ l6_12.toInt ≤ 12)
    (I12_1 : (0 : Int) ≤ l6_12.toInt)
    (hm12 : 2147483648 - l6_12.toInt < (((N12) + 1 : Nat) : Int))
    (c16 : (12 : Int) ≤ l6_12.toInt) :
    (vw (G_12.2.1 (F p0 0))) = mvR (clsA G (G.2.2.1 (F p1 0))) (clsT G (G.2.2.1 (F p1 0))) (clsC G (G.2.2.1 (F p1 0))) p2.toInt p3.toInt p4.toInt (rmv (vw (G.2.1 (F p0 0))) p2.toInt p3.toInt p4.toInt) 12 := by
  rw [mv, show l6_12.toInt = 12 from by omega]; rfl
theorem v_X2_moveRow_72_3 {F : Nat → Nat → Nat} (p0 : Nat) (G_12 : XG)
    (ro : RO (vw (G_12.2.1 (F p0 0))) (aI (G_12.2.1 (F p0 1)))) :
    RO (vw (G_12.2.1 (F p0 0))) (aI (G_12.2.1 (F p0 1))) := by
  exact ro
theorem v_X2_moveRow_69_4 {K : Nat → Nat} {F : Nat → Nat → Nat} (a : Nat) (p0 : Nat) (p1 : Nat) (G : XG) (G_12 : XG) (p2 : Int32) (p3 : Int32) (p4 : Int32) (l6_12 : Int32) (N12 : Nat)
    (ha : K a = 4)
    (hp0 : K p0 = 8)
    (hp1 : K p1 = 2)
    (mv : (vw (G_12.2.1 (F p0 0))) = mvR (clsA G (G.2.2.1 (F p1 0))) (clsT G (G.2.2.1 (F p1 0))) (clsC G (G.2.2.1 (F p1 0))) p2.toInt p3.toInt p4.toInt (rmv (vw (G.2.1 (F p0 0))) p2.toInt p3.toInt p4.toInt) (Int.toNat (l6_12.toInt)))
    (hn22 : (l6_12.toInt < 0 ∨ 12 ≤ l6_12.toInt) ∨ G_12.2.2.1 (F p1 0) (l6_12.toInt).toNat = none)
    (e1 : 0 ≤ p2.toInt ∧ p2.toInt < 3 ∧ 0 ≤ p3.toInt ∧ p3.toInt < 30 ∧ 0 ≤ p4.toInt ∧ p4.toInt < 30 ∧ p3.toInt ≠ p4.toInt)
    (e3 : (cel (vw (G.2.1 (F p0 0))) (p2.toInt) (p3.toInt) 0) ≠ -2000)
    (I12_0 : 0 ≤ l6_12.toInt ∧ l6_12.toInt ≤ 12)
    (I12_1 : (0 : Int) ≤ l6_12.toInt)
    (hm12 : 2147483648 - l6_12.toInt < (((N12) + 1 : Nat) : Int))
    (c16 : ¬ ((12 : Int) ≤ l6_12.toInt))
    (r_G_12_F_p1_0 : G_12.2.2.1 (F p1 0) = G.2.2.1 (F p1 0)) :
    (vw (G_12.2.1 (F p0 0))) = mvR (clsA G (G.2.2.1 (F p1 0))) (clsT G (G.2.2.1 (F p1 0))) (clsC G (G.2.2.1 (F p1 0))) p2.toInt p3.toInt p4.toInt (rmv (vw (G.2.1 (F p0 0))) p2.toInt p3.toInt p4.toInt) (Int.toNat (l6_12.toInt + 1)) := by
  have hq : G.2.2.1 (F p1 0) l6_12.toInt.toNat = none := by rw [← r_G_12_F_p1_0]; exact hn22.elim (fun h => absurd h (by omega)) id
  rw [mvR_s (by omega), if_neg (by rw [clsA_n hq]; decide)]
  exact mv
theorem v_X2_moveRow_69_5 {F : Nat → Nat → Nat} (p0 : Nat) (G_12 : XG)
    (ro : RO (vw (G_12.2.1 (F p0 0))) (aI (G_12.2.1 (F p0 1)))) :
    RO (vw (G_12.2.1 (F p0 0))) (aI (G_12.2.1 (F p0 1))) := by
  first | exact oq63a | exact ro
theorem v_X2_moveRow_69_6 {K : Nat → Nat} {F : Nat → Nat → Nat} (a : Nat) (p0 : Nat) (p1 : Nat) (q22 : Nat) (G : XG) (G6 : XG) (G_12 : XG) (p2 : Int32) (p3 : Int32) (p4 : Int32) (l6_12 : Int32) (N12 : Nat) (x35 : Int32)
    (ha : K a = 4)
    (hp0 : K p0 = 8)
    (hp1 : K p1 = 2)
    (hk9999 : K (F p0 0) = 20)
    (hj9999 : F (F p0 0) 99 = F p0 99)
    (hk9999a : K (F p0 1) = 21)
    (hj9999a : F (F p0 1) 99 = F p0 99)
    (hk9999b : K (F p1 0) = 15)
    (hj9999b : F (F p1 0) 99 = 0)
    (hk22 : K q22 = 9)
    (hF6 : XFr [] [F p0 0, F p0 1] [] G G6)
    (hF_12 : XFr [] [F p0 0, F p0 1] [] G6 G_12)
    (bkn : BKr K G (G.2.2.1 (F p1 0)))
    (hac : ACo G (G.2.2.1 (F p1 0)))
    (mv : (vw (G_12.2.1 (F p0 0))) = mvR (clsA G (G.2.2.1 (F p1 0))) (clsT G (G.2.2.1 (F p1 0))) (clsC G (G.2.2.1 (F p1 0))) p2.toInt p3.toInt p4.toInt (rmv (vw (G.2.1 (F p0 0))) p2.toInt p3.toInt p4.toInt) (Int.toNat (l6_12.toInt)))
    (hs22 : G_12.2.2.1 (F p1 0) (l6_12.toInt).toNat = some q22)
    (e1 : 0 ≤ p2.toInt ∧ p2.toInt < 3 ∧ 0 ≤ p3.toInt ∧ p3.toInt < 30 ∧ 0 ≤ p4.toInt ∧ p4.toInt < 30 ∧ p3.toInt ≠ p4.toInt)
    (e3 : (cel (vw (G.2.1 (F p0 0))) (p2.toInt) (p3.toInt) 0) ≠ -2000)
    (I12_0 : 0 ≤ l6_12.toInt ∧ l6_12.toInt ≤ 12)
    (I12_1 : (0 : Int) ≤ l6_12.toInt)
    (hm12 : 2147483648 - l6_12.toInt < (((N12) + 1 : Nat) : Int))
    (c16 : ¬ ((12 : Int) ≤ l6_12.toInt))
    (ht22 : 0 ≤ l6_12.toInt ∧ l6_12.toInt < 12)
    (t35 : ((((G.1 q22 0).toInt) = 1 ∧ ((G.1 q22 4).toInt) = p2.toInt ∧ ((G.1 q22 7).toInt) ≠ 0) ∧ x35.toInt = 1) ∨ (¬ (((G.1 q22 0).toInt) = 1 ∧ ((G.1 q22 4).toInt) = p2.toInt ∧ ((G.1 q22 7).toInt) ≠ 0) ∧ x35.toInt = 0))
    (c38 : x35.toInt = 0)
    (r_G_12_F_p1_0 : G_12.2.2.1 (F p1 0) = G.2.2.1 (F p1 0)) :
    (vw (G_12.2.1 (F p0 0))) = mvR (clsA G (G.2.2.1 (F p1 0))) (clsT G (G.2.2.1 (F p1 0))) (clsC G (G.2.2.1 (F p1 0))) p2.toInt p3.toInt p4.toInt (rmv (vw (G.2.1 (F p0 0))) p2.toInt p3.toInt p4.toInt) (Int.toNat (l6_12.toInt + 1)) := by
  have hd : ∀ p, p ∈ ([] : List (Nat × Nat)) → K p.1 ≠ 9 := fun _ h => by cases h
  have hc : ∀ (i q : Nat), i < 12 → G.2.2.1 (F p1 0) i = some q → G_12.1 q = G.1 q := fun i q hi hq => (hF_12.rule hd (bkn i q hi hq).1).trans (hF6.rule hd (bkn i q hi hq).1)
  have hq : G.2.2.1 (F p1 0) l6_12.toInt.toNat = some q22 := by rw [← r_G_12_F_p1_0]; exact hs22
  have hg : G_12.1 q22 = G.1 q22 := hc _ q22 (by omega) hq
  have as := clsA_s (G := G) (t := p2.toInt) hq
  have ac := hac _ q22 (by omega) hq
  rw [hg] at *
  rw [mvR_s (by omega), if_neg (by rw [as]; split <;> omega)]
  exact mv
theorem v_X2_moveRow_69_7 {F : Nat → Nat → Nat} (p0 : Nat) (G_12 : XG)
    (ro : RO (vw (G_12.2.1 (F p0 0))) (aI (G_12.2.1 (F p0 1)))) :
    RO (vw (G_12.2.1 (F p0 0))) (aI (G_12.2.1 (F p0 1))) := by
  first | exact oq63a | exact ro
theorem v_X2_moveRow_63_8 {F : Nat → Nat → Nat} (p0 : Nat) (G_12 : XG)
    (ro : RO (vw (G_12.2.1 (F p0 0))) (aI (G_12.2.1 (F p0 1)))) :
    RO (vw (G_12.2.1 (F p0 0))) (aI (G_12.2.1 (F p0 1))) := by exact ro
theorem v_X2_moveRow_63_9 {K : Nat → Nat} {F : Nat → Nat → Nat} (a : Nat) (p0 : Nat) (p1 : Nat) (q22 : Nat) (G : XG) (G6 : XG) (G_12 : XG) (p2 : Int32) (p3 : Int32) (p4 : Int32) (l6_12 : Int32) (N12 : Nat) (x35 : Int32)
    (ha : K a = 4)
    (hp0 : K p0 = 8)
    (hp1 : K p1 = 2)
    (hk9999 : K (F p0 0) = 20)
    (hj9999 : F (F p0 0) 99 = F p0 99)
    (hk9999a : K (F p0 1) = 21)
    (hj9999a : F (F p0 1) 99 = F p0 99)
    (hk9999b : K (F p1 0) = 15)
    (hj9999b : F (F p1 0) 99 = 0)
    (hk22 : K q22 = 9)
    (hF6 : XFr [] [F p0 0, F p0 1] [] G G6)
    (hF_12 : XFr [] [F p0 0, F p0 1] [] G6 G_12)
    (bkn : BKr K G (G.2.2.1 (F p1 0)))
    (hs22 : G_12.2.2.1 (F p1 0) (l6_12.toInt).toNat = some q22)
    (e1 : 0 ≤ p2.toInt ∧ p2.toInt < 3 ∧ 0 ≤ p3.toInt ∧ p3.toInt < 30 ∧ 0 ≤ p4.toInt ∧ p4.toInt < 30 ∧ p3.toInt ≠ p4.toInt)
    (e3 : (cel (vw (G.2.1 (F p0 0))) (p2.toInt) (p3.toInt) 0) ≠ -2000)
    (I12_0 : 0 ≤ l6_12.toInt ∧ l6_12.toInt ≤ 12)
    (I12_1 : (0 : Int) ≤ l6_12.toInt)
    (hm12 : 2147483648 - l6_12.toInt < (((N12) + 1 : Nat) : Int))
    (c16 : ¬ ((12 : Int) ≤ l6_12.toInt))
    (ht22 : 0 ≤ l6_12.toInt ∧ l6_12.toInt < 12)
    (t35 : ((((G.1 q22 0).toInt) = 1 ∧ ((G.1 q22 4).toInt) = p2.toInt ∧ ((G.1 q22 7).toInt) ≠ 0) ∧ x35.toInt = 1) ∨ (¬ (((G.1 q22 0).toInt) = 1 ∧ ((G.1 q22 4).toInt) = p2.toInt ∧ ((G.1 q22 7).toInt) ≠ 0) ∧ x35.toInt = 0))
    (c38 : ¬ (x35.toInt = 0))
    (c52 : ((G.1 q22 7).toInt) ≠ (1 : Int))
    (r_G_12_F_p1_0 : G_12.2.2.1 (F p1 0) = G.2.2.1 (F p1 0)) :
    RW (G_12.1 q22) := by
  have hd : ∀ p, p ∈ ([] : List (Nat × Nat)) → K p.1 ≠ 9 := fun _ h => by cases h
  have hc : ∀ (i q : Nat), i < 12 → G.2.2.1 (F p1 0) i = some q → G_12.1 q = G.1 q := fun i q hi hq => (hF_12.rule hd (bkn i q hi hq).1).trans (hF6.rule hd (bkn i q hi hq).1)
  have hq : G.2.2.1 (F p1 0) l6_12.toInt.toNat = some q22 := by rw [← r_G_12_F_p1_0]; exact hs22
  rw [hc _ q22 (by omega) hq]
  exact (bkn _ q22 (by omega) hq).2
theorem v_X2_moveRow_69_10 {K : Nat → Nat} {F : Nat → Nat → Nat} (a : Nat) (p0 : Nat) (p1 : Nat) (q22 : Nat) (G : XG) (G6 : XG) (G_12 : XG) (G63 : XG) (p2 : Int32) (p3 : Int32) (p4 : Int32) (l6_12 : Int32) (N12 : Nat) (x35 : Int32)
    (ha : K a = 4)
    (hp0 : K p0 = 8)
    (hp1 : K p1 = 2)
    (hk9999 : K (F p0 0) = 20)
    (hj9999 : F (F p0 0) 99 = F p0 99)
    (hk9999a : K (F p0 1) = 21)
    (hj9999a : F (F p0 1) 99 = F p0 99)
    (hk9999b : K (F p1 0) = 15)
    (hj9999b : F (F p1 0) 99 = 0)
    (hk22 : K q22 = 9)
    (hF6 : XFr [] [F p0 0, F p0 1] [] G G6)
    (hF_12 : XFr [] [F p0 0, F p0 1] [] G6 G_12)
    (bkn : BKr K G (G.2.2.1 (F p1 0)))
    (hac : ACo G (G.2.2.1 (F p1 0)))
    (mv : (vw (G_12.2.1 (F p0 0))) = mvR (clsA G (G.2.2.1 (F p1 0))) (clsT G (G.2.2.1 (F p1 0))) (clsC G (G.2.2.1 (F p1 0))) p2.toInt p3.toInt p4.toInt (rmv (vw (G.2.1 (F p0 0))) p2.toInt p3.toInt p4.toInt) (Int.toNat (l6_12.toInt)))
    (hs22 : G_12.2.2.1 (F p1 0) (l6_12.toInt).toNat = some q22)
    (oq63 : (vw (G63.2.1 (F p0 0))) = repl (vw (G_12.2.1 (F p0 0))) ((G.1 q22 2).toInt) ((G.1 q22 3).toInt) p3.toInt (-1000 : Int) 30)
    (e1 : 0 ≤ p2.toInt ∧ p2.toInt < 3 ∧ 0 ≤ p3.toInt ∧ p3.toInt < 30 ∧ 0 ≤ p4.toInt ∧ p4.toInt < 30 ∧ p3.toInt ≠ p4.toInt)
    (e3 : (cel (vw (G.2.1 (F p0 0))) (p2.toInt) (p3.toInt) 0) ≠ -2000)
    (I12_0 : 0 ≤ l6_12.toInt ∧ l6_12.toInt ≤ 12)
    (I12_1 : (0 : Int) ≤ l6_12.toInt)
    (hm12 : 2147483648 - l6_12.toInt < (((N12) + 1 : Nat) : Int))
    (c16 : ¬ ((12 : Int) ≤ l6_12.toInt))
    (ht22 : 0 ≤ l6_12.toInt ∧ l6_12.toInt < 12)
    (t35 : ((((G.1 q22 0).toInt) = 1 ∧ ((G.1 q22 4).toInt) = p2.toInt ∧ ((G.1 q22 7).toInt) ≠ 0) ∧ x35.toInt = 1) ∨ (¬ (((G.1 q22 0).toInt) = 1 ∧ ((G.1 q22 4).toInt) = p2.toInt ∧ ((G.1 q22 7).toInt) ≠ 0) ∧ x35.toInt = 0))
    (c38 : ¬ (x35.toInt = 0))
    (c52 : ((G.1 q22 7).toInt) ≠ (1 : Int))
    (r_G_12_F_p1_0 : G_12.2.2.1 (F p1 0) = G.2.2.1 (F p1 0)) :
    (vw (G63.2.1 (F p0 0))) = mvR (clsA G (G.2.2.1 (F p1 0))) (clsT G (G.2.2.1 (F p1 0))) (clsC G (G.2.2.1 (F p1 0))) p2.toInt p3.toInt p4.toInt (rmv (vw (G.2.1 (F p0 0))) p2.toInt p3.toInt p4.toInt) (Int.toNat (l6_12.toInt + 1)) := by
  have hd : ∀ p, p ∈ ([] : List (Nat × Nat)) → K p.1 ≠ 9 := fun _ h => by cases h
  have hc : ∀ (i q : Nat), i < 12 → G.2.2.1 (F p1 0) i = some q → G_12.1 q = G.1 q := fun i q hi hq => (hF_12.rule hd (bkn i q hi hq).1).trans (hF6.rule hd (bkn i q hi hq).1)
  have hq : G.2.2.1 (F p1 0) l6_12.toInt.toNat = some q22 := by rw [← r_G_12_F_p1_0]; exact hs22
  have hg : G_12.1 q22 = G.1 q22 := hc _ q22 (by omega) hq
  have as := clsA_s (G := G) (t := p2.toInt) hq
  have ac := hac _ q22 (by omega) hq
  rw [hg] at *
  have ts := clsT_s (G := G) hq ⟨by omega, by omega, by omega⟩
  rw [if_pos (by omega)] at as
  rw [mvR_s (by omega), if_pos (by omega), ts.1, ts.2, ← mv, as, oq63]
  first
    | rw [if_pos (by omega)]
    | rw [if_neg (by omega)]
theorem v_X2_moveRow_69_11 {F : Nat → Nat → Nat} (p0 : Nat) (G_12 : XG) (G63 : XG)
    (ro : RO (vw (G_12.2.1 (F p0 0))) (aI (G_12.2.1 (F p0 1))))
    (oq63a : RO (vw (G63.2.1 (F p0 0))) (aI (G63.2.1 (F p0 1)))) :
    RO (vw (G63.2.1 (F p0 0))) (aI (G63.2.1 (F p0 1))) := by
  first | exact oq63a | exact ro
theorem v_X2_moveRow_63_12 {F : Nat → Nat → Nat} (p0 : Nat) (G_12 : XG)
    (ro : RO (vw (G_12.2.1 (F p0 0))) (aI (G_12.2.1 (F p0 1)))) :
    RO (vw (G_12.2.1 (F p0 0))) (aI (G_12.2.1 (F p0 1))) := by exact ro
theorem v_X2_moveRow_63_13 {K : Nat → Nat} {F : Nat → Nat → Nat} (a : Nat) (p0 : Nat) (p1 : Nat) (q22 : Nat) (G : XG) (G6 : XG) (G_12 : XG) (p2 : Int32) (p3 : Int32) (p4 : Int32) (l6_12 : Int32) (N12 : Nat) (x35 : Int32)
    (ha : K a = 4)
    (hp0 : K p0 = 8)
    (hp1 : K p1 = 2)
    (hk9999 : K (F p0 0) = 20)
    (hj9999 : F (F p0 0) 99 = F p0 99)
    (hk9999a : K (F p0 1) = 21)
    (hj9999a : F (F p0 1) 99 = F p0 99)
    (hk9999b : K (F p1 0) = 15)
    (hj9999b : F (F p1 0) 99 = 0)
    (hk22 : K q22 = 9)
    (hF6 : XFr [] [F p0 0, F p0 1] [] G G6)
    (hF_12 : XFr [] [F p0 0, F p0 1] [] G6 G_12)
    (bkn : BKr K G (G.2.2.1 (F p1 0)))
    (hs22 : G_12.2.2.1 (F p1 0) (l6_12.toInt).toNat = some q22)
    (e1 : 0 ≤ p2.toInt ∧ p2.toInt < 3 ∧ 0 ≤ p3.toInt ∧ p3.toInt < 30 ∧ 0 ≤ p4.toInt ∧ p4.toInt < 30 ∧ p3.toInt ≠ p4.toInt)
    (e3 : (cel (vw (G.2.1 (F p0 0))) (p2.toInt) (p3.toInt) 0) ≠ -2000)
    (I12_0 : 0 ≤ l6_12.toInt ∧ l6_12.toInt ≤ 12)
    (I12_1 : (0 : Int) ≤ l6_12.toInt)
    (hm12 : 2147483648 - l6_12.toInt < (((N12) + 1 : Nat) : Int))
    (c16 : ¬ ((12 : Int) ≤ l6_12.toInt))
    (ht22 : 0 ≤ l6_12.toInt ∧ l6_12.toInt < 12)
    (t35 : ((((G.1 q22 0).toInt) = 1 ∧ ((G.1 q22 4).toInt) = p2.toInt ∧ ((G.1 q22 7).toInt) ≠ 0) ∧ x35.toInt = 1) ∨ (¬ (((G.1 q22 0).toInt) = 1 ∧ ((G.1 q22 4).toInt) = p2.toInt ∧ ((G.1 q22 7).toInt) ≠ 0) ∧ x35.toInt = 0))
    (c38 : ¬ (x35.toInt = 0))
    (c52 : ¬ (((G.1 q22 7).toInt) ≠ (1 : Int)))
    (r_G_12_F_p1_0 : G_12.2.2.1 (F p1 0) = G.2.2.1 (F p1 0)) :
    RW (G_12.1 q22) := by
  have hd : ∀ p, p ∈ ([] : List (Nat × Nat)) → K p.1 ≠ 9 := fun _ h => by cases h
  have hc : ∀ (i q : Nat), i < 12 → G.2.2.1 (F p1 0) i = some q → G_12.1 q = G.1 q := fun i q hi hq => (hF_12.rule hd (bkn i q hi hq).1).trans (hF6.rule hd (bkn i q hi hq).1)
  have hq : G.2.2.1 (F p1 0) l6_12.toInt.toNat = some q22 := by rw [← r_G_12_F_p1_0]; exact hs22
  rw [hc _ q22 (by omega) hq]
  exact (bkn _ q22 (by omega) hq).2
theorem v_X2_moveRow_69_14 {K : Nat → Nat} {F : Nat → Nat → Nat} (a : Nat) (p0 : Nat) (p1 : Nat) (q22 : Nat) (G : XG) (G6 : XG) (G_12 : XG) (G63 : XG) (p2 : Int32) (p3 : Int32) (p4 : Int32) (l6_12 : Int32) (N12 : Nat) (x35 : Int32)
    (ha : K a = 4)
    (hp0 : K p0 = 8)
    (hp1 : K p1 = 2)
    (hk9999 : K (F p0 0) = 20)
    (hj9999 : F (F p0 0) 99 = F p0 99)
    (hk9999a : K (F p0 1) = 21)
    (hj9999a : F (F p0 1) 99 = F p0 99)
    (hk9999b : K (F p1 0) = 15)
    (hj9999b : F (F p1 0) 99 = 0)
    (hk22 : K q22 = 9)
    (hF6 : XFr [] [F p0 0, F p0 1] [] G G6)
    (hF_12 : XFr [] [F p0 0, F p0 1] [] G6 G_12)
    (bkn : BKr K G (G.2.2.1 (F p1 0)))
    (hac : ACo G (G.2.2.1 (F p1 0)))
    (mv : (vw (G_12.2.1 (F p0 0))) = mvR (clsA G (G.2.2.1 (F p1 0))) (clsT G (G.2.2.1 (F p1 0))) (clsC G (G.2.2.1 (F p1 0))) p2.toInt p3.toInt p4.toInt (rmv (vw (G.2.1 (F p0 0))) p2.toInt p3.toInt p4.toInt) (Int.toNat (l6_12.toInt)))
    (hs22 : G_12.2.2.1 (F p1 0) (l6_12.toInt).toNat = some q22)
    (oq63 : (vw (G63.2.1 (F p0 0))) = repl (vw (G_12.2.1 (F p0 0))) ((G.1 q22 2).toInt) ((G.1 q22 3).toInt) p3.toInt p4.toInt 30)
    (e1 : 0 ≤ p2.toInt ∧ p2.toInt < 3 ∧ 0 ≤ p3.toInt ∧ p3.toInt < 30 ∧ 0 ≤ p4.toInt ∧ p4.toInt < 30 ∧ p3.toInt ≠ p4.toInt)
    (e3 : (cel (vw (G.2.1 (F p0 0))) (p2.toInt) (p3.toInt) 0) ≠ -2000)
    (I12_0 : 0 ≤ l6_12.toInt ∧ l6_12.toInt ≤ 12)
    (I12_1 : (0 : Int) ≤ l6_12.toInt)
    (hm12 : 2147483648 - l6_12.toInt < (((N12) + 1 : Nat) : Int))
    (c16 : ¬ ((12 : Int) ≤ l6_12.toInt))
    (ht22 : 0 ≤ l6_12.toInt ∧ l6_12.toInt < 12)
    (t35 : ((((G.1 q22 0).toInt) = 1 ∧ ((G.1 q22 4).toInt) = p2.toInt ∧ ((G.1 q22 7).toInt) ≠ 0) ∧ x35.toInt = 1) ∨ (¬ (((G.1 q22 0).toInt) = 1 ∧ ((G.1 q22 4).toInt) = p2.toInt ∧ ((G.1 q22 7).toInt) ≠ 0) ∧ x35.toInt = 0))
    (c38 : ¬ (x35.toInt = 0))
    (c52 : ¬ (((G.1 q22 7).toInt) ≠ (1 : Int)))
    (r_G_12_F_p1_0 : G_12.2.2.1 (F p1 0) = G.2.2.1 (F p1 0)) :
    (vw (G63.2.1 (F p0 0))) = mvR (clsA G (G.2.2.1 (F p1 0))) (clsT G (G.2.2.1 (F p1 0))) (clsC G (G.2.2.1 (F p1 0))) p2.toInt p3.toInt p4.toInt (rmv (vw (G.2.1 (F p0 0))) p2.toInt p3.toInt p4.toInt) (Int.toNat (l6_12.toInt + 1)) := by
  have hd : ∀ p, p ∈ ([] : List (Nat × Nat)) → K p.1 ≠ 9 := fun _ h => by cases h
  have hc : ∀ (i q : Nat), i < 12 → G.2.2.1 (F p1 0) i = some q → G_12.1 q = G.1 q := fun i q hi hq => (hF_12.rule hd (bkn i q hi hq).1).trans (hF6.rule hd (bkn i q hi hq).1)
  have hq : G.2.2.1 (F p1 0) l6_12.toInt.toNat = some q22 := by rw [← r_G_12_F_p1_0]; exact hs22
  have hg : G_12.1 q22 = G.1 q22 := hc _ q22 (by omega) hq
  have as := clsA_s (G := G) (t := p2.toInt) hq
  have ac := hac _ q22 (by omega) hq
  rw [hg] at *
  have ts := clsT_s (G := G) hq ⟨by omega, by omega, by omega⟩
  rw [if_pos (by omega)] at as
  rw [mvR_s (by omega), if_pos (by omega), ts.1, ts.2, ← mv, as, oq63]
  first
    | rw [if_pos (by omega)]
    | rw [if_neg (by omega)]
theorem v_X2_moveRow_69_15 {F : Nat → Nat → Nat} (p0 : Nat) (G_12 : XG) (G63 : XG)
    (ro : RO (vw (G_12.2.1 (F p0 0))) (aI (G_12.2.1 (F p0 1))))
    (oq63a : RO (vw (G63.2.1 (F p0 0))) (aI (G63.2.1 (F p0 1)))) :
    RO (vw (G63.2.1 (F p0 0))) (aI (G63.2.1 (F p0 1))) := by
  first | exact oq63a | exact ro
theorem v_X2_moveRow_10_16 {F : Nat → Nat → Nat} (p0 : Nat) (p1 : Nat) (G : XG) (G6 : XG) (p2 : Int32) (p3 : Int32) (p4 : Int32)
    (oq6 : (vw (G6.2.1 (F p0 0))) = rmv (vw (G.2.1 (F p0 0))) (p2.toInt) (p3.toInt) (p4.toInt)) :
    (vw (G6.2.1 (F p0 0))) = mvR (clsA G (G.2.2.1 (F p1 0))) (clsT G (G.2.2.1 (F p1 0))) (clsC G (G.2.2.1 (F p1 0))) p2.toInt p3.toInt p4.toInt (rmv (vw (G.2.1 (F p0 0))) p2.toInt p3.toInt p4.toInt) (Int.toNat (0 : Int)) := by
  rw [oq6]; rfl
theorem v_X2_moveRow_10_17 {F : Nat → Nat → Nat} (p0 : Nat) (G6 : XG)
    (oq6a : RO (vw (G6.2.1 (F p0 0))) (aI (G6.2.1 (F p0 1)))) :
    RO (vw (G6.2.1 (F p0 0))) (aI (G6.2.1 (F p0 1))) := by
  exact oq6a
theorem z_X2_moveRow_1 (a0 : Int) (a1 : Int) (a2 : Int) (h0 : 0 ≤ a0) (h1 : a0 < 3) (h2 : 0 ≤ a1) (h3 : a1 < 30) (h4 : 0 ≤ a2) (h5 : a2 < 30) (h6 : a1 ≠ a2) : 0 ≤ a0 ∧ a0 < 3 ∧ 0 ≤ a1 ∧ a1 < 30 ∧ 0 ≤ a2 ∧ a2 < 30 ∧ a1 ≠ a2 := by omega
theorem z_X2_moveRow_3 (a0 : Int) (h0 : 0 ≤ a0 ∧ a0 ≤ 12) : ¬ (2147483648 - a0 < ((0 : Nat) : Int)) := by omega
theorem z_X2_moveRow_4 (a0 : Int) (a1 : Int) (h0 : 0 ≤ a0 ∧ a0 ≤ 12) (h1 : a1 = (a0 + 1) ∨ (a0 + 1) < -2147483648 ∨ 2147483648 ≤ (a0 + 1)) : a1 = (a0 + 1) := by omega
theorem z_X2_moveRow_5 (a0 : Int) (h0 : 0 ≤ a0 ∧ a0 ≤ 12) (h1 : ¬ ((12 : Int) ≤ a0)) : 0 ≤ (a0 + 1) ∧ (a0 + 1) ≤ 12 := by omega
theorem z_X2_moveRow_6 (a0 : Int) (h0 : 0 ≤ a0 ∧ a0 ≤ 12) : (0 : Int) ≤ (a0 + 1) := by omega
theorem z_X2_moveRow_7 (a0 : Int) (a1 : Nat) (h0 : 2147483648 - a0 < ((a1 + 1 : Nat) : Int)) : 2147483648 - (a0 + 1) < ((a1 : Nat) : Int) := by omega
theorem z_X2_moveRow_12 (a0 : Int) (h0 : 0 ≤ a0) (h1 : a0 < 30) : 0 ≤ a0 ∧ a0 < 30 := by omega
theorem z_X2_moveRow_18 (a0 : Int) (h0 : 0 ≤ a0) (h1 : a0 < 30) : a0 = -1000 ∨ (-99 ≤ a0 ∧ a0 ≤ 99) := by omega
abbrev rm_X2_moveRow : Room := { frames := 4, cells := 0, slots := 0, locals := 91 }
set_option maxHeartbeats 4000000 in
set_option maxRecDepth 100000 in
theorem c_X2_moveRow (l : Launch) (E : XE) (K : Nat → Nat) (F : Nat → Nat → Nat) (G : XG) (a : Nat) (p0 : Nat) (p1 : Nat) (p2 : Int32) (p3 : Int32) (p4 : Int32) (ha : K a = 4) (hp0 : K p0 = 8) (hp1 : K p1 = 2) (e1 : 0 ≤ p2.toInt ∧ p2.toInt < 3 ∧ 0 ≤ p3.toInt ∧ p3.toInt < 30 ∧ 0 ≤ p4.toInt ∧ p4.toInt < 30 ∧ p3.toInt ≠ p4.toInt) (e3 : (cel (vw (G.2.1 (F p0 0))) (p2.toInt) (p3.toInt) 0) ≠ -2000) (hro : RO (vw (G.2.1 (F p0 0))) (aI (G.2.1 (F p0 1)))) (bkn : BKr K G (G.2.2.1 (F p1 0))) (hac : ACo G (G.2.2.1 (F p1 0))) : Met l yX2_moveRow (xw yX2_moveRow cX2_moveRow 8 none) rm_X2_moveRow (va_Pc [.ref a, .ref p0, .ref p1, .int p2, .int p3, .int p4] (XP E K F G)) (XQv E (fun (u : XG) => XFr [] [F p0 0, F p0 1] [] G u ∧ ((vw (u.2.1 (F p0 0))) = mvR (clsA G (G.2.2.1 (F p1 0))) (clsT G (G.2.2.1 (F p1 0))) (clsC G (G.2.2.1 (F p1 0))) p2.toInt p3.toInt p4.toInt (rmv (vw (G.2.1 (F p0 0))) p2.toInt p3.toInt p4.toInt) 12) ∧ (RO (vw (u.2.1 (F p0 0))) (aI (u.2.1 (F p0 1))))) (fun u H => TW E K F u H)) 0 0 (xA E) := by
  refine x_enter (by decide) (Nat.le_of_ble_eq_true rfl) ?_
  intro p e s m args below meth c Q S hr hlk hnm hQ hP ls hl
  obtain ⟨hz, hK, hT⟩ := hP
  obtain ⟨hx, hb, -, -, -⟩ := id S
  obtain ⟨H, hT, hS, hgo⟩ : ∃ H : Heap, TW E K F G H ∧ va_S (xA E) s.heap H [] ∧ H = s.heap := ⟨_, hT, va_S.rf, rfl⟩
  rw [← hgo]
  have hl : lv_has ls 8 [(0, .ref a), (1, .ref p0), (2, .ref p1), (3, .int p2), (4, .int p3), (5, .int p4)] := hl
  obtain ⟨hk9999, hj9999⟩ := fkX6_0 hT hp0
  obtain ⟨hk9999a, hj9999a⟩ := fkX6_1 hT hp0
  obtain ⟨hk9999b, hj9999b⟩ := fkX0_0 hT hp1
  refine lv_aload_n hx hb dX2_moveRow_0 rfl (lv_at hl 1 rfl) ?_
  refine lv_iload_n hx hb dX2_moveRow_1 rfl (lv_at hl 3 rfl) ?_
  refine lv_iload hx hb dX2_moveRow_2 (lv_at hl 4 rfl) ?_
  refine lv_iload hx hb dX2_moveRow_4 (lv_at hl 5 rfl) ?_
  refine x_cv0 (x_runV (b := p0) (As := [.int p2, .int p3, .int p4]) (rest := []) S (c_X6_move l E K F G p0 p2 p3 p4 hp0 (z_X2_moveRow_1 p2.toInt p3.toInt p4.toInt (e1).1 (e1).2.1 (e1).2.2.1 (e1).2.2.2.1 (e1).2.2.2.2.1 (e1).2.2.2.2.2.1 (e1).2.2.2.2.2.2) (e3) (v_X2_moveRow_6_1 (F := F) p0 G hro)) mv_X6_move km_X2_36 rfl rfl ⟨Nat.le_of_ble_eq_true rfl, Nat.le_of_ble_eq_true rfl⟩ (rc_8 hK hT hp0) hK (fun _ => XP.blind) (fun U hU hW => XP.at hK hz hS hT hU hW) rfl hl.1 (Nat.le_of_ble_eq_true rfl) dX2_moveRow_6 ⟨Nat.le_of_ble_eq_true rfl, Nat.le_of_ble_eq_true rfl⟩) hS ?_
  rintro G6 H locs ⟨hF6, oq6, oq6a⟩ hT hS
  refine lv_iconst (v := 0) hx hb dX2_moveRow_9 (by decide) ?_
  refine lv_istore (lv' := [(6, .int 0), (0, .ref a), (1, .ref p0), (2, .ref p1), (3, .int p2), (4, .int p3), (5, .int p4)]) hx hb dX2_moveRow_10 hl (by decide) rfl (fun ls hl => ?_)
  have L12 : ∀ (N12 : Nat) (l6_12 : Int32) (G_12 : XG) (H : Heap) (locs : List Loc) (ls : Array Slot), XFr [] [F p0 0, F p0 1] [] G6 G_12 → (vw (G_12.2.1 (F p0 0))) = mvR (clsA G (G.2.2.1 (F p1 0))) (clsT G (G.2.2.1 (F p1 0))) (clsC G (G.2.2.1 (F p1 0))) p2.toInt p3.toInt p4.toInt (rmv (vw (G.2.1 (F p0 0))) p2.toInt p3.toInt p4.toInt) (Int.toNat (l6_12.toInt)) → RO (vw (G_12.2.1 (F p0 0))) (aI (G_12.2.1 (F p0 1))) → 0 ≤ l6_12.toInt ∧ l6_12.toInt ≤ 12 → (0 : Int) ≤ l6_12.toInt → 2147483648 - l6_12.toInt < ((N12 : Nat) : Int) → TW E K F G_12 H → va_S (xA E) s.heap H locs → lv_has ls 8 [(1, .ref p0), (2, .ref p1), (3, .int p2), (4, .int p3), (5, .int p4), (6, .int l6_12)] → W p l e rm_X2_moveRow s m args below meth c H locs 0 0 Q (F0 m 12 ls []) := by
    intro N12
    induction N12 with
    | zero =>
      intro l6_12 G_12 H locs ls hF_12 mv ro I12_0 I12_1 hm12
      exact absurd hm12 (z_X2_moveRow_3 l6_12.toInt I12_0)
    | succ N12 ih12 =>
      intro l6_12 G_12 H locs ls hF_12 mv ro I12_0 I12_1 hm12 hT hS hl
      refine lv_iload hx hb dX2_moveRow_12 (lv_at hl 5 rfl) ?_
      refine lv_bipush (v := 12) hx hb dX2_moveRow_14 (by decide) ?_
      refine xi_cge (tgt := 72) hx hb (rfl : Int32.toInt l6_12 = l6_12.toInt) ((by decide) : Int32.toInt 12 = (12 : Int)) dX2_moveRow_16 (by decide) (fun c16 => ?_) (fun c16 => ?_)
      · exact x_rv hx hb hr hlk hQ (Nat.le_of_ble_eq_true rfl) (Nat.le_of_ble_eq_true rfl) hS dX2_moveRow_72 G_12 ⟨(XFr.call (XFr.call XFr.rf hF6 xm0 (xm1 0 rfl (xm1 1 rfl xm0)) xm0) hF_12 xm0 (xm1 0 rfl (xm1 1 rfl xm0)) xm0), (v_X2_moveRow_72_2 (K := K) (F := F) a p0 p1 G G_12 p2 p3 p4 l6_12 N12 ha hp0 hp1 mv e1 e3 I12_0 I12_1 hm12 c16), (v_X2_moveRow_72_3 (F := F) p0 G_12 ro)⟩ hT
      · refine lv_aload_n hx hb dX2_moveRow_19 rfl (lv_at hl 1 rfl) ?_
        refine lv_iload hx hb dX2_moveRow_20 (lv_at hl 5 rfl) ?_
        refine x_clp (x_runV (b := p1) (As := [.int l6_12]) (rest := []) S (c_X0_get l E K F G_12 H p1 l6_12 hp1) mv_X0_get km_X2_42 rfl rfl ⟨Nat.le_of_ble_eq_true rfl, Nat.le_of_ble_eq_true rfl⟩ (rc_2 hK hT hp1) hK (fun _ => XPh.blind) (fun U hU hW => XPh.at hK hz hS hT hU hW) rfl hl.1 (Nat.le_of_ble_eq_true rfl) dX2_moveRow_22 ⟨Nat.le_of_ble_eq_true rfl, Nat.le_of_ble_eq_true rfl⟩) hS ?_
        rintro _ _ locs (⟨rfl, hn22⟩ | ⟨q22, rfl, hk22, ht22, hs22⟩) hS
        · refine lv_astoreN (lv' := [(7, .null), (1, .ref p0), (2, .ref p1), (3, .int p2), (4, .int p3), (5, .int p4), (6, .int l6_12)]) hx hb dX2_moveRow_25 hl (by decide) rfl (fun ls hl => ?_)
          refine lv_aloadN hx hb dX2_moveRow_27 (lv_at hl 0 rfl) ?_
          refine lv_ifnullN (tgt := 66) hx hb dX2_moveRow_29 (by decide) ?_
          refine xi_iinc (n := 1) (lv' := fun z9 => [(6, .int z9), (7, .null), (1, .ref p0), (2, .ref p1), (3, .int p2), (4, .int p3), (5, .int p4)]) (k := 6) hx hb (rfl : Int32.toInt l6_12 = l6_12.toInt) (by decide) dX2_moveRow_66 hl rfl (by decide) (fun _ => rfl) (fun x66 ls t66 hl => ?_)
          have e66 : x66.toInt = (l6_12.toInt + 1) := (z_X2_moveRow_4 l6_12.toInt x66.toInt I12_0 t66)
          have hl : lv_has ls 8 [(6, .int x66), (7, .null), (1, .ref p0), (2, .ref p1), (3, .int p2), (4, .int p3), (5, .int p4)] := hl
          refine lv_goto (tgt := 12) hx hb dX2_moveRow_69 (by decide) ?_
          exact ih12 x66 G_12 _ _ _ (XFr.call XFr.rf hF_12 xm0 (xm1 0 rfl (xm1 1 rfl xm0)) xm0) (by rw [(e66 : Int32.toInt x66 = (l6_12.toInt + 1))] <;> exact (v_X2_moveRow_69_4 (K := K) (F := F) a p0 p1 G G_12 p2 p3 p4 l6_12 N12 ha hp0 hp1 mv hn22 e1 e3 I12_0 I12_1 hm12 c16 ((hF_12.2.2 _ xn0).trans (hF6.2.2 _ xn0)))) (v_X2_moveRow_69_5 (F := F) p0 G_12 ro) (by rw [(e66 : Int32.toInt x66 = (l6_12.toInt + 1))] <;> exact (z_X2_moveRow_5 l6_12.toInt I12_0 c16)) (by rw [(e66 : Int32.toInt x66 = (l6_12.toInt + 1))] <;> exact (z_X2_moveRow_6 l6_12.toInt I12_0)) (by rw [(e66 : Int32.toInt x66 = (l6_12.toInt + 1))] <;> exact (z_X2_moveRow_7 l6_12.toInt N12 hm12)) hT hS (lv_sub hl [2, 3, 4, 5, 6, 0] rfl)
        · have ht22 : 0 ≤ l6_12.toInt ∧ l6_12.toInt < 12 := ht22
          refine lv_astore (lv' := [(7, .ref q22), (1, .ref p0), (2, .ref p1), (3, .int p2), (4, .int p3), (5, .int p4), (6, .int l6_12)]) hx hb dX2_moveRow_25 hl (by decide) rfl (fun ls hl => ?_)
          refine lv_aload hx hb dX2_moveRow_27 (lv_at hl 0 rfl) ?_
          refine lv_ifnull hx hb dX2_moveRow_29 ?_
          refine lv_aload hx hb dX2_moveRow_32 (lv_at hl 0 rfl) ?_
          refine lv_iload_n hx hb dX2_moveRow_34 rfl (lv_at hl 3 rfl) ?_
          refine x_clp (x_runV (b := q22) (As := [.int p2]) (rest := []) S (c_X7_follows l E K F G_12 H q22 p2 hk22) mv_X7_follows km_X2_48 rfl rfl ⟨Nat.le_of_ble_eq_true rfl, Nat.le_of_ble_eq_true rfl⟩ (rc_9 hK hT hk22) hK (fun _ => XPh.blind) (fun U hU hW => XPh.at hK hz hS hT hU hW) rfl hl.1 (Nat.le_of_ble_eq_true rfl) dX2_moveRow_35 ⟨Nat.le_of_ble_eq_true rfl, Nat.le_of_ble_eq_true rfl⟩) hS ?_
          rintro _ _ locs ⟨x35, rfl, b35, t35⟩ hS
          have t35 : ((((G.1 q22 0).toInt) = 1 ∧ ((G.1 q22 4).toInt) = p2.toInt ∧ ((G.1 q22 7).toInt) ≠ 0) ∧ x35.toInt = 1) ∨ (¬ (((G.1 q22 0).toInt) = 1 ∧ ((G.1 q22 4).toInt) = p2.toInt ∧ ((G.1 q22 7).toInt) ≠ 0) ∧ x35.toInt = 0) := by rw [(show (G_12.1 q22 0).toInt = ((G.1 q22 0).toInt) from (congrArg Int32.toInt ((hF_12.1 _ _ xn0).trans (hF6.1 _ _ xn0))).trans (rfl : Int32.toInt (G.1 q22 0) = ((G.1 q22 0).toInt)))] at t35; rw [(show (G_12.1 q22 4).toInt = ((G.1 q22 4).toInt) from (congrArg Int32.toInt ((hF_12.1 _ _ xn0).trans (hF6.1 _ _ xn0))).trans (rfl : Int32.toInt (G.1 q22 4) = ((G.1 q22 4).toInt)))] at t35; rw [(show (G_12.1 q22 7).toInt = ((G.1 q22 7).toInt) from (congrArg Int32.toInt ((hF_12.1 _ _ xn0).trans (hF6.1 _ _ xn0))).trans (rfl : Int32.toInt (G.1 q22 7) = ((G.1 q22 7).toInt)))] at t35; exact t35
          refine xi_zeq (tgt := 66) hx hb (rfl : Int32.toInt x35 = x35.toInt) dX2_moveRow_38 (by decide) (fun c38 => ?_) (fun c38 => ?_)
          · refine xi_iinc (n := 1) (lv' := fun z9 => [(6, .int z9), (7, .ref q22), (1, .ref p0), (2, .ref p1), (3, .int p2), (4, .int p3), (5, .int p4)]) (k := 6) hx hb (rfl : Int32.toInt l6_12 = l6_12.toInt) (by decide) dX2_moveRow_66 hl rfl (by decide) (fun _ => rfl) (fun x66 ls t66 hl => ?_)
            have e66 : x66.toInt = (l6_12.toInt + 1) := (z_X2_moveRow_4 l6_12.toInt x66.toInt I12_0 t66)
            have hl : lv_has ls 8 [(6, .int x66), (7, .ref q22), (1, .ref p0), (2, .ref p1), (3, .int p2), (4, .int p3), (5, .int p4)] := hl
            refine lv_goto (tgt := 12) hx hb dX2_moveRow_69 (by decide) ?_
            exact ih12 x66 G_12 _ _ _ (XFr.call XFr.rf hF_12 xm0 (xm1 0 rfl (xm1 1 rfl xm0)) xm0) (by rw [(e66 : Int32.toInt x66 = (l6_12.toInt + 1))] <;> exact (v_X2_moveRow_69_6 (K := K) (F := F) a p0 p1 q22 G G6 G_12 p2 p3 p4 l6_12 N12 x35 ha hp0 hp1 hk9999 hj9999 hk9999a hj9999a hk9999b hj9999b hk22 hF6 hF_12 bkn hac mv hs22 e1 e3 I12_0 I12_1 hm12 c16 ht22 t35 c38 ((hF_12.2.2 _ xn0).trans (hF6.2.2 _ xn0)))) (v_X2_moveRow_69_7 (F := F) p0 G_12 ro) (by rw [(e66 : Int32.toInt x66 = (l6_12.toInt + 1))] <;> exact (z_X2_moveRow_5 l6_12.toInt I12_0 c16)) (by rw [(e66 : Int32.toInt x66 = (l6_12.toInt + 1))] <;> exact (z_X2_moveRow_6 l6_12.toInt I12_0)) (by rw [(e66 : Int32.toInt x66 = (l6_12.toInt + 1))] <;> exact (z_X2_moveRow_7 l6_12.toInt N12 hm12)) hT hS (lv_sub hl [2, 3, 4, 5, 6, 0] rfl)
          · refine lv_aload_n hx hb dX2_moveRow_41 rfl (lv_at hl 1 rfl) ?_
            refine lv_aload hx hb dX2_moveRow_42 (lv_at hl 0 rfl) ?_
            refine lv_iload hx hb dX2_moveRow_44 (lv_at hl 4 rfl) ?_
            refine lv_aload hx hb dX2_moveRow_46 (lv_at hl 0 rfl) ?_
            refine gX7_7 S hK hT hk22 kf_X2_54 dX2_moveRow_48 (v := (G.1 q22 7)) ((hF_12.1 _ _ xn0).trans (hF6.1 _ _ xn0)) (?_)
            refine lv_iconst (v := 1) hx hb dX2_moveRow_51 (by decide) ?_
            refine xi_cne (tgt := 60) hx hb (rfl : Int32.toInt (G.1 q22 7) = ((G.1 q22 7).toInt)) ((by decide) : Int32.toInt 1 = (1 : Int)) dX2_moveRow_52 (by decide) (fun c52 => ?_) (fun c52 => ?_)
            · refine lv_sipush (v := (-1000)) hx hb dX2_moveRow_60 (by decide) ?_
              refine x_cv0 (x_runS (As := [.ref p0, .ref q22, .int p3, .int (-1000)]) (rest := []) S (c_X2_replace l E K F G_12 p0 q22 p3 (-1000) hp0 hk22 (z_X2_moveRow_12 p3.toInt (e1).2.2.1 (e1).2.2.2.1) (by rw [((by decide) : Int32.toInt (-1000) = (-1000 : Int))] <;> exact (by decide)) (v_X2_moveRow_63_8 (F := F) p0 G_12 ro) (v_X2_moveRow_63_9 (K := K) (F := F) a p0 p1 q22 G G6 G_12 p2 p3 p4 l6_12 N12 x35 ha hp0 hp1 hk9999 hj9999 hk9999a hj9999a hk9999b hj9999b hk22 hF6 hF_12 bkn hs22 e1 e3 I12_0 I12_1 hm12 c16 ht22 t35 c38 c52 ((hF_12.2.2 _ xn0).trans (hF6.2.2 _ xn0)))) ms_X2_replace km_X2_57 rfl rfl ⟨Nat.le_of_ble_eq_true rfl, Nat.le_of_ble_eq_true rfl⟩ hK (fun _ => XP.blind) (fun U hU hW => XP.at hK hz hS hT hU hW) rfl hl.1 (Nat.le_of_ble_eq_true rfl) dX2_moveRow_63 ⟨Nat.le_of_ble_eq_true rfl, Nat.le_of_ble_eq_true rfl⟩) hS ?_
              rintro G63 H locs ⟨hF63, oq63, oq63a⟩ hT hS
              have oq63 : (vw (G63.2.1 (F p0 0))) = repl (vw (G_12.2.1 (F p0 0))) ((G.1 q22 2).toInt) ((G.1 q22 3).toInt) p3.toInt (-1000 : Int) 30 := by simp only [((by decide) : Int32.toInt (-1000) = (-1000 : Int)), (show G_12.1 q22 2 = G.1 q22 2 from ((hF_12.1 _ _ xn0).trans (hF6.1 _ _ xn0))), (show G_12.1 q22 3 = G.1 q22 3 from ((hF_12.1 _ _ xn0).trans (hF6.1 _ _ xn0)))] at oq63; exact oq63
              refine xi_iinc (n := 1) (lv' := fun z9 => [(6, .int z9), (7, .ref q22), (1, .ref p0), (2, .ref p1), (3, .int p2), (4, .int p3), (5, .int p4)]) (k := 6) hx hb (rfl : Int32.toInt l6_12 = l6_12.toInt) (by decide) dX2_moveRow_66 hl rfl (by decide) (fun _ => rfl) (fun x66 ls t66 hl => ?_)
              have e66 : x66.toInt = (l6_12.toInt + 1) := (z_X2_moveRow_4 l6_12.toInt x66.toInt I12_0 t66)
              have hl : lv_has ls 8 [(6, .int x66), (7, .ref q22), (1, .ref p0), (2, .ref p1), (3, .int p2), (4, .int p3), (5, .int p4)] := hl
              refine lv_goto (tgt := 12) hx hb dX2_moveRow_69 (by decide) ?_
              exact ih12 x66 G63 _ _ _ (XFr.call (XFr.call XFr.rf hF_12 xm0 (xm1 0 rfl (xm1 1 rfl xm0)) xm0) hF63 xm0 (xm1 0 rfl (xm1 1 rfl xm0)) xm0) (by rw [(e66 : Int32.toInt x66 = (l6_12.toInt + 1))] <;> exact (v_X2_moveRow_69_10 (K := K) (F := F) a p0 p1 q22 G G6 G_12 G63 p2 p3 p4 l6_12 N12 x35 ha hp0 hp1 hk9999 hj9999 hk9999a hj9999a hk9999b hj9999b hk22 hF6 hF_12 bkn hac mv hs22 oq63 e1 e3 I12_0 I12_1 hm12 c16 ht22 t35 c38 c52 ((hF_12.2.2 _ xn0).trans (hF6.2.2 _ xn0)))) (v_X2_moveRow_69_11 (F := F) p0 G_12 G63 ro oq63a) (by rw [(e66 : Int32.toInt x66 = (l6_12.toInt + 1))] <;> exact (z_X2_moveRow_5 l6_12.toInt I12_0 c16)) (by rw [(e66 : Int32.toInt x66 = (l6_12.toInt + 1))] <;> exact (z_X2_moveRow_6 l6_12.toInt I12_0)) (by rw [(e66 : Int32.toInt x66 = (l6_12.toInt + 1))] <;> exact (z_X2_moveRow_7 l6_12.toInt N12 hm12)) hT hS (lv_sub hl [2, 3, 4, 5, 6, 0] rfl)
            · refine lv_iload hx hb dX2_moveRow_55 (lv_at hl 5 rfl) ?_
              refine lv_goto (tgt := 63) hx hb dX2_moveRow_57 (by decide) ?_
              refine x_cv0 (x_runS (As := [.ref p0, .ref q22, .int p3, .int p4]) (rest := []) S (c_X2_replace l E K F G_12 p0 q22 p3 p4 hp0 hk22 (z_X2_moveRow_12 p3.toInt (e1).2.2.1 (e1).2.2.2.1) (z_X2_moveRow_18 p4.toInt (e1).2.2.2.2.1 (e1).2.2.2.2.2.1) (v_X2_moveRow_63_12 (F := F) p0 G_12 ro) (v_X2_moveRow_63_13 (K := K) (F := F) a p0 p1 q22 G G6 G_12 p2 p3 p4 l6_12 N12 x35 ha hp0 hp1 hk9999 hj9999 hk9999a hj9999a hk9999b hj9999b hk22 hF6 hF_12 bkn hs22 e1 e3 I12_0 I12_1 hm12 c16 ht22 t35 c38 c52 ((hF_12.2.2 _ xn0).trans (hF6.2.2 _ xn0)))) ms_X2_replace km_X2_57 rfl rfl ⟨Nat.le_of_ble_eq_true rfl, Nat.le_of_ble_eq_true rfl⟩ hK (fun _ => XP.blind) (fun U hU hW => XP.at hK hz hS hT hU hW) rfl hl.1 (Nat.le_of_ble_eq_true rfl) dX2_moveRow_63 ⟨Nat.le_of_ble_eq_true rfl, Nat.le_of_ble_eq_true rfl⟩) hS ?_
              rintro G63 H locs ⟨hF63, oq63, oq63a⟩ hT hS
              have oq63 : (vw (G63.2.1 (F p0 0))) = repl (vw (G_12.2.1 (F p0 0))) ((G.1 q22 2).toInt) ((G.1 q22 3).toInt) p3.toInt p4.toInt 30 := by simp only [(show G_12.1 q22 2 = G.1 q22 2 from ((hF_12.1 _ _ xn0).trans (hF6.1 _ _ xn0))), (show G_12.1 q22 3 = G.1 q22 3 from ((hF_12.1 _ _ xn0).trans (hF6.1 _ _ xn0)))] at oq63; exact oq63
              refine xi_iinc (n := 1) (lv' := fun z9 => [(6, .int z9), (7, .ref q22), (1, .ref p0), (2, .ref p1), (3, .int p2), (4, .int p3), (5, .int p4)]) (k := 6) hx hb (rfl : Int32.toInt l6_12 = l6_12.toInt) (by decide) dX2_moveRow_66 hl rfl (by decide) (fun _ => rfl) (fun x66 ls t66 hl => ?_)
              have e66 : x66.toInt = (l6_12.toInt + 1) := (z_X2_moveRow_4 l6_12.toInt x66.toInt I12_0 t66)
              have hl : lv_has ls 8 [(6, .int x66), (7, .ref q22), (1, .ref p0), (2, .ref p1), (3, .int p2), (4, .int p3), (5, .int p4)] := hl
              refine lv_goto (tgt := 12) hx hb dX2_moveRow_69 (by decide) ?_
              exact ih12 x66 G63 _ _ _ (XFr.call (XFr.call XFr.rf hF_12 xm0 (xm1 0 rfl (xm1 1 rfl xm0)) xm0) hF63 xm0 (xm1 0 rfl (xm1 1 rfl xm0)) xm0) (by rw [(e66 : Int32.toInt x66 = (l6_12.toInt + 1))] <;> exact (v_X2_moveRow_69_14 (K := K) (F := F) a p0 p1 q22 G G6 G_12 G63 p2 p3 p4 l6_12 N12 x35 ha hp0 hp1 hk9999 hj9999 hk9999a hj9999a hk9999b hj9999b hk22 hF6 hF_12 bkn hac mv hs22 oq63 e1 e3 I12_0 I12_1 hm12 c16 ht22 t35 c38 c52 ((hF_12.2.2 _ xn0).trans (hF6.2.2 _ xn0)))) (v_X2_moveRow_69_15 (F := F) p0 G_12 G63 ro oq63a) (by rw [(e66 : Int32.toInt x66 = (l6_12.toInt + 1))] <;> exact (z_X2_moveRow_5 l6_12.toInt I12_0 c16)) (by rw [(e66 : Int32.toInt x66 = (l6_12.toInt + 1))] <;> exact (z_X2_moveRow_6 l6_12.toInt I12_0)) (by rw [(e66 : Int32.toInt x66 = (l6_12.toInt + 1))] <;> exact (z_X2_moveRow_7 l6_12.toInt N12 hm12)) hT hS (lv_sub hl [2, 3, 4, 5, 6, 0] rfl)
  exact L12 4294967297 0 G6 _ _ _ XFr.rf (v_X2_moveRow_10_16 (F := F) p0 p1 G G6 p2 p3 p4 oq6) (v_X2_moveRow_10_17 (F := F) p0 G6 oq6a) (by decide) (by decide) (by decide) hT hS (lv_sub hl [2, 3, 4, 5, 6, 0] rfl)
