theorem z_X3_clear_1 (a0 : Int) (h0 : 0 ≤ a0 ∧ a0 ≤ 3) : ¬ (2147483648 - a0 < ((0 : Nat) : Int)) := by omega
theorem z_X3_clear_2 (a0 : Int) (h0 : 0 ≤ a0 ∧ a0 ≤ 3) (h1 : ¬ ((3 : Int) ≤ a0)) : 0 ≤ a0 ∧ a0 < ((3 : Nat) : Int) := by omega
theorem z_X3_clear_3 (a0 : Int) (a1 : Int) (h0 : 0 ≤ a0 ∧ a0 ≤ 3) (h1 : a1 = (a0 + 1) ∨ (a0 + 1) < -2147483648 ∨ 2147483648 ≤ (a0 + 1)) : a1 = (a0 + 1) := by omega
theorem z_X3_clear_4 (a0 : Int) (h0 : 0 ≤ a0 ∧ a0 ≤ 3) (h1 : ¬ ((3 : Int) ≤ a0)) : 0 ≤ (a0 + 1) ∧ (a0 + 1) ≤ 3 := by omega
theorem z_X3_clear_5 (a0 : Int) (h0 : 0 ≤ a0 ∧ a0 ≤ 3) : (0 : Int) ≤ (a0 + 1) := by omega
theorem z_X3_clear_6 (a0 : Int) (a1 : Nat) (h0 : 2147483648 - a0 < ((a1 + 1 : Nat) : Int)) : 2147483648 - (a0 + 1) < ((a1 : Nat) : Int) := by omega
abbrev rm_X3_clear : Room := { frames := 0, cells := 0, slots := 0, locals := 0 }
set_option maxHeartbeats 4000000 in
set_option maxRecDepth 100000 in
theorem c_X3_clear (l : Launch) (E : XE) (K : Nat → Nat) (F : Nat → Nat → Nat) (G : XG) (a : Nat) (ha : K a = 5) : Met l yX3_clear (xw yX3_clear cX3_clear 2 none) rm_X3_clear (va_Pc [.ref a] (XP E K F G)) (XQv E (fun (u : XG) => XFr [(a, 3)] [F a 0] [] G u ∧ (((u.1 a 3).toInt) = 0) ∧ (∀ t : Int, 0 ≤ t → t < 3 → aI (u.2.1 (F a 0)) t = 0)) (fun u H => TW E K F u H)) 0 0 (xA E) := by
  refine x_enter (by decide) (Nat.le_of_ble_eq_true rfl) ?_
  intro p e s m args below meth c Q S hr hlk hnm hQ hP ls hl
  obtain ⟨hz, hK, hT⟩ := hP
  obtain ⟨hx, hb, -, -, -⟩ := id S
  obtain ⟨H, hT, hS, hgo⟩ : ∃ H : Heap, TW E K F G H ∧ va_S (xA E) s.heap H [] ∧ H = s.heap := ⟨_, hT, va_S.rf, rfl⟩
  rw [← hgo]
  have hl : lv_has ls 2 [(0, .ref a)] := hl
  obtain ⟨hk9999, hj9999⟩ := fkX3_0 hT ha
  refine lv_aload_n hx hb dX3_clear_0 rfl (lv_at hl 0 rfl) ?_
  refine lv_iconst (v := 0) hx hb dX3_clear_1 (by decide) ?_
  refine pX3_3 (v := 0) S hK hT hS ha kf_X3_28 dX3_clear_2 (fun H locs hT hS => ?_)
  obtain ⟨G2, hG2⟩ : ∃ GG : XG, GG = dput G a 3 0 := ⟨_, rfl⟩
  rw [← hG2] at hT
  refine lv_iconst (v := 0) hx hb dX3_clear_5 (by decide) ?_
  refine lv_istore_n (lv' := [(1, .int 0), (0, .ref a)]) hx hb dX3_clear_6 rfl hl (by decide) rfl (fun ls hl => ?_)
  have L7 : ∀ (N7 : Nat) (l1_7 : Int32) (G_7 : XG) (H : Heap) (locs : List Loc) (ls : Array Slot), XFr [] [F a 0] [] G2 G_7 → (∀ t : Int, 0 ≤ t → t < l1_7.toInt → aI (G_7.2.1 (F a 0)) t = 0) → 0 ≤ l1_7.toInt ∧ l1_7.toInt ≤ 3 → (0 : Int) ≤ l1_7.toInt → 2147483648 - l1_7.toInt < ((N7 : Nat) : Int) → TW E K F G_7 H → va_S (xA E) s.heap H locs → lv_has ls 2 [(0, .ref a), (1, .int l1_7)] → W p l e rm_X3_clear s m args below meth c H locs 0 0 Q (F0 m 7 ls []) := by
    intro N7
    induction N7 with
    | zero =>
      intro l1_7 G_7 H locs ls hF_7 pz I7_0 I7_1 hm7
      exact absurd hm7 (z_X3_clear_1 l1_7.toInt I7_0)
    | succ N7 ih7 =>
      intro l1_7 G_7 H locs ls hF_7 pz I7_0 I7_1 hm7 hT hS hl
      refine lv_iload_n hx hb dX3_clear_7 rfl (lv_at hl 1 rfl) ?_
      refine lv_iconst (v := 3) hx hb dX3_clear_8 (by decide) ?_
      refine xi_cge (tgt := 25) hx hb (rfl : Int32.toInt l1_7 = l1_7.toInt) ((by decide) : Int32.toInt 3 = (3 : Int)) dX3_clear_9 (by decide) (fun c9 => ?_) (fun c9 => ?_)
      · exact x_rv hx hb hr hlk hQ (Nat.le_of_ble_eq_true rfl) (Nat.le_of_ble_eq_true rfl) hS dX3_clear_25 G_7 ⟨(XFr.call (by rw [hG2]; exact XFr.dput XFr.rf (List.mem_of_getElem? (i := 0) rfl)) hF_7 xm0 (xm1 0 rfl xm0) xm0), (by rw [(show (G_7.1 a 3).toInt = (0 : Int) from (congrArg Int32.toInt ((hF_7.1 _ _ xn0).trans (ld_at hG2))).trans ((by decide) : Int32.toInt 0 = (0 : Int)))] <;> exact (by decide)), (v_X3_clear_25_1 (K := K) (F := F) a G_7 l1_7 N7 ha pz I7_0 I7_1 hm7 c9)⟩ hT
      · refine lv_aload_n hx hb dX3_clear_12 rfl (lv_at hl 0 rfl) ?_
        refine gX3_0 S hK hT ha kf_X3_9 dX3_clear_13 (fun _ _ => ?_)
        refine lv_iload_n hx hb dX3_clear_16 rfl (lv_at hl 1 rfl) ?_
        refine lv_iconst (v := 0) hx hb dX3_clear_17 (by decide) ?_
        refine as_0 (x := 0) S hK hT hS hk9999 ar_21 aw_21 (by decide) (z_X3_clear_2 l1_7.toInt I7_0 c9) dX3_clear_18 (fun H locs hT hS => ?_)
        obtain ⟨G18, hG18⟩ : ∃ GG : XG, GG = cput G_7 (F a 0) l1_7.toNatClampNeg 0 := ⟨_, rfl⟩
        rw [← hG18] at hT
        refine xi_iinc (n := 1) (lv' := fun z9 => [(1, .int z9), (0, .ref a)]) (k := 1) hx hb (rfl : Int32.toInt l1_7 = l1_7.toInt) (by decide) dX3_clear_19 hl rfl (by decide) (fun _ => rfl) (fun x19 ls t19 hl => ?_)
        have e19 : x19.toInt = (l1_7.toInt + 1) := (z_X3_clear_3 l1_7.toInt x19.toInt I7_0 t19)
        have hl : lv_has ls 2 [(1, .int x19), (0, .ref a)] := hl
        refine lv_goto (tgt := 7) hx hb dX3_clear_22 (by decide) ?_
        exact ih7 x19 G18 _ _ _ (by rw [hG18]; exact XFr.cput (XFr.call XFr.rf hF_7 xm0 (xm1 0 rfl xm0) xm0) (List.mem_of_getElem? (i := 0) rfl)) (by rw [(e19 : Int32.toInt x19 = (l1_7.toInt + 1))] <;> exact (v_X3_clear_22_2 (K := K) (F := F) a G_7 G18 l1_7 N7 ha hG18 pz I7_0 I7_1 hm7 c9)) (by rw [(e19 : Int32.toInt x19 = (l1_7.toInt + 1))] <;> exact (z_X3_clear_4 l1_7.toInt I7_0 c9)) (by rw [(e19 : Int32.toInt x19 = (l1_7.toInt + 1))] <;> exact (z_X3_clear_5 l1_7.toInt I7_0)) (by rw [(e19 : Int32.toInt x19 = (l1_7.toInt + 1))] <;> exact (z_X3_clear_6 l1_7.toInt N7 hm7)) hT hS (lv_sub hl [1, 0] rfl)
  exact L7 4294967297 0 G2 _ _ _ XFr.rf (v_X3_clear_6_3 (K := K) (F := F) a G2 ha) (by decide) (by decide) (by decide) hT hS (lv_sub hl [1, 0] rfl)

theorem z_X3_reach_1 (a0 : Int) (a1 : Int) (h0 : (a1 = 1 ∧ 0 ≤ a0 ∧ a0 < 3) ∨ (a1 = 0 ∧ (a0 < 0 ∨ 3 ≤ a0))) (h1 : ¬ (a1 = 0)) : 0 ≤ a0 ∧ a0 < ((3 : Nat) : Int) := by omega
theorem z_X3_reach_2 (a0 : Int) (a1 : Int) (h0 : (a1 = 1 ∧ 0 ≤ a0 ∧ a0 < 30) ∨ (a1 = 0 ∧ (a0 < 0 ∨ 30 ≤ a0))) (h1 : ¬ (a1 = 0)) : 0 ≤ a0 ∧ a0 < 32 := by omega
theorem z_X3_reach_5 (a0 : Int) (h0 : ¬ (a0 < 0)) (h1 : ¬ ((90 : Int) ≤ a0)) : 0 ≤ a0 ∧ a0 < ((90 : Nat) : Int) := by omega
theorem z_X3_reach_7 (a0 : Int) (a1 : Int) (h0 : ¬ (a1 < 0)) (h1 : ¬ ((90 : Int) ≤ a1)) (h2 : a0 = (a1 + (1 : Int)) ∨ (a1 + (1 : Int)) < -2147483648 ∨ 2147483648 ≤ (a1 + (1 : Int))) : a0 = (a1 + (1 : Int)) := by omega
abbrev rm_X3_reach : Room := { frames := 1, cells := 0, slots := 0, locals := 20 }
set_option maxHeartbeats 4000000 in
set_option maxRecDepth 100000 in
theorem c_X3_reach (l : Launch) (E : XE) (K : Nat → Nat) (F : Nat → Nat → Nat) (G : XG) (a : Nat) (p0 : Int32) (p1 : Int32) (ha : K a = 5) (li : LIv (aI (G.2.1 (F a 0))) (aI (G.2.1 (F a 1))) (aI (G.2.1 (F a 2))) ((G.1 a 3).toInt)) : Met l yX3_reach (xw yX3_reach cX3_reach 3 none) rm_X3_reach (va_Pc [.ref a, .int p0, .int p1] (XP E K F G)) (XQv E (fun (u : XG) => XFr [(a, 3)] [F a 0, F a 1, F a 2] [] G u ∧ (LGo (aI (G.2.1 (F a 0))) (aI (G.2.1 (F a 1))) (aI (G.2.1 (F a 2))) ((G.1 a 3).toInt) (aI (u.2.1 (F a 0))) (aI (u.2.1 (F a 1))) (aI (u.2.1 (F a 2))) ((u.1 a 3).toInt) (fun u9 k9 => u9 = p0.toInt ∧ k9 = p1.toInt))) (fun u H => TW E K F u H)) 0 0 (xA E) := by
  refine x_enter (by decide) (Nat.le_of_ble_eq_true rfl) ?_
  intro p e s m args below meth c Q S hr hlk hnm hQ hP ls hl
  obtain ⟨hz, hK, hT⟩ := hP
  obtain ⟨hx, hb, -, -, -⟩ := id S
  obtain ⟨H, hT, hS, hgo⟩ : ∃ H : Heap, TW E K F G H ∧ va_S (xA E) s.heap H [] ∧ H = s.heap := ⟨_, hT, va_S.rf, rfl⟩
  rw [← hgo]
  have hl : lv_has ls 3 [(0, .ref a), (1, .int p0), (2, .int p1)] := hl
  obtain ⟨hk9999, hj9999⟩ := fkX3_0 hT ha
  obtain ⟨hk9999a, hj9999a⟩ := fkX3_1 hT ha
  obtain ⟨hk9999b, hj9999b⟩ := fkX3_2 hT ha
  refine lv_iload_n hx hb dX3_reach_0 rfl (lv_at hl 1 rfl) ?_
  refine x_clp (x_runSN (As := [.int p0]) (rest := []) S (c_X10_isTable l E K F G H p0) ms_X10_isTable (by decide +kernel) rfl rfl ⟨Nat.le_of_ble_eq_true rfl, Nat.le_of_ble_eq_true rfl⟩ hK (fun _ => XPh.blind) (fun U hU hW => XPh.at hK hz hS hT hU hW) rfl hl.1 (Nat.le_of_ble_eq_true rfl) dX3_reach_1 ⟨Nat.le_of_ble_eq_true rfl, Nat.le_of_ble_eq_true rfl⟩) hS ?_
  rintro _ _ locs ⟨x1, rfl, b1, t1⟩ hS
  have t1 : (x1.toInt = 1 ∧ 0 ≤ p0.toInt ∧ p0.toInt < 3) ∨ (x1.toInt = 0 ∧ (p0.toInt < 0 ∨ 3 ≤ p0.toInt)) := t1
  refine xi_zeq (tgt := 27) hx hb (rfl : Int32.toInt x1 = x1.toInt) dX3_reach_4 (by decide) (fun c4 => ?_) (fun c4 => ?_)
  · exact x_rv hx hb hr hlk hQ (Nat.le_of_ble_eq_true rfl) (Nat.le_of_ble_eq_true rfl) hS dX3_reach_27 G ⟨XFr.rf, (v_X3_reach_27_1 (K := K) (F := F) a G x1 p0 p1 ha li t1 c4)⟩ hT
  · refine lv_iload_n hx hb dX3_reach_7 rfl (lv_at hl 2 rfl) ?_
    refine x_clp (x_runSN (As := [.int p1]) (rest := []) S (c_X10_isKey l E K F G H p1) ms_X10_isKey (by decide +kernel) rfl rfl ⟨Nat.le_of_ble_eq_true rfl, Nat.le_of_ble_eq_true rfl⟩ hK (fun _ => XPh.blind) (fun U hU hW => XPh.at hK hz hS hT hU hW) rfl hl.1 (Nat.le_of_ble_eq_true rfl) dX3_reach_8 ⟨Nat.le_of_ble_eq_true rfl, Nat.le_of_ble_eq_true rfl⟩) hS ?_
    rintro _ _ locs ⟨x8, rfl, b8, t8⟩ hS
    have t8 : (x8.toInt = 1 ∧ 0 ≤ p1.toInt ∧ p1.toInt < 30) ∨ (x8.toInt = 0 ∧ (p1.toInt < 0 ∨ 30 ≤ p1.toInt)) := t8
    refine xi_zeq (tgt := 27) hx hb (rfl : Int32.toInt x8 = x8.toInt) dX3_reach_11 (by decide) (fun c11 => ?_) (fun c11 => ?_)
    · exact x_rv hx hb hr hlk hQ (Nat.le_of_ble_eq_true rfl) (Nat.le_of_ble_eq_true rfl) hS dX3_reach_27 G ⟨XFr.rf, (v_X3_reach_27_2 (K := K) (F := F) a G x1 p0 x8 p1 ha li t1 c4 t8 c11)⟩ hT
    · refine lv_aload_n hx hb dX3_reach_14 rfl (lv_at hl 0 rfl) ?_
      refine gX3_0 S hK hT ha kf_X3_9 dX3_reach_15 (fun _ _ => ?_)
      refine lv_iload_n hx hb dX3_reach_18 rfl (lv_at hl 1 rfl) ?_
      refine al_0 S hK hT hk9999 ar_21 (by decide) (z_X3_reach_1 p0.toInt x1.toInt t1 c4) dX3_reach_19 (fun x19 hv19 o19 => ?_)
      have hv19 : x19.toInt = (aI (G.2.1 (F a 0)) (p0.toInt)) := hv19.trans (by rw [(rfl : Int32.toInt p0 = p0.toInt)])
      refine lv_iload_n hx hb dX3_reach_20 rfl (lv_at hl 2 rfl) ?_
      refine lv_ishr hx hb dX3_reach_21 (lv_topi (fun x21 he21 => ?_))
      refine lv_iconst (v := 1) hx hb dX3_reach_22 (by decide) ?_
      refine lv_iand hx hb dX3_reach_23 (lv_topi (fun x23 he23 => ?_))
      have hb23 : x23.toInt = (bI (aI (G.2.1 (F a 0)) (p0.toInt)) (p1.toInt)) := bI_and he21 he23 (hv19 : Int32.toInt x19 = (aI (G.2.1 (F a 0)) (p0.toInt))) (rfl : Int32.toInt p1 = p1.toInt) (z_X3_reach_2 p1.toInt x8.toInt t8 c11)
      have hb23a : x23.toInt = 0 ∨ x23.toInt = 1 := by rw [hb23]; exact bI01 _ _
      refine xi_zeq (tgt := 28) hx hb (rfl : Int32.toInt x23 = x23.toInt) dX3_reach_24 (by decide) (fun c24 => ?_) (fun c24 => ?_)
      · refine lv_aload_n hx hb dX3_reach_28 rfl (lv_at hl 0 rfl) ?_
        refine gX3_3 S hK hT ha kf_X3_28 dX3_reach_29 (v := (G.1 a 3)) rfl (?_)
        refine xi_zlt (tgt := 86) hx hb (rfl : Int32.toInt (G.1 a 3) = ((G.1 a 3).toInt)) dX3_reach_32 (by decide) (fun c32 => ?_) (fun c32 => ?_)
        · exact x_rv hx hb hr hlk hQ (Nat.le_of_ble_eq_true rfl) (Nat.le_of_ble_eq_true rfl) hS dX3_reach_86 G ⟨XFr.rf, (v_X3_reach_86_3 (K := K) (F := F) a G x19 p0 x21 p1 x23 x1 x8 ha li hv19 he21 he23 t1 c4 t8 c11 hb23 hb23a c24 c32)⟩ hT
        · refine lv_aload_n hx hb dX3_reach_35 rfl (lv_at hl 0 rfl) ?_
          refine gX3_3 S hK hT ha kf_X3_28 dX3_reach_36 (v := (G.1 a 3)) rfl (?_)
          refine lv_bipush (v := 90) hx hb dX3_reach_39 (by decide) ?_
          refine xi_cge (tgt := 86) hx hb (rfl : Int32.toInt (G.1 a 3) = ((G.1 a 3).toInt)) ((by decide) : Int32.toInt 90 = (90 : Int)) dX3_reach_41 (by decide) (fun c41 => ?_) (fun c41 => ?_)
          · exact x_rv hx hb hr hlk hQ (Nat.le_of_ble_eq_true rfl) (Nat.le_of_ble_eq_true rfl) hS dX3_reach_86 G ⟨XFr.rf, (v_X3_reach_86_4 (K := K) (F := F) a G x19 p0 x21 p1 x23 x1 x8 ha li hv19 he21 he23 t1 c4 t8 c11 hb23 hb23a c24 c32 c41)⟩ hT
          · refine lv_aload_n hx hb dX3_reach_44 rfl (lv_at hl 0 rfl) ?_
            refine gX3_0 S hK hT ha kf_X3_9 dX3_reach_45 (fun _ _ => ?_)
            refine lv_iload_n hx hb dX3_reach_48 rfl (lv_at hl 1 rfl) ?_
            refine lv_dup2_11 hx hb dX3_reach_49 rfl rfl ?_
            refine al_0 S hK hT hk9999 ar_21 (by decide) (z_X3_reach_1 p0.toInt x1.toInt t1 c4) dX3_reach_50 (fun x50 hv50 o50 => ?_)
            have hv50 : x50.toInt = (aI (G.2.1 (F a 0)) (p0.toInt)) := hv50.trans (by rw [(rfl : Int32.toInt p0 = p0.toInt)])
            refine lv_iconst (v := 1) hx hb dX3_reach_51 (by decide) ?_
            refine lv_iload_n hx hb dX3_reach_52 rfl (lv_at hl 2 rfl) ?_
            refine lv_ishl hx hb dX3_reach_53 (lv_topi (fun x53 he53 => ?_))
            refine lv_ior hx hb dX3_reach_54 (lv_topi (fun x54 he54 => ?_))
            refine as_0 (x := x54) S hK hT hS hk9999 ar_21 aw_21 (by decide) (z_X3_reach_1 p0.toInt x1.toInt t1 c4) dX3_reach_55 (fun H locs hT hS => ?_)
            obtain ⟨G55, hG55⟩ : ∃ GG : XG, GG = cput G (F a 0) p0.toNatClampNeg x54 := ⟨_, rfl⟩
            rw [← hG55] at hT
            refine lv_aload_n hx hb dX3_reach_56 rfl (lv_at hl 0 rfl) ?_
            refine gX3_1 S hK hT ha kf_X3_15 dX3_reach_57 (fun _ _ => ?_)
            refine lv_aload_n hx hb dX3_reach_60 rfl (lv_at hl 0 rfl) ?_
            refine gX3_3 S hK hT ha kf_X3_28 dX3_reach_61 (v := (G.1 a 3)) (lc_d hG55) (?_)
            refine lv_iload_n hx hb dX3_reach_64 rfl (lv_at hl 1 rfl) ?_
            refine as_0 (x := p0) S hK hT hS hk9999a ar_24 aw_24 (by decide) (z_X3_reach_5 ((G.1 a 3).toInt) c32 c41) dX3_reach_65 (fun H locs hT hS => ?_)
            obtain ⟨G65, hG65⟩ : ∃ GG : XG, GG = cput G55 (F a 1) (G.1 a 3).toNatClampNeg p0 := ⟨_, rfl⟩
            rw [← hG65] at hT
            refine lv_aload_n hx hb dX3_reach_66 rfl (lv_at hl 0 rfl) ?_
            refine gX3_2 S hK hT ha kf_X3_18 dX3_reach_67 (fun _ _ => ?_)
            refine lv_aload_n hx hb dX3_reach_70 rfl (lv_at hl 0 rfl) ?_
            refine gX3_3 S hK hT ha kf_X3_28 dX3_reach_71 (v := (G.1 a 3)) ((lc_d hG65).trans (lc_d hG55)) (?_)
            refine lv_iload_n hx hb dX3_reach_74 rfl (lv_at hl 2 rfl) ?_
            refine as_0 (x := p1) S hK hT hS hk9999b ar_24 aw_24 (by decide) (z_X3_reach_5 ((G.1 a 3).toInt) c32 c41) dX3_reach_75 (fun H locs hT hS => ?_)
            obtain ⟨G75, hG75⟩ : ∃ GG : XG, GG = cput G65 (F a 2) (G.1 a 3).toNatClampNeg p1 := ⟨_, rfl⟩
            rw [← hG75] at hT
            refine lv_aload_n hx hb dX3_reach_76 rfl (lv_at hl 0 rfl) ?_
            refine lv_dup hx hb dX3_reach_77 rfl ?_
            refine gX3_3 S hK hT ha kf_X3_28 dX3_reach_78 (v := (G.1 a 3)) ((lc_d hG75).trans ((lc_d hG65).trans (lc_d hG55))) (?_)
            refine lv_iconst (v := 1) hx hb dX3_reach_81 (by decide) ?_
            refine xi_iadd hx hb (rfl : Int32.toInt (G.1 a 3) = ((G.1 a 3).toInt)) ((by decide) : Int32.toInt 1 = (1 : Int)) dX3_reach_82 (fun x82 t82 => ?_)
            have e82 : x82.toInt = (((G.1 a 3).toInt) + (1 : Int)) := (z_X3_reach_7 x82.toInt ((G.1 a 3).toInt) c32 c41 t82)
            refine pX3_3 (v := x82) S hK hT hS ha kf_X3_28 dX3_reach_83 (fun H locs hT hS => ?_)
            obtain ⟨G83, hG83⟩ : ∃ GG : XG, GG = dput G75 a 3 x82 := ⟨_, rfl⟩
            rw [← hG83] at hT
            exact x_rv hx hb hr hlk hQ (Nat.le_of_ble_eq_true rfl) (Nat.le_of_ble_eq_true rfl) hS dX3_reach_86 G83 ⟨(by rw [hG83]; exact XFr.dput (by rw [hG75]; exact XFr.cput (by rw [hG65]; exact XFr.cput (by rw [hG55]; exact XFr.cput XFr.rf (List.mem_of_getElem? (i := 0) rfl)) (List.mem_of_getElem? (i := 1) rfl)) (List.mem_of_getElem? (i := 2) rfl)) (List.mem_of_getElem? (i := 0) rfl)), (v_X3_reach_86_5 (K := K) (F := F) a G55 G p0 x54 G65 G75 p1 G83 x82 x19 x21 x23 x50 x53 x1 x8 ha hG55 hG65 hG75 li hv19 he21 he23 hv50 he53 he54 e82 t1 c4 t8 c11 hb23 hb23a c24 c32 c41 (lc_c hG55 (xne_k hk9999a hk9999 (by decide))) ((lc_c hG65 (xne_j hj9999b hj9999a (by first | decide | omega))).trans (lc_c hG55 (xne_k hk9999b hk9999 (by decide)))) ((ld_c hG83).trans ((lc_c hG75 (xne_k hk9999 hk9999b (by decide))).trans (lc_c hG65 (xne_k hk9999 hk9999a (by decide))))) ((ld_c hG83).trans (lc_c hG75 (xne_j hj9999a hj9999b (by first | decide | omega)))) (ld_c hG83) (ld_at hG83))⟩ hT
      · exact x_rv hx hb hr hlk hQ (Nat.le_of_ble_eq_true rfl) (Nat.le_of_ble_eq_true rfl) hS dX3_reach_27 G ⟨XFr.rf, (v_X3_reach_27_6 (K := K) (F := F) a G x19 p0 x21 p1 x23 x1 x8 ha li hv19 he21 he23 t1 c4 t8 c11 hb23 hb23a c24)⟩ hT

theorem z_X3_reachFrom_1 (a0 : Int) (h0 : -2147483648 ≤ a0 ∧ a0 < 2147483648) : ¬ (2147483648 - a0 < ((0 : Nat) : Int)) := by omega
theorem z_X3_reachFrom_2 (a0 : Int) (a1 : Int) (a2 : Int) (h0 : 0 ≤ a2 ∧ a2 ≤ 12) (h1 : 0 ≤ a0 ∧ a0 ≤ a2) (h2 : a1 = (a0 + 1) ∨ (a0 + 1) < -2147483648 ∨ 2147483648 ≤ (a0 + 1)) : a1 = (a0 + 1) := by omega
theorem z_X3_reachFrom_3 (a0 : Int) (a1 : Int) (h0 : 0 ≤ a0 ∧ a0 ≤ a1) (h1 : ¬ (a1 ≤ a0)) : 0 ≤ (a0 + 1) ∧ (a0 + 1) ≤ a1 := by omega
theorem z_X3_reachFrom_5 (a0 : Int) (a1 : Int) (a2 : Int) (h0 : 0 ≤ a0 ∧ a0 < a2 ∧ a0 < 12) (h1 : a1 = (a0 + 1) ∨ (a0 + 1) < -2147483648 ∨ 2147483648 ≤ (a0 + 1)) : a1 = (a0 + 1) := by omega
theorem z_X3_reachFrom_8 (a0 : Int) (h0 : 0 ≤ a0 ∧ a0 ≤ 30) : ¬ (2147483648 - a0 < ((0 : Nat) : Int)) := by omega
theorem z_X3_reachFrom_12 (a0 : Int) (a1 : Int) (h0 : 0 ≤ a0 ∧ a0 ≤ 30) (h1 : a1 = (a0 + 1) ∨ (a0 + 1) < -2147483648 ∨ 2147483648 ≤ (a0 + 1)) : a1 = (a0 + 1) := by omega
theorem z_X3_reachFrom_13 (a0 : Int) (h0 : 0 ≤ a0 ∧ a0 ≤ 30) (h1 : ¬ ((30 : Int) ≤ a0)) : 0 ≤ (a0 + 1) ∧ (a0 + 1) ≤ 30 := by omega
theorem z_X3_reachFrom_14 (a0 : Int) (h0 : 0 ≤ a0 ∧ a0 ≤ 30) : (0 : Int) ≤ (a0 + 1) := by omega
theorem z_X3_reachFrom_23 (a0 : Int) (h0 : 0 ≤ a0 ∧ a0 ≤ 12) : 0 ≤ (0 : Int) ∧ (0 : Int) ≤ a0 := by omega
abbrev rm_X3_reachFrom : Room := { frames := 2, cells := 0, slots := 0, locals := 44 }
set_option maxHeartbeats 4000000 in
set_option maxRecDepth 100000 in
theorem c_X3_reachFrom (l : Launch) (E : XE) (K : Nat → Nat) (F : Nat → Nat → Nat) (G : XG) (a : Nat) (p0 : Nat) (p1 : Nat) (p2 : Int32) (p3 : Int32) (ha : K a = 5) (hp0 : K p0 = 8) (hp1 : K p1 = 2) (sb : 0 ≤ ((G.1 p1 2).toInt) ∧ ((G.1 p1 2).toInt) ≤ 12) (li : LIv (aI (G.2.1 (F a 0))) (aI (G.2.1 (F a 1))) (aI (G.2.1 (F a 2))) ((G.1 a 3).toInt)) : Met l yX3_reachFrom (xw yX3_reachFrom cX3_reachFrom 8 none) rm_X3_reachFrom (va_Pc [.ref a, .ref p0, .ref p1, .int p2, .int p3] (XP E K F G)) (XQv E (fun (u : XG) => XFr [(a, 3)] [F a 0, F a 1, F a 2] [] G u ∧ (LGo (aI (G.2.1 (F a 0))) (aI (G.2.1 (F a 1))) (aI (G.2.1 (F a 2))) ((G.1 a 3).toInt) (aI (u.2.1 (F a 0))) (aI (u.2.1 (F a 1))) (aI (u.2.1 (F a 2))) ((u.1 a 3).toInt) (fun u9 k9 => lnC G (G.2.2.1 (F p1 1)) (vw (G.2.1 (F p0 0))) ((G.1 p1 2).toInt) u9 k9 p2.toInt p3.toInt))) (fun u H => TW E K F u H)) 0 0 (xA E) := by
  refine x_enter (by decide) (Nat.le_of_ble_eq_true rfl) ?_
  intro p e s m args below meth c Q S hr hlk hnm hQ hP ls hl
  obtain ⟨hz, hK, hT⟩ := hP
  obtain ⟨hx, hb, -, -, -⟩ := id S
  obtain ⟨H, hT, hS, hgo⟩ : ∃ H : Heap, TW E K F G H ∧ va_S (xA E) s.heap H [] ∧ H = s.heap := ⟨_, hT, va_S.rf, rfl⟩
  rw [← hgo]
  have hl : lv_has ls 8 [(0, .ref a), (1, .ref p0), (2, .ref p1), (3, .int p2), (4, .int p3)] := hl
  obtain ⟨hk9999, hj9999⟩ := fkX3_0 hT ha
  obtain ⟨hk9999a, hj9999a⟩ := fkX3_1 hT ha
  obtain ⟨hk9999b, hj9999b⟩ := fkX3_2 hT ha
  obtain ⟨hk9999c, hj9999c⟩ := fkX0_1 hT hp1
  obtain ⟨hk9999d, hj9999d⟩ := fkX6_0 hT hp0
  refine lv_iconst (v := 0) hx hb dX3_reachFrom_0 (by decide) ?_
  refine lv_istore (lv' := [(5, .int 0), (0, .ref a), (1, .ref p0), (2, .ref p1), (3, .int p2), (4, .int p3)]) hx hb dX3_reachFrom_1 hl (by decide) rfl (fun ls hl => ?_)
  have L3 : ∀ (N3 : Nat) (l5_3 : Int32) (G_3 : XG) (H : Heap) (locs : List Loc) (ls : Array Slot), XFr [(a, 3)] [F a 0, F a 1, F a 2] [] G G_3 → LGo (aI (G.2.1 (F a 0))) (aI (G.2.1 (F a 1))) (aI (G.2.1 (F a 2))) ((G.1 a 3).toInt) (aI (G_3.2.1 (F a 0))) (aI (G_3.2.1 (F a 1))) (aI (G_3.2.1 (F a 2))) ((G_3.1 a 3).toInt) (fun u9 k9 => lnC G (G.2.2.1 (F p1 1)) (vw (G.2.1 (F p0 0))) l5_3.toInt u9 k9 p2.toInt p3.toInt) → 0 ≤ l5_3.toInt ∧ l5_3.toInt ≤ ((G.1 p1 2).toInt) → 2147483648 - l5_3.toInt < ((N3 : Nat) : Int) → TW E K F G_3 H → va_S (xA E) s.heap H locs → lv_has ls 8 [(0, .ref a), (1, .ref p0), (2, .ref p1), (3, .int p2), (4, .int p3), (5, .int l5_3)] → W p l e rm_X3_reachFrom s m args below meth c H locs 0 0 Q (F0 m 3 ls []) := by
    intro N3
    induction N3 with
    | zero =>
      intro l5_3 G_3 H locs ls hF_3 pl I3_0 hm3
      exact absurd hm3 (z_X3_reachFrom_1 l5_3.toInt (xr l5_3))
    | succ N3 ih3 =>
      intro l5_3 G_3 H locs ls hF_3 pl I3_0 hm3 hT hS hl
      refine lv_iload hx hb dX3_reachFrom_3 (lv_at hl 5 rfl) ?_
      refine lv_aload_n hx hb dX3_reachFrom_5 rfl (lv_at hl 2 rfl) ?_
      refine x_clp (x_runV (b := p1) (As := []) (rest := [.int l5_3]) S (c_X0_size l E K F G_3 H p1 hp1) mv_X0_size km_X3_36 rfl rfl ⟨Nat.le_of_ble_eq_true rfl, Nat.le_of_ble_eq_true rfl⟩ (rc_2 hK hT hp1) hK (fun _ => XPh.blind) (fun U hU hW => XPh.at hK hz hS hT hU hW) rfl hl.1 (Nat.le_of_ble_eq_true rfl) dX3_reachFrom_6 ⟨Nat.le_of_ble_eq_true rfl, Nat.le_of_ble_eq_true rfl⟩) hS ?_
      rintro _ _ locs ⟨x6, rfl, t6⟩ hS
      have t6 : x6.toInt = ((G.1 p1 2).toInt) := by rw [(show (G_3.1 p1 2).toInt = ((G.1 p1 2).toInt) from (congrArg Int32.toInt (hF_3.1 _ _ (xnj (by decide) xn0))).trans (rfl : Int32.toInt (G.1 p1 2) = ((G.1 p1 2).toInt)))] at t6; exact t6
      refine xi_cge (tgt := 100) hx hb (rfl : Int32.toInt l5_3 = l5_3.toInt) (t6 : Int32.toInt x6 = ((G.1 p1 2).toInt)) dX3_reachFrom_9 (by decide) (fun c9 => ?_) (fun c9 => ?_)
      · exact x_rv hx hb hr hlk hQ (Nat.le_of_ble_eq_true rfl) (Nat.le_of_ble_eq_true rfl) hS dX3_reachFrom_100 G_3 ⟨(XFr.call XFr.rf hF_3 (xm1 0 rfl xm0) (xm1 0 rfl (xm1 1 rfl (xm1 2 rfl xm0))) xm0), (v_X3_reachFrom_100_1 (K := K) (F := F) a p0 p1 G G_3 l5_3 p2 p3 N3 ha hp0 hp1 li pl sb I3_0 hm3 c9)⟩ hT
      · refine lv_aload_n hx hb dX3_reachFrom_12 rfl (lv_at hl 2 rfl) ?_
        refine lv_iload hx hb dX3_reachFrom_13 (lv_at hl 5 rfl) ?_
        refine x_clp (x_runV (b := p1) (As := [.int l5_3]) (rest := []) S (c_X0_inOrder l E K F G_3 H p1 l5_3 hp1) mv_X0_inOrder km_X3_41 rfl rfl ⟨Nat.le_of_ble_eq_true rfl, Nat.le_of_ble_eq_true rfl⟩ (rc_2 hK hT hp1) hK (fun _ => XPh.blind) (fun U hU hW => XPh.at hK hz hS hT hU hW) rfl hl.1 (Nat.le_of_ble_eq_true rfl) dX3_reachFrom_15 ⟨Nat.le_of_ble_eq_true rfl, Nat.le_of_ble_eq_true rfl⟩) hS ?_
        rintro _ _ locs (⟨rfl, hn15⟩ | ⟨q15, rfl, hk15, ht15, hs15⟩) hS
        · refine lv_astoreN (lv' := [(6, .null), (0, .ref a), (1, .ref p0), (2, .ref p1), (3, .int p2), (4, .int p3), (5, .int l5_3)]) hx hb dX3_reachFrom_18 hl (by decide) rfl (fun ls hl => ?_)
          refine lv_aloadN hx hb dX3_reachFrom_20 (lv_at hl 0 rfl) ?_
          refine lv_ifnullN (tgt := 94) hx hb dX3_reachFrom_22 (by decide) ?_
          refine xi_iinc (n := 1) (lv' := fun z9 => [(5, .int z9), (6, .null), (0, .ref a), (1, .ref p0), (2, .ref p1), (3, .int p2), (4, .int p3)]) (k := 6) hx hb (rfl : Int32.toInt l5_3 = l5_3.toInt) (by decide) dX3_reachFrom_94 hl rfl (by decide) (fun _ => rfl) (fun x94 ls t94 hl => ?_)
          have e94 : x94.toInt = (l5_3.toInt + 1) := (z_X3_reachFrom_2 l5_3.toInt x94.toInt ((G.1 p1 2).toInt) sb I3_0 t94)
          have hl : lv_has ls 8 [(5, .int x94), (6, .null), (0, .ref a), (1, .ref p0), (2, .ref p1), (3, .int p2), (4, .int p3)] := hl
          refine lv_goto (tgt := 3) hx hb dX3_reachFrom_97 (by decide) ?_
          exact ih3 x94 G_3 _ _ _ (XFr.call XFr.rf hF_3 (xm1 0 rfl xm0) (xm1 0 rfl (xm1 1 rfl (xm1 2 rfl xm0))) xm0) (by rw [(e94 : Int32.toInt x94 = (l5_3.toInt + 1))] <;> exact (v_X3_reachFrom_97_2 (K := K) (F := F) a p0 p1 G G_3 l5_3 p2 p3 N3 ha hp0 hp1 li pl hn15 sb I3_0 hm3 c9 (hF_3.2.2 _ xn0) (hF_3.1 _ _ (xnj (by decide) xn0)))) (by rw [(e94 : Int32.toInt x94 = (l5_3.toInt + 1))] <;> exact (z_X3_reachFrom_3 l5_3.toInt ((G.1 p1 2).toInt) I3_0 c9)) (by rw [(e94 : Int32.toInt x94 = (l5_3.toInt + 1))] <;> exact (z_X3_clear_6 l5_3.toInt N3 hm3)) hT hS (lv_sub hl [2, 3, 4, 5, 6, 0] rfl)
        · have ht15 : 0 ≤ l5_3.toInt ∧ l5_3.toInt < ((G.1 p1 2).toInt) ∧ l5_3.toInt < 12 := by rw [(show (G_3.1 p1 2).toInt = ((G.1 p1 2).toInt) from (congrArg Int32.toInt (hF_3.1 _ _ (xnj (by decide) xn0))).trans (rfl : Int32.toInt (G.1 p1 2) = ((G.1 p1 2).toInt)))] at ht15; exact ht15
          refine lv_astore (lv' := [(6, .ref q15), (0, .ref a), (1, .ref p0), (2, .ref p1), (3, .int p2), (4, .int p3), (5, .int l5_3)]) hx hb dX3_reachFrom_18 hl (by decide) rfl (fun ls hl => ?_)
          refine lv_aload hx hb dX3_reachFrom_20 (lv_at hl 0 rfl) ?_
          refine lv_ifnull hx hb dX3_reachFrom_22 ?_
          refine lv_aload hx hb dX3_reachFrom_25 (lv_at hl 0 rfl) ?_
          refine gX7_0 S hK hT hk15 kf_X3_45 dX3_reachFrom_27 (v := (G.1 q15 0)) (hF_3.1 _ _ (xnj (by decide) xn0)) (?_)
          refine lv_iconst (v := 1) hx hb dX3_reachFrom_30 (by decide) ?_
          refine xi_cne (tgt := 94) hx hb (rfl : Int32.toInt (G.1 q15 0) = ((G.1 q15 0).toInt)) ((by decide) : Int32.toInt 1 = (1 : Int)) dX3_reachFrom_31 (by decide) (fun c31 => ?_) (fun c31 => ?_)
          · refine xi_iinc (n := 1) (lv' := fun z9 => [(5, .int z9), (6, .ref q15), (0, .ref a), (1, .ref p0), (2, .ref p1), (3, .int p2), (4, .int p3)]) (k := 6) hx hb (rfl : Int32.toInt l5_3 = l5_3.toInt) (by decide) dX3_reachFrom_94 hl rfl (by decide) (fun _ => rfl) (fun x94 ls t94 hl => ?_)
            have e94 : x94.toInt = (l5_3.toInt + 1) := (z_X3_reachFrom_5 l5_3.toInt x94.toInt ((G.1 p1 2).toInt) ht15 t94)
            have hl : lv_has ls 8 [(5, .int x94), (6, .ref q15), (0, .ref a), (1, .ref p0), (2, .ref p1), (3, .int p2), (4, .int p3)] := hl
            refine lv_goto (tgt := 3) hx hb dX3_reachFrom_97 (by decide) ?_
            exact ih3 x94 G_3 _ _ _ (XFr.call XFr.rf hF_3 (xm1 0 rfl xm0) (xm1 0 rfl (xm1 1 rfl (xm1 2 rfl xm0))) xm0) (by rw [(e94 : Int32.toInt x94 = (l5_3.toInt + 1))] <;> exact (v_X3_reachFrom_97_3 (K := K) (F := F) a p0 p1 q15 G G_3 l5_3 p2 p3 N3 ha hp0 hp1 li pl hs15 sb I3_0 hm3 c9 ht15 c31 (hF_3.2.2 _ xn0) (hF_3.1 _ _ (xnj (by decide) xn0)))) (by rw [(e94 : Int32.toInt x94 = (l5_3.toInt + 1))] <;> exact (z_X3_reachFrom_3 l5_3.toInt ((G.1 p1 2).toInt) I3_0 c9)) (by rw [(e94 : Int32.toInt x94 = (l5_3.toInt + 1))] <;> exact (z_X3_clear_6 l5_3.toInt N3 hm3)) hT hS (lv_sub hl [2, 3, 4, 5, 6, 0] rfl)
          · refine lv_aload hx hb dX3_reachFrom_34 (lv_at hl 0 rfl) ?_
            refine gX7_4 S hK hT hk15 kf_X3_50 dX3_reachFrom_36 (v := (G.1 q15 4)) (hF_3.1 _ _ (xnj (by decide) xn0)) (?_)
            refine lv_iload_n hx hb dX3_reachFrom_39 rfl (lv_at hl 4 rfl) ?_
            refine xi_ceq (tgt := 46) hx hb (rfl : Int32.toInt (G.1 q15 4) = ((G.1 q15 4).toInt)) (rfl : Int32.toInt p2 = p2.toInt) dX3_reachFrom_40 (by decide) (fun c40 => ?_) (fun c40 => ?_)
            · refine lv_iconst (v := 0) hx hb dX3_reachFrom_46 (by decide) ?_
              refine lv_istore (lv' := [(7, .int 0), (6, .ref q15), (0, .ref a), (1, .ref p0), (2, .ref p1), (3, .int p2), (4, .int p3), (5, .int l5_3)]) hx hb dX3_reachFrom_47 hl (by decide) rfl (fun ls hl => ?_)
              have L49 : ∀ (N49 : Nat) (l7_49 : Int32) (G_49 : XG) (H : Heap) (locs : List Loc) (ls : Array Slot), XFr [(a, 3)] [F a 0, F a 1, F a 2] [] G_3 G_49 → LGo (aI (G_3.2.1 (F a 0))) (aI (G_3.2.1 (F a 1))) (aI (G_3.2.1 (F a 2))) ((G_3.1 a 3).toInt) (aI (G_49.2.1 (F a 0))) (aI (G_49.2.1 (F a 1))) (aI (G_49.2.1 (F a 2))) ((G_49.1 a 3).toInt) (fun u9 k9 => u9 = ((G.1 q15 2).toInt) ∧ k9 < l7_49.toInt ∧ cel (vw (G.2.1 (F p0 0))) u9 k9 ((G.1 q15 3).toInt) = p3.toInt) → 0 ≤ l7_49.toInt ∧ l7_49.toInt ≤ 30 → (0 : Int) ≤ l7_49.toInt → 2147483648 - l7_49.toInt < ((N49 : Nat) : Int) → TW E K F G_49 H → va_S (xA E) s.heap H locs → lv_has ls 8 [(0, .ref a), (1, .ref p0), (2, .ref p1), (3, .int p2), (4, .int p3), (5, .int l5_3), (6, .ref q15), (7, .int l7_49)] → W p l e rm_X3_reachFrom s m args below meth c H locs 0 0 Q (F0 m 49 ls []) := by
                intro N49
                induction N49 with
                | zero =>
                  intro l7_49 G_49 H locs ls hF_49 pk I49_0 I49_1 hm49
                  exact absurd hm49 (z_X3_reachFrom_8 l7_49.toInt I49_0)
                | succ N49 ih49 =>
                  intro l7_49 G_49 H locs ls hF_49 pk I49_0 I49_1 hm49 hT hS hl
                  refine lv_iload hx hb dX3_reachFrom_49 (lv_at hl 7 rfl) ?_
                  refine lv_bipush (v := 30) hx hb dX3_reachFrom_51 (by decide) ?_
                  refine xi_cge (tgt := 94) hx hb (rfl : Int32.toInt l7_49 = l7_49.toInt) ((by decide) : Int32.toInt 30 = (30 : Int)) dX3_reachFrom_53 (by decide) (fun c53 => ?_) (fun c53 => ?_)
                  · refine xi_iinc (n := 1) (lv' := fun z9 => [(5, .int z9), (0, .ref a), (1, .ref p0), (2, .ref p1), (3, .int p2), (4, .int p3), (6, .ref q15), (7, .int l7_49)]) (k := 5) hx hb (rfl : Int32.toInt l5_3 = l5_3.toInt) (by decide) dX3_reachFrom_94 hl rfl (by decide) (fun _ => rfl) (fun x94 ls t94 hl => ?_)
                    have e94 : x94.toInt = (l5_3.toInt + 1) := (z_X3_reachFrom_5 l5_3.toInt x94.toInt ((G.1 p1 2).toInt) ht15 t94)
                    have hl : lv_has ls 8 [(5, .int x94), (0, .ref a), (1, .ref p0), (2, .ref p1), (3, .int p2), (4, .int p3), (6, .ref q15), (7, .int l7_49)] := hl
                    refine lv_goto (tgt := 3) hx hb dX3_reachFrom_97 (by decide) ?_
                    exact ih3 x94 G_49 _ _ _ (XFr.call (XFr.call XFr.rf hF_3 (xm1 0 rfl xm0) (xm1 0 rfl (xm1 1 rfl (xm1 2 rfl xm0))) xm0) hF_49 (xm1 0 rfl xm0) (xm1 0 rfl (xm1 1 rfl (xm1 2 rfl xm0))) xm0) (by rw [(e94 : Int32.toInt x94 = (l5_3.toInt + 1))] <;> exact (v_X3_reachFrom_97_4 (K := K) (F := F) a p0 p1 q15 G G_3 G_49 l5_3 p2 p3 l7_49 N3 N49 ha hp0 hp1 li pl hs15 pk sb I3_0 hm3 c9 ht15 c31 c40 I49_0 I49_1 hm49 c53 (hF_3.2.2 _ xn0) (hF_3.1 _ _ (xnj (by decide) xn0)))) (by rw [(e94 : Int32.toInt x94 = (l5_3.toInt + 1))] <;> exact (z_X3_reachFrom_3 l5_3.toInt ((G.1 p1 2).toInt) I3_0 c9)) (by rw [(e94 : Int32.toInt x94 = (l5_3.toInt + 1))] <;> exact (z_X3_clear_6 l5_3.toInt N3 hm3)) hT hS (lv_sub hl [1, 2, 3, 4, 5, 0] rfl)
                  · refine lv_aload_n hx hb dX3_reachFrom_56 rfl (lv_at hl 1 rfl) ?_
                    refine lv_aload hx hb dX3_reachFrom_57 (lv_at hl 6 rfl) ?_
                    refine gX7_2 S hK hT hk15 kf_X3_53 dX3_reachFrom_59 (v := (G.1 q15 2)) ((hF_49.1 _ _ (xnj (by decide) xn0)).trans (hF_3.1 _ _ (xnj (by decide) xn0))) (?_)
                    refine lv_iload hx hb dX3_reachFrom_62 (lv_at hl 7 rfl) ?_
                    refine lv_aload hx hb dX3_reachFrom_64 (lv_at hl 6 rfl) ?_
                    refine gX7_3 S hK hT hk15 kf_X3_56 dX3_reachFrom_66 (v := (G.1 q15 3)) ((hF_49.1 _ _ (xna (xne_k hk15 ha (by decide)) xn0)).trans (hF_3.1 _ _ (xna (xne_k hk15 ha (by decide)) xn0))) (?_)
                    refine x_clp (x_runV (b := p0) (As := [.int (G.1 q15 2), .int l7_49, .int (G.1 q15 3)]) (rest := []) S (c_X6_cell l E K F G_49 H p0 (G.1 q15 2) l7_49 (G.1 q15 3) hp0) mv_X6_cell km_X3_59 rfl rfl ⟨Nat.le_of_ble_eq_true rfl, Nat.le_of_ble_eq_true rfl⟩ (rc_8 hK hT hp0) hK (fun _ => XPh.blind) (fun U hU hW => XPh.at hK hz hS hT hU hW) rfl hl.1 (Nat.le_of_ble_eq_true rfl) dX3_reachFrom_69 ⟨Nat.le_of_ble_eq_true rfl, Nat.le_of_ble_eq_true rfl⟩) hS ?_
                    rintro _ _ locs ⟨x69, rfl, t69⟩ hS
                    have t69 : x69.toInt = (cel (vw (G.2.1 (F p0 0))) ((G.1 q15 2).toInt) (l7_49.toInt) ((G.1 q15 3).toInt)) := by rw [(show G_49.2.1 (F p0 0) = G.2.1 (F p0 0) from ((hF_49.2.1 _ (xn1 (xne_k hk9999d hk9999 (by decide)) (xn1 (xne_k hk9999d hk9999a (by decide)) (xn1 (xne_k hk9999d hk9999b (by decide)) xn0)))).trans (hF_3.2.1 _ (xn1 (xne_k hk9999d hk9999 (by decide)) (xn1 (xne_k hk9999d hk9999a (by decide)) (xn1 (xne_k hk9999d hk9999b (by decide)) xn0))))))] at t69; exact t69
                    refine lv_iload hx hb dX3_reachFrom_72 (lv_at hl 4 rfl) ?_
                    refine xi_cne (tgt := 88) hx hb (t69 : Int32.toInt x69 = (cel (vw (G.2.1 (F p0 0))) ((G.1 q15 2).toInt) (l7_49.toInt) ((G.1 q15 3).toInt))) (rfl : Int32.toInt p3 = p3.toInt) dX3_reachFrom_74 (by decide) (fun c74 => ?_) (fun c74 => ?_)
                    · refine xi_iinc (n := 1) (lv' := fun z9 => [(7, .int z9), (0, .ref a), (1, .ref p0), (2, .ref p1), (3, .int p2), (4, .int p3), (5, .int l5_3), (6, .ref q15)]) (k := 7) hx hb (rfl : Int32.toInt l7_49 = l7_49.toInt) (by decide) dX3_reachFrom_88 hl rfl (by decide) (fun _ => rfl) (fun x88 ls t88 hl => ?_)
                      have e88 : x88.toInt = (l7_49.toInt + 1) := (z_X3_reachFrom_12 l7_49.toInt x88.toInt I49_0 t88)
                      have hl : lv_has ls 8 [(7, .int x88), (0, .ref a), (1, .ref p0), (2, .ref p1), (3, .int p2), (4, .int p3), (5, .int l5_3), (6, .ref q15)] := hl
                      refine lv_goto (tgt := 49) hx hb dX3_reachFrom_91 (by decide) ?_
                      exact ih49 x88 G_49 _ _ _ (XFr.call XFr.rf hF_49 (xm1 0 rfl xm0) (xm1 0 rfl (xm1 1 rfl (xm1 2 rfl xm0))) xm0) (by rw [(e88 : Int32.toInt x88 = (l7_49.toInt + 1))] <;> exact (v_X3_reachFrom_91_5 (K := K) (F := F) a p0 p1 q15 G G_3 G_49 l5_3 p2 p3 l7_49 N3 N49 ha hp0 hp1 li pl hs15 pk sb I3_0 hm3 c9 ht15 c31 c40 I49_0 I49_1 hm49 c53 c74)) (by rw [(e88 : Int32.toInt x88 = (l7_49.toInt + 1))] <;> exact (z_X3_reachFrom_13 l7_49.toInt I49_0 c53)) (by rw [(e88 : Int32.toInt x88 = (l7_49.toInt + 1))] <;> exact (z_X3_reachFrom_14 l7_49.toInt I49_0)) (by rw [(e88 : Int32.toInt x88 = (l7_49.toInt + 1))] <;> exact (z_X3_clear_6 l7_49.toInt N49 hm49)) hT hS (lv_sub hl [1, 2, 3, 4, 5, 6, 7, 0] rfl)
                    · refine lv_aload_n hx hb dX3_reachFrom_77 rfl (lv_at hl 0 rfl) ?_
                      refine lv_aload hx hb dX3_reachFrom_78 (lv_at hl 6 rfl) ?_
                      refine gX7_2 S hK hT hk15 kf_X3_53 dX3_reachFrom_80 (v := (G.1 q15 2)) ((hF_49.1 _ _ (xnj (by decide) xn0)).trans (hF_3.1 _ _ (xnj (by decide) xn0))) (?_)
                      refine lv_iload hx hb dX3_reachFrom_83 (lv_at hl 7 rfl) ?_
                      refine x_cv0 (x_runV (b := a) (As := [.int (G.1 q15 2), .int l7_49]) (rest := []) S (c_X3_reach l E K F G_49 a (G.1 q15 2) l7_49 ha (v_X3_reachFrom_85_6 (F := F) G_3 a G_49 G q15 l7_49 p0 p3 pk)) mv_X3_reach km_X3_32 rfl rfl ⟨Nat.le_of_ble_eq_true rfl, Nat.le_of_ble_eq_true rfl⟩ (rc_5 hK hT ha) hK (fun _ => XP.blind) (fun U hU hW => XP.at hK hz hS hT hU hW) rfl hl.1 (Nat.le_of_ble_eq_true rfl) dX3_reachFrom_85 ⟨Nat.le_of_ble_eq_true rfl, Nat.le_of_ble_eq_true rfl⟩) hS ?_
                      rintro G85 H locs ⟨hF85, oq85⟩ hT hS
                      refine xi_iinc (n := 1) (lv' := fun z9 => [(7, .int z9), (0, .ref a), (1, .ref p0), (2, .ref p1), (3, .int p2), (4, .int p3), (5, .int l5_3), (6, .ref q15)]) (k := 7) hx hb (rfl : Int32.toInt l7_49 = l7_49.toInt) (by decide) dX3_reachFrom_88 hl rfl (by decide) (fun _ => rfl) (fun x88 ls t88 hl => ?_)
                      have e88 : x88.toInt = (l7_49.toInt + 1) := (z_X3_reachFrom_12 l7_49.toInt x88.toInt I49_0 t88)
                      have hl : lv_has ls 8 [(7, .int x88), (0, .ref a), (1, .ref p0), (2, .ref p1), (3, .int p2), (4, .int p3), (5, .int l5_3), (6, .ref q15)] := hl
                      refine lv_goto (tgt := 49) hx hb dX3_reachFrom_91 (by decide) ?_
                      exact ih49 x88 G85 _ _ _ (XFr.call (XFr.call XFr.rf hF_49 (xm1 0 rfl xm0) (xm1 0 rfl (xm1 1 rfl (xm1 2 rfl xm0))) xm0) hF85 (xm1 0 rfl xm0) (xm1 0 rfl (xm1 1 rfl (xm1 2 rfl xm0))) xm0) (by rw [(e88 : Int32.toInt x88 = (l7_49.toInt + 1))] <;> exact (v_X3_reachFrom_91_7 (K := K) (F := F) a p0 p1 q15 G G_3 G_49 G85 l5_3 p2 p3 l7_49 N3 N49 ha hp0 hp1 li pl hs15 pk oq85 sb I3_0 hm3 c9 ht15 c31 c40 I49_0 I49_1 hm49 c53 c74)) (by rw [(e88 : Int32.toInt x88 = (l7_49.toInt + 1))] <;> exact (z_X3_reachFrom_13 l7_49.toInt I49_0 c53)) (by rw [(e88 : Int32.toInt x88 = (l7_49.toInt + 1))] <;> exact (z_X3_reachFrom_14 l7_49.toInt I49_0)) (by rw [(e88 : Int32.toInt x88 = (l7_49.toInt + 1))] <;> exact (z_X3_clear_6 l7_49.toInt N49 hm49)) hT hS (lv_sub hl [1, 2, 3, 4, 5, 6, 7, 0] rfl)
              exact L49 4294967297 0 G_3 _ _ _ XFr.rf (v_X3_reachFrom_47_8 (K := K) (F := F) a p0 p1 q15 G G_3 l5_3 p2 p3 N3 ha hp0 hp1 li pl hs15 sb I3_0 hm3 c9 ht15 c31 c40) (by decide) (by decide) (by decide) hT hS (lv_sub hl [2, 3, 4, 5, 6, 7, 1, 0] rfl)
            · refine lv_goto (tgt := 94) hx hb dX3_reachFrom_43 (by decide) ?_
              refine xi_iinc (n := 1) (lv' := fun z9 => [(5, .int z9), (6, .ref q15), (0, .ref a), (1, .ref p0), (2, .ref p1), (3, .int p2), (4, .int p3)]) (k := 6) hx hb (rfl : Int32.toInt l5_3 = l5_3.toInt) (by decide) dX3_reachFrom_94 hl rfl (by decide) (fun _ => rfl) (fun x94 ls t94 hl => ?_)
              have e94 : x94.toInt = (l5_3.toInt + 1) := (z_X3_reachFrom_5 l5_3.toInt x94.toInt ((G.1 p1 2).toInt) ht15 t94)
              have hl : lv_has ls 8 [(5, .int x94), (6, .ref q15), (0, .ref a), (1, .ref p0), (2, .ref p1), (3, .int p2), (4, .int p3)] := hl
              refine lv_goto (tgt := 3) hx hb dX3_reachFrom_97 (by decide) ?_
              exact ih3 x94 G_3 _ _ _ (XFr.call XFr.rf hF_3 (xm1 0 rfl xm0) (xm1 0 rfl (xm1 1 rfl (xm1 2 rfl xm0))) xm0) (by rw [(e94 : Int32.toInt x94 = (l5_3.toInt + 1))] <;> exact (v_X3_reachFrom_97_9 (K := K) (F := F) a p0 p1 q15 G G_3 l5_3 p2 p3 N3 ha hp0 hp1 li pl hs15 sb I3_0 hm3 c9 ht15 c31 c40 (hF_3.2.2 _ xn0) (hF_3.1 _ _ (xnj (by decide) xn0)))) (by rw [(e94 : Int32.toInt x94 = (l5_3.toInt + 1))] <;> exact (z_X3_reachFrom_3 l5_3.toInt ((G.1 p1 2).toInt) I3_0 c9)) (by rw [(e94 : Int32.toInt x94 = (l5_3.toInt + 1))] <;> exact (z_X3_clear_6 l5_3.toInt N3 hm3)) hT hS (lv_sub hl [2, 3, 4, 5, 6, 0] rfl)
  exact L3 4294967297 0 G _ _ _ XFr.rf (v_X3_reachFrom_1_10 (K := K) (F := F) a p0 p1 G p2 p3 ha hp0 hp1 li sb) (z_X3_reachFrom_23 ((G.1 p1 2).toInt) sb) (by decide) hT hS (lv_sub hl [1, 2, 3, 4, 5, 0] rfl)

abbrev rm_X3_straight : Room := { frames := 3, cells := 0, slots := 0, locals := 71 }
set_option maxHeartbeats 4000000 in
set_option maxRecDepth 100000 in
theorem c_X3_straight (l : Launch) (E : XE) (K : Nat → Nat) (F : Nat → Nat → Nat) (G : XG) (a : Nat) (p0 : Nat) (p1 : Nat) (p2 : Int32) (p3 : Int32) (ha : K a = 5) (hp0 : K p0 = 8) (hp1 : K p1 = 2) (sb : 0 ≤ ((G.1 p1 2).toInt) ∧ ((G.1 p1 2).toInt) ≤ 12) (bko : BKr K G (G.2.2.1 (F p1 1))) : Met l yX3_straight (xw yX3_straight cX3_straight 5 (some .int)) rm_X3_straight (va_Pc [.ref a, .ref p0, .ref p1, .int p2, .int p3] (XP E K F G)) (XQ E (fun v (u : XG) => ∃ r : Int32, v = .int r ∧ XFr [(a, 3)] [F a 0, F a 1, F a 2] [] G u ∧ (∃ b : Int → Int, r.toInt = toB b 3 ∧ ∀ t j : Int, inR t j → (bI (b t) j = 1 ↔ lnC G (G.2.2.1 (F p1 1)) (vw (G.2.1 (F p0 0))) ((G.1 p1 2).toInt) t j p2.toInt p3.toInt))) (fun u H => TW E K F u H)) 0 0 (xA E) := by
  refine x_enter (by decide) (Nat.le_of_ble_eq_true rfl) ?_
  intro p e s m args below meth c Q S hr hlk hnm hQ hP ls hl
  obtain ⟨hz, hK, hT⟩ := hP
  obtain ⟨hx, hb, -, -, -⟩ := id S
  obtain ⟨H, hT, hS, hgo⟩ : ∃ H : Heap, TW E K F G H ∧ va_S (xA E) s.heap H [] ∧ H = s.heap := ⟨_, hT, va_S.rf, rfl⟩
  rw [← hgo]
  have hl : lv_has ls 5 [(0, .ref a), (1, .ref p0), (2, .ref p1), (3, .int p2), (4, .int p3)] := hl
  obtain ⟨hk9999, hj9999⟩ := fkX3_0 hT ha
  obtain ⟨hk9999a, hj9999a⟩ := fkX3_1 hT ha
  obtain ⟨hk9999b, hj9999b⟩ := fkX3_2 hT ha
  obtain ⟨hk9999c, hj9999c⟩ := fkX0_1 hT hp1
  obtain ⟨hk9999d, hj9999d⟩ := fkX6_0 hT hp0
  refine lv_aload_n hx hb dX3_straight_0 rfl (lv_at hl 0 rfl) ?_
  refine x_cv0 (x_runV (b := a) (As := []) (rest := []) S (c_X3_clear l E K F G a ha) mv_X3_clear km_X3_21 rfl rfl ⟨Nat.le_of_ble_eq_true rfl, Nat.le_of_ble_eq_true rfl⟩ (rc_5 hK hT ha) hK (fun _ => XP.blind) (fun U hU hW => XP.at hK hz hS hT hU hW) rfl hl.1 (Nat.le_of_ble_eq_true rfl) dX3_straight_1 ⟨Nat.le_of_ble_eq_true rfl, Nat.le_of_ble_eq_true rfl⟩) hS ?_
  rintro G1 H locs ⟨hF1, t1, oq1⟩ hT hS
  have t1 : ((G1.1 a 3).toInt) = 0 := t1
  refine lv_aload_n hx hb dX3_straight_4 rfl (lv_at hl 0 rfl) ?_
  refine lv_aload_n hx hb dX3_straight_5 rfl (lv_at hl 1 rfl) ?_
  refine lv_aload_n hx hb dX3_straight_6 rfl (lv_at hl 2 rfl) ?_
  refine lv_iload_n hx hb dX3_straight_7 rfl (lv_at hl 3 rfl) ?_
  refine lv_iload hx hb dX3_straight_8 (lv_at hl 4 rfl) ?_
  refine x_cv0 (x_runV (b := a) (As := [.ref p0, .ref p1, .int p2, .int p3]) (rest := []) S (c_X3_reachFrom l E K F G1 a p0 p1 p2 p3 ha hp0 hp1 (by rw [(show (G1.1 p1 2).toInt = ((G.1 p1 2).toInt) from (congrArg Int32.toInt (hF1.1 _ _ (xnj (by decide) xn0))).trans (rfl : Int32.toInt (G.1 p1 2) = ((G.1 p1 2).toInt)))] <;> exact (sb)) (v_X3_straight_10_1 (F := F) G1 a oq1 t1)) mv_X3_reachFrom km_X3_24 rfl rfl ⟨Nat.le_of_ble_eq_true rfl, Nat.le_of_ble_eq_true rfl⟩ (rc_5 hK hT ha) hK (fun _ => XP.blind) (fun U hU hW => XP.at hK hz hS hT hU hW) rfl hl.1 (Nat.le_of_ble_eq_true rfl) dX3_straight_10 ⟨Nat.le_of_ble_eq_true rfl, Nat.le_of_ble_eq_true rfl⟩) hS ?_
  rintro G10 H locs ⟨hF10, oq10⟩ hT hS
  have oq10 : LGo (aI (G1.2.1 (F a 0))) (aI (G.2.1 (F a 1))) (aI (G.2.1 (F a 2))) ((G1.1 a 3).toInt) (aI (G10.2.1 (F a 0))) (aI (G10.2.1 (F a 1))) (aI (G10.2.1 (F a 2))) ((G10.1 a 3).toInt) (fun u9 k9 => lnC G1 (G1.2.2.1 (F p1 1)) (vw (G.2.1 (F p0 0))) ((G.1 p1 2).toInt) u9 k9 p2.toInt p3.toInt) := by simp only [(show G1.2.1 (F a 1) = G.2.1 (F a 1) from (hF1.2.1 _ (xn1 (xne_k hk9999a hk9999 (by decide)) xn0))), (show G1.2.1 (F a 2) = G.2.1 (F a 2) from (hF1.2.1 _ (xn1 (xne_k hk9999b hk9999 (by decide)) xn0))), (show G1.2.1 (F p0 0) = G.2.1 (F p0 0) from (hF1.2.1 _ (xn1 (xne_k hk9999d hk9999 (by decide)) xn0))), (show G1.1 p1 2 = G.1 p1 2 from (hF1.1 _ _ (xnj (by decide) xn0)))] at oq10; exact oq10
  refine lv_aload_n hx hb dX3_straight_13 rfl (lv_at hl 0 rfl) ?_
  refine gX3_3 S hK hT ha kf_X3_28 dX3_straight_14 (v := (G10.1 a 3)) rfl (?_)
  exact x_ri hx hb hr hlk hQ (Nat.le_of_ble_eq_true rfl) (Nat.le_of_ble_eq_true rfl) hS dX3_straight_17 G10 ⟨_, rfl, (XFr.call (XFr.call XFr.rf hF1 (xm1 0 rfl xm0) (xm1 0 rfl xm0) xm0) hF10 (xm1 0 rfl xm0) (xm1 0 rfl (xm1 1 rfl (xm1 2 rfl xm0))) xm0), (v_X3_straight_17_2 (K := K) (F := F) a p0 p1 G G1 G10 p2 p3 ha hp0 hp1 hk9999 hj9999 hk9999a hj9999a hk9999b hj9999b hk9999c hj9999c hk9999d hj9999d hF1 bko oq1 oq10 sb t1 (hF1.2.2 _ xn0))⟩ hT

theorem z_X3_straightOrNot_1 (a0 : Int) (h0 : 0 ≤ a0 ∧ a0 ≤ 90) : ¬ (100 - a0 < ((0 : Nat) : Int)) := by omega
theorem z_X3_straightOrNot_2 (a0 : Int) (a1 : Int) (h0 : 0 ≤ a1 ∧ a1 ≤ 90) (h1 : a0 = (a1 - (1 : Int)) ∨ (a1 - (1 : Int)) < -2147483648 ∨ 2147483648 ≤ (a1 - (1 : Int))) : a0 = (a1 - (1 : Int)) := by omega
theorem z_X3_straightOrNot_3 (a0 : Int) (a1 : Int) (a2 : Int) (h0 : ¬ (a2 ≤ a0)) (h1 : (90 : Int) ≤ a0) (h2 : 0 ≤ a2 ∧ a2 ≤ 90) : a1 = (a2 - (1 : Int)) := by omega
theorem z_X3_straightOrNot_4 (a0 : Int) (h0 : 0 ≤ a0 ∧ a0 ≤ 90) (h1 : ¬ ((90 : Int) ≤ a0)) : 0 ≤ a0 ∧ a0 < ((90 : Nat) : Int) := by omega
theorem z_X3_straightOrNot_7 (a0 : Int) (a1 : Int) (h0 : 0 ≤ a0 ∧ a0 ≤ 90) (h1 : a1 = (a0 + 1) ∨ (a0 + 1) < -2147483648 ∨ 2147483648 ≤ (a0 + 1)) : a1 = (a0 + 1) := by omega
theorem z_X3_straightOrNot_8 (a0 : Int) (h0 : 0 ≤ a0 ∧ a0 ≤ 90) (h1 : ¬ ((90 : Int) ≤ a0)) : 0 ≤ (a0 + 1) ∧ (a0 + 1) ≤ 90 := by omega
theorem z_X3_straightOrNot_9 (a0 : Int) (a1 : Nat) (h0 : 100 - a0 < ((a1 + 1 : Nat) : Int)) : 100 - (a0 + 1) < ((a1 : Nat) : Int) := by omega
abbrev rm_X3_straightOrNot : Room := { frames := 3, cells := 0, slots := 0, locals := 71 }
set_option maxHeartbeats 4000000 in
set_option maxRecDepth 100000 in
theorem c_X3_straightOrNot (l : Launch) (E : XE) (K : Nat → Nat) (F : Nat → Nat → Nat) (G : XG) (a : Nat) (p0 : Nat) (p1 : Nat) (p2 : Int32) (p3 : Int32) (ha : K a = 5) (hp0 : K p0 = 8) (hp1 : K p1 = 2) (sb : 0 ≤ ((G.1 p1 2).toInt) ∧ ((G.1 p1 2).toInt) ≤ 12) (e0 : 0 ≤ p2.toInt ∧ p2.toInt < 3 ∧ 0 ≤ p3.toInt ∧ p3.toInt < 30) (bko : BKr K G (G.2.2.1 (F p1 1))) : Met l yX3_straightOrNot (xw yX3_straightOrNot cX3_straightOrNot 6 (some .int)) rm_X3_straightOrNot (va_Pc [.ref a, .ref p0, .ref p1, .int p2, .int p3] (XP E K F G)) (XQ E (fun v (u : XG) => ∃ r : Int32, v = .int r ∧ XFr [(a, 3)] [F a 0, F a 1, F a 2] [] G u ∧ (∃ b : Int → Int, r.toInt = toB b 3 - 1 ∧ ∀ t j : Int, inR t j → (bI (b t) j = 1 ↔ RCH (lnC G (G.2.2.1 (F p1 1)) (vw (G.2.1 (F p0 0))) ((G.1 p1 2).toInt)) p2.toInt p3.toInt t j))) (fun u H => TW E K F u H)) 0 0 (xA E) := by
  refine x_enter (by decide) (Nat.le_of_ble_eq_true rfl) ?_
  intro p e s m args below meth c Q S hr hlk hnm hQ hP ls hl
  obtain ⟨hz, hK, hT⟩ := hP
  obtain ⟨hx, hb, -, -, -⟩ := id S
  obtain ⟨H, hT, hS, hgo⟩ : ∃ H : Heap, TW E K F G H ∧ va_S (xA E) s.heap H [] ∧ H = s.heap := ⟨_, hT, va_S.rf, rfl⟩
  rw [← hgo]
  have hl : lv_has ls 6 [(0, .ref a), (1, .ref p0), (2, .ref p1), (3, .int p2), (4, .int p3)] := hl
  obtain ⟨hk9999, hj9999⟩ := fkX3_0 hT ha
  obtain ⟨hk9999a, hj9999a⟩ := fkX3_1 hT ha
  obtain ⟨hk9999b, hj9999b⟩ := fkX3_2 hT ha
  obtain ⟨hk9999c, hj9999c⟩ := fkX0_1 hT hp1
  obtain ⟨hk9999d, hj9999d⟩ := fkX6_0 hT hp0
  refine lv_aload_n hx hb dX3_straightOrNot_0 rfl (lv_at hl 0 rfl) ?_
  refine x_cv0 (x_runV (b := a) (As := []) (rest := []) S (c_X3_clear l E K F G a ha) mv_X3_clear km_X3_21 rfl rfl ⟨Nat.le_of_ble_eq_true rfl, Nat.le_of_ble_eq_true rfl⟩ (rc_5 hK hT ha) hK (fun _ => XP.blind) (fun U hU hW => XP.at hK hz hS hT hU hW) rfl hl.1 (Nat.le_of_ble_eq_true rfl) dX3_straightOrNot_1 ⟨Nat.le_of_ble_eq_true rfl, Nat.le_of_ble_eq_true rfl⟩) hS ?_
  rintro G1 H locs ⟨hF1, t1, oq1⟩ hT hS
  have t1 : ((G1.1 a 3).toInt) = 0 := t1
  refine lv_aload_n hx hb dX3_straightOrNot_4 rfl (lv_at hl 0 rfl) ?_
  refine lv_iload_n hx hb dX3_straightOrNot_5 rfl (lv_at hl 3 rfl) ?_
  refine lv_iload hx hb dX3_straightOrNot_6 (lv_at hl 4 rfl) ?_
  refine x_cv0 (x_runV (b := a) (As := [.int p2, .int p3]) (rest := []) S (c_X3_reach l E K F G1 a p2 p3 ha (v_X3_straightOrNot_8_1 (F := F) G1 a oq1 t1)) mv_X3_reach km_X3_32 rfl rfl ⟨Nat.le_of_ble_eq_true rfl, Nat.le_of_ble_eq_true rfl⟩ (rc_5 hK hT ha) hK (fun _ => XP.blind) (fun U hU hW => XP.at hK hz hS hT hU hW) rfl hl.1 (Nat.le_of_ble_eq_true rfl) dX3_straightOrNot_8 ⟨Nat.le_of_ble_eq_true rfl, Nat.le_of_ble_eq_true rfl⟩) hS ?_
  rintro G8 H locs ⟨hF8, oq8⟩ hT hS
  have oq8 : LGo (aI (G1.2.1 (F a 0))) (aI (G.2.1 (F a 1))) (aI (G.2.1 (F a 2))) ((G1.1 a 3).toInt) (aI (G8.2.1 (F a 0))) (aI (G8.2.1 (F a 1))) (aI (G8.2.1 (F a 2))) ((G8.1 a 3).toInt) (fun u9 k9 => u9 = p2.toInt ∧ k9 = p3.toInt) := by simp only [(show G1.2.1 (F a 1) = G.2.1 (F a 1) from (hF1.2.1 _ (xn1 (xne_k hk9999a hk9999 (by decide)) xn0))), (show G1.2.1 (F a 2) = G.2.1 (F a 2) from (hF1.2.1 _ (xn1 (xne_k hk9999b hk9999 (by decide)) xn0)))] at oq8; exact oq8
  refine lv_iconst (v := 0) hx hb dX3_straightOrNot_11 (by decide) ?_
  refine lv_istore (lv' := [(5, .int 0), (0, .ref a), (1, .ref p0), (2, .ref p1), (3, .int p2), (4, .int p3)]) hx hb dX3_straightOrNot_12 hl (by decide) rfl (fun ls hl => ?_)
  have L14 : ∀ (N14 : Nat) (l5_14 : Int32) (G_14 : XG) (H : Heap) (locs : List Loc) (ls : Array Slot), XFr [(a, 3)] [F a 0, F a 1, F a 2] [] G8 G_14 → LIv (aI (G_14.2.1 (F a 0))) (aI (G_14.2.1 (F a 1))) (aI (G_14.2.1 (F a 2))) ((G_14.1 a 3).toInt) → bI ((aI (G_14.2.1 (F a 0))) p2.toInt) p3.toInt = 1 → (∀ t j : Int, inR t j → bI ((aI (G_14.2.1 (F a 0))) t) j = 1 → RCH (lnC G (G.2.2.1 (F p1 1)) (vw (G.2.1 (F p0 0))) ((G.1 p1 2).toInt)) p2.toInt p3.toInt t j) → (∀ z : Int, 0 ≤ z → z < l5_14.toInt → ∀ t j : Int, inR t j → lnC G (G.2.2.1 (F p1 1)) (vw (G.2.1 (F p0 0))) ((G.1 p1 2).toInt) t j ((aI (G_14.2.1 (F a 1))) z) ((aI (G_14.2.1 (F a 2))) z) → bI ((aI (G_14.2.1 (F a 0))) t) j = 1) → 0 ≤ l5_14.toInt ∧ l5_14.toInt ≤ 90 → 100 - l5_14.toInt < ((N14 : Nat) : Int) → TW E K F G_14 H → va_S (xA E) s.heap H locs → lv_has ls 6 [(0, .ref a), (1, .ref p0), (2, .ref p1), (5, .int l5_14)] → W p l e rm_X3_straightOrNot s m args below meth c H locs 0 0 Q (F0 m 14 ls []) := by
    intro N14
    induction N14 with
    | zero =>
      intro l5_14 G_14 H locs ls hF_14 pv ps pr pc I14_0 hm14
      exact absurd hm14 (z_X3_straightOrNot_1 l5_14.toInt I14_0)
    | succ N14 ih14 =>
      intro l5_14 G_14 H locs ls hF_14 pv ps pr pc I14_0 hm14 hT hS hl
      refine lv_iload hx hb dX3_straightOrNot_14 (lv_at hl 3 rfl) ?_
      refine lv_aload_n hx hb dX3_straightOrNot_16 rfl (lv_at hl 0 rfl) ?_
      refine gX3_3 S hK hT ha kf_X3_28 dX3_straightOrNot_17 (v := (G_14.1 a 3)) rfl (?_)
      refine xi_cge (tgt := 56) hx hb (rfl : Int32.toInt l5_14 = l5_14.toInt) (rfl : Int32.toInt (G_14.1 a 3) = ((G_14.1 a 3).toInt)) dX3_straightOrNot_20 (by decide) (fun c20 => ?_) (fun c20 => ?_)
      · have z56 : 0 ≤ ((G_14.1 a 3).toInt) ∧ ((G_14.1 a 3).toInt) ≤ 90 := pv.b
        refine lv_aload_n hx hb dX3_straightOrNot_56 rfl (lv_at hl 0 rfl) ?_
        refine gX3_3 S hK hT ha kf_X3_28 dX3_straightOrNot_57 (v := (G_14.1 a 3)) rfl (?_)
        refine lv_iconst (v := 1) hx hb dX3_straightOrNot_60 (by decide) ?_
        refine xi_isub hx hb (rfl : Int32.toInt (G_14.1 a 3) = ((G_14.1 a 3).toInt)) ((by decide) : Int32.toInt 1 = (1 : Int)) dX3_straightOrNot_61 (fun x61 t61 => ?_)
        have e61 : x61.toInt = (((G_14.1 a 3).toInt) - (1 : Int)) := (z_X3_straightOrNot_2 x61.toInt ((G_14.1 a 3).toInt) z56 t61)
        exact x_ri hx hb hr hlk hQ (Nat.le_of_ble_eq_true rfl) (Nat.le_of_ble_eq_true rfl) hS dX3_straightOrNot_62 G_14 ⟨_, rfl, (XFr.call (XFr.call (XFr.call XFr.rf hF1 (xm1 0 rfl xm0) (xm1 0 rfl xm0) xm0) hF8 (xm1 0 rfl xm0) (xm1 0 rfl (xm1 1 rfl (xm1 2 rfl xm0))) xm0) hF_14 (xm1 0 rfl xm0) (xm1 0 rfl (xm1 1 rfl (xm1 2 rfl xm0))) xm0), (by rw [(e61 : Int32.toInt x61 = (((G_14.1 a 3).toInt) - (1 : Int)))] <;> exact (v_X3_straightOrNot_62_2 (K := K) (F := F) a p0 p1 G G_14 G1 G8 p2 p3 l5_14 N14 ha hp0 hp1 oq8 pv ps pr pc sb e0 t1 I14_0 hm14 c20 z56))⟩ hT
      · refine lv_iload hx hb dX3_straightOrNot_23 (lv_at hl 3 rfl) ?_
        refine lv_bipush (v := 90) hx hb dX3_straightOrNot_25 (by decide) ?_
        refine xi_cge (tgt := 56) hx hb (rfl : Int32.toInt l5_14 = l5_14.toInt) ((by decide) : Int32.toInt 90 = (90 : Int)) dX3_straightOrNot_27 (by decide) (fun c27 => ?_) (fun c27 => ?_)
        · have z56 : 0 ≤ ((G_14.1 a 3).toInt) ∧ ((G_14.1 a 3).toInt) ≤ 90 := pv.b
          refine lv_aload_n hx hb dX3_straightOrNot_56 rfl (lv_at hl 0 rfl) ?_
          refine gX3_3 S hK hT ha kf_X3_28 dX3_straightOrNot_57 (v := (G_14.1 a 3)) rfl (?_)
          refine lv_iconst (v := 1) hx hb dX3_straightOrNot_60 (by decide) ?_
          refine xi_isub hx hb (rfl : Int32.toInt (G_14.1 a 3) = ((G_14.1 a 3).toInt)) ((by decide) : Int32.toInt 1 = (1 : Int)) dX3_straightOrNot_61 (fun x61 t61 => ?_)
          have e61 : x61.toInt = (((G_14.1 a 3).toInt) - (1 : Int)) := (z_X3_straightOrNot_3 l5_14.toInt x61.toInt ((G_14.1 a 3).toInt) c20 c27 z56)
          exact x_ri hx hb hr hlk hQ (Nat.le_of_ble_eq_true rfl) (Nat.le_of_ble_eq_true rfl) hS dX3_straightOrNot_62 G_14 ⟨_, rfl, (XFr.call (XFr.call (XFr.call XFr.rf hF1 (xm1 0 rfl xm0) (xm1 0 rfl xm0) xm0) hF8 (xm1 0 rfl xm0) (xm1 0 rfl (xm1 1 rfl (xm1 2 rfl xm0))) xm0) hF_14 (xm1 0 rfl xm0) (xm1 0 rfl (xm1 1 rfl (xm1 2 rfl xm0))) xm0), (by rw [(e61 : Int32.toInt x61 = (((G_14.1 a 3).toInt) - (1 : Int)))] <;> exact (v_X3_straightOrNot_62_3 (K := K) (F := F) a p0 p1 G G_14 G1 G8 p2 p3 l5_14 N14 ha hp0 hp1 oq8 pv ps pr pc sb e0 t1 I14_0 hm14 c20 c27 z56))⟩ hT
        · refine lv_aload_n hx hb dX3_straightOrNot_30 rfl (lv_at hl 0 rfl) ?_
          refine lv_aload_n hx hb dX3_straightOrNot_31 rfl (lv_at hl 1 rfl) ?_
          refine lv_aload_n hx hb dX3_straightOrNot_32 rfl (lv_at hl 2 rfl) ?_
          refine lv_aload_n hx hb dX3_straightOrNot_33 rfl (lv_at hl 0 rfl) ?_
          refine gX3_1 S hK hT ha kf_X3_15 dX3_straightOrNot_34 (fun _ _ => ?_)
          refine lv_iload hx hb dX3_straightOrNot_37 (lv_at hl 3 rfl) ?_
          refine al_0 S hK hT hk9999a ar_24 (by decide) (z_X3_straightOrNot_4 l5_14.toInt I14_0 c27) dX3_straightOrNot_39 (fun x39 hv39 o39 => ?_)
          have hv39 : x39.toInt = (aI (G_14.2.1 (F a 1)) (l5_14.toInt)) := hv39.trans (by rw [(rfl : Int32.toInt l5_14 = l5_14.toInt)])
          refine lv_aload_n hx hb dX3_straightOrNot_40 rfl (lv_at hl 0 rfl) ?_
          refine gX3_2 S hK hT ha kf_X3_18 dX3_straightOrNot_41 (fun _ _ => ?_)
          refine lv_iload hx hb dX3_straightOrNot_44 (lv_at hl 3 rfl) ?_
          refine al_0 S hK hT hk9999b ar_24 (by decide) (z_X3_straightOrNot_4 l5_14.toInt I14_0 c27) dX3_straightOrNot_46 (fun x46 hv46 o46 => ?_)
          have hv46 : x46.toInt = (aI (G_14.2.1 (F a 2)) (l5_14.toInt)) := hv46.trans (by rw [(rfl : Int32.toInt l5_14 = l5_14.toInt)])
          refine x_cv0 (x_runV (b := a) (As := [.ref p0, .ref p1, .int x39, .int x46]) (rest := []) S (c_X3_reachFrom l E K F G_14 a p0 p1 x39 x46 ha hp0 hp1 (by rw [(show (G_14.1 p1 2).toInt = ((G.1 p1 2).toInt) from (congrArg Int32.toInt ((hF_14.1 _ _ (xnj (by decide) xn0)).trans ((hF8.1 _ _ (xnj (by decide) xn0)).trans (hF1.1 _ _ (xnj (by decide) xn0))))).trans (rfl : Int32.toInt (G.1 p1 2) = ((G.1 p1 2).toInt)))] <;> exact (sb)) (v_X3_straightOrNot_47_4 (F := F) G_14 a pv)) mv_X3_reachFrom km_X3_24 rfl rfl ⟨Nat.le_of_ble_eq_true rfl, Nat.le_of_ble_eq_true rfl⟩ (rc_5 hK hT ha) hK (fun _ => XP.blind) (fun U hU hW => XP.at hK hz hS hT hU hW) rfl hl.1 (Nat.le_of_ble_eq_true rfl) dX3_straightOrNot_47 ⟨Nat.le_of_ble_eq_true rfl, Nat.le_of_ble_eq_true rfl⟩) hS ?_
          rintro G47 H locs ⟨hF47, oq47⟩ hT hS
          have oq47 : LGo (aI (G_14.2.1 (F a 0))) (aI (G_14.2.1 (F a 1))) (aI (G_14.2.1 (F a 2))) ((G_14.1 a 3).toInt) (aI (G47.2.1 (F a 0))) (aI (G47.2.1 (F a 1))) (aI (G47.2.1 (F a 2))) ((G47.1 a 3).toInt) (fun u9 k9 => lnC G_14 (G_14.2.2.1 (F p1 1)) (vw (G.2.1 (F p0 0))) ((G.1 p1 2).toInt) u9 k9 (aI (G_14.2.1 (F a 1)) (l5_14.toInt)) (aI (G_14.2.1 (F a 2)) (l5_14.toInt))) := by simp only [(hv39 : Int32.toInt x39 = (aI (G_14.2.1 (F a 1)) (l5_14.toInt))), (hv46 : Int32.toInt x46 = (aI (G_14.2.1 (F a 2)) (l5_14.toInt))), (show G_14.2.1 (F p0 0) = G.2.1 (F p0 0) from ((hF_14.2.1 _ (xn1 (xne_k hk9999d hk9999 (by decide)) (xn1 (xne_k hk9999d hk9999a (by decide)) (xn1 (xne_k hk9999d hk9999b (by decide)) xn0)))).trans ((hF8.2.1 _ (xn1 (xne_k hk9999d hk9999 (by decide)) (xn1 (xne_k hk9999d hk9999a (by decide)) (xn1 (xne_k hk9999d hk9999b (by decide)) xn0)))).trans (hF1.2.1 _ (xn1 (xne_k hk9999d hk9999 (by decide)) xn0))))), (show G_14.1 p1 2 = G.1 p1 2 from ((hF_14.1 _ _ (xnj (by decide) xn0)).trans ((hF8.1 _ _ (xnj (by decide) xn0)).trans (hF1.1 _ _ (xnj (by decide) xn0)))))] at oq47; exact oq47
          refine xi_iinc (n := 1) (lv' := fun z9 => [(5, .int z9), (0, .ref a), (1, .ref p0), (2, .ref p1)]) (k := 3) hx hb (rfl : Int32.toInt l5_14 = l5_14.toInt) (by decide) dX3_straightOrNot_50 hl rfl (by decide) (fun _ => rfl) (fun x50 ls t50 hl => ?_)
          have e50 : x50.toInt = (l5_14.toInt + 1) := (z_X3_straightOrNot_7 l5_14.toInt x50.toInt I14_0 t50)
          have hl : lv_has ls 6 [(5, .int x50), (0, .ref a), (1, .ref p0), (2, .ref p1)] := hl
          refine lv_goto (tgt := 14) hx hb dX3_straightOrNot_53 (by decide) ?_
          exact ih14 x50 G47 _ _ _ (XFr.call (XFr.call XFr.rf hF_14 (xm1 0 rfl xm0) (xm1 0 rfl (xm1 1 rfl (xm1 2 rfl xm0))) xm0) hF47 (xm1 0 rfl xm0) (xm1 0 rfl (xm1 1 rfl (xm1 2 rfl xm0))) xm0) (v_X3_straightOrNot_53_5 (F := F) G_14 a G47 p1 G p0 l5_14 oq47) (v_X3_straightOrNot_53_6 (K := K) (F := F) a p0 p1 G G47 G1 G8 G_14 p2 p3 l5_14 N14 ha hp0 hp1 oq8 pv ps oq47 sb e0 t1 I14_0 hm14 c20 c27) (v_X3_straightOrNot_53_7 (K := K) (F := F) a p0 p1 G G47 G1 G8 G_14 p2 p3 l5_14 N14 ha hp0 hp1 hk9999 hj9999 hk9999a hj9999a hk9999b hj9999b hk9999c hj9999c hk9999d hj9999d hF1 hF8 hF_14 bko oq8 pv ps pr oq47 sb e0 t1 I14_0 hm14 c20 c27 ((hF_14.2.2 _ xn0).trans ((hF8.2.2 _ xn0).trans (hF1.2.2 _ xn0)))) (by rw [(e50 : Int32.toInt x50 = (l5_14.toInt + 1))] <;> exact (v_X3_straightOrNot_53_8 (K := K) (F := F) a p0 p1 G G47 G1 G8 G_14 p2 p3 l5_14 N14 ha hp0 hp1 hk9999 hj9999 hk9999a hj9999a hk9999b hj9999b hk9999c hj9999c hk9999d hj9999d hF1 hF8 hF_14 bko oq8 pv ps pc oq47 sb e0 t1 I14_0 hm14 c20 c27 ((hF_14.2.2 _ xn0).trans ((hF8.2.2 _ xn0).trans (hF1.2.2 _ xn0))))) (by rw [(e50 : Int32.toInt x50 = (l5_14.toInt + 1))] <;> exact (z_X3_straightOrNot_8 l5_14.toInt I14_0 c27)) (by rw [(e50 : Int32.toInt x50 = (l5_14.toInt + 1))] <;> exact (z_X3_straightOrNot_9 l5_14.toInt N14 hm14)) hT hS (lv_sub hl [1, 2, 3, 0] rfl)
  exact L14 4294967297 0 G8 _ _ _ XFr.rf (v_X3_straightOrNot_12_9 (F := F) G1 a G G8 p2 p3 oq8) (v_X3_straightOrNot_12_10 (K := K) (F := F) a p0 p1 G G8 G1 p2 p3 ha hp0 hp1 oq8 sb e0 t1) (v_X3_straightOrNot_12_11 (F := F) a p0 p1 G G8 G1 p2 p3 oq1 oq8) (v_X3_straightOrNot_12_12 (K := K) (F := F) a p0 p1 G G8 G1 p2 p3 ha hp0 hp1 oq8 sb e0 t1) (by decide) (by decide) hT hS (lv_sub hl [1, 2, 3, 0] rfl)

theorem z_X10_leans_1 (a0 : Int) : (¬ a0 = 0 ∧ ¬ a0 = 1) ∨ (a0 = 0) ∨ (a0 = 1) := by omega
theorem z_X10_leans_4 (a0 : Int) (a1 : Int) (a2 : Int) (a3 : Int) (h0 : ¬ (0 ≤ a0 ∧ a0 < 3 ∧ 0 ≤ a1 ∧ a1 < 30) → a3 = -2000) (h1 : (a2 = 1 ∧ a3 ≠ -2000) ∨ (a2 = 0 ∧ a3 = -2000)) (h2 : a2 ≠ 0) : 0 ≤ a0 ∧ a0 < 3 ∧ 0 ≤ a1 ∧ a1 < 30 := by omega
abbrev rm_X10_leans : Room := { frames := 4, cells := 0, slots := 0, locals := 96 }
set_option maxHeartbeats 4000000 in
set_option maxRecDepth 100000 in
theorem c_X10_leans (l : Launch) (E : XE) (K : Nat → Nat) (F : Nat → Nat → Nat) (G : XG) (a : Nat) (p0 : Int32) (p1 : Int32) (p2 : Int32) (ha : K a = 12) (sb : 0 ≤ ((G.1 (F a 2) 2).toInt) ∧ ((G.1 (F a 2) 2).toInt) ≤ 12) (ron : RO (vw (G.2.1 (F (F a 3) 0))) (aI (G.2.1 (F (F a 3) 1)))) (bko : BKr K G (G.2.2.1 (F (F a 2) 1))) : Met l yX10_leans (xw yX10_leans cX10_leans 4 (some .int)) rm_X10_leans (va_Pc [.ref a, .int p0, .int p1, .int p2] (XP E K F G)) (XQ E (fun v (u : XG) => ∃ r : Int32, v = .int r ∧ XFr [(F a 13, 3)] [F (F a 13) 0, F (F a 13) 1, F (F a 13) 2] [] G u ∧ (((cel (vw (G.2.1 (F (F a 3) 0))) p0.toInt p1.toInt 0 = -2000 ∨ (p2.toInt ≠ 0 ∧ p2.toInt ≠ 1)) ∧ r.toInt = -1) ∨ (cel (vw (G.2.1 (F (F a 3) 0))) p0.toInt p1.toInt 0 ≠ -2000 ∧ ((p2.toInt = 0 ∧ ∃ b : Int → Int, r.toInt = toB b 3 ∧ ∀ t j : Int, inR t j → (bI (b t) j = 1 ↔ lnC G (G.2.2.1 (F (F a 2) 1)) (vw (G.2.1 (F (F a 3) 0))) ((G.1 (F a 2) 2).toInt) t j p0.toInt p1.toInt)) ∨ (p2.toInt = 1 ∧ ∃ b : Int → Int, r.toInt = toB b 3 - 1 ∧ ∀ t j : Int, inR t j → (bI (b t) j = 1 ↔ RCH (lnC G (G.2.2.1 (F (F a 2) 1)) (vw (G.2.1 (F (F a 3) 0))) ((G.1 (F a 2) 2).toInt)) p0.toInt p1.toInt t j)))))) (fun u H => TW E K F u H)) 0 0 (xA E) := by
  refine x_enter (by decide) (Nat.le_of_ble_eq_true rfl) ?_
  intro p e s m args below meth c Q S hr hlk hnm hQ hP ls hl
  obtain ⟨hz, hK, hT⟩ := hP
  obtain ⟨hx, hb, -, -, -⟩ := id S
  obtain ⟨H, hT, hS, hgo⟩ : ∃ H : Heap, TW E K F G H ∧ va_S (xA E) s.heap H [] ∧ H = s.heap := ⟨_, hT, va_S.rf, rfl⟩
  rw [← hgo]
  have hl : lv_has ls 4 [(0, .ref a), (1, .int p0), (2, .int p1), (3, .int p2)] := hl
  obtain ⟨hk9999, hj9999⟩ := fkX10_13 hT ha
  obtain ⟨hk9999a, hj9999a⟩ := fkX3_0 hT hk9999
  obtain ⟨hk9999b, hj9999b⟩ := fkX3_1 hT hk9999
  obtain ⟨hk9999c, hj9999c⟩ := fkX3_2 hT hk9999
  obtain ⟨hk9999d, hj9999d⟩ := fkX10_2 hT ha
  obtain ⟨hk9999e, hj9999e⟩ := fkX0_1 hT hk9999d
  obtain ⟨hk9999f, hj9999f⟩ := fkX10_3 hT ha
  obtain ⟨hk9999g, hj9999g⟩ := fkX6_0 hT hk9999f
  have hj9999h : F (F (F a 3) 0) 99 = 0 := by rw [hj9999g, hj9999f]
  obtain ⟨hk9999h, hj9999i⟩ := fkX6_1 hT hk9999f
  have hj9999j : F (F (F a 3) 1) 99 = 0 := by rw [hj9999i, hj9999f]
  refine lv_aload_n hx hb dX10_leans_0 rfl (lv_at hl 0 rfl) ?_
  refine gX10_3 S hK hT ha kf_X10_37 dX10_leans_1 (fun _ _ => ?_)
  refine lv_iload_n hx hb dX10_leans_4 rfl (lv_at hl 1 rfl) ?_
  have z5 : ¬ (0 ≤ p0.toInt ∧ p0.toInt < 3 ∧ 0 ≤ p1.toInt ∧ p1.toInt < 30) → (cel (vw (G.2.1 (F (F a 3) 0))) (p0.toInt) (p1.toInt) 0) = -2000 := fun h9 => cel_out (by omega)
  refine lv_iload_n hx hb dX10_leans_5 rfl (lv_at hl 2 rfl) ?_
  refine x_clp (x_runV (b := (F a 3)) (As := [.int p0, .int p1]) (rest := []) S (c_X6_has l E K F G H (F a 3) p0 p1 hk9999f (v_X10_leans_6_1 (F := F) a G ron)) mv_X6_has km_X10_191 rfl rfl ⟨Nat.le_of_ble_eq_true rfl, Nat.le_of_ble_eq_true rfl⟩ (rc_8 hK hT hk9999f) hK (fun _ => XPh.blind) (fun U hU hW => XPh.at hK hz hS hT hU hW) rfl hl.1 (Nat.le_of_ble_eq_true rfl) dX10_leans_6 ⟨Nat.le_of_ble_eq_true rfl, Nat.le_of_ble_eq_true rfl⟩) hS ?_
  rintro _ _ locs ⟨x6, rfl, b6, t6⟩ hS
  have t6 : (x6.toInt = 1 ∧ (cel (vw (G.2.1 (F (F a 3) 0))) (p0.toInt) (p1.toInt) 0) ≠ -2000) ∨ (x6.toInt = 0 ∧ (cel (vw (G.2.1 (F (F a 3) 0))) (p0.toInt) (p1.toInt) 0) = -2000) := t6
  refine xi_zne (tgt := 14) hx hb (rfl : Int32.toInt x6 = x6.toInt) dX10_leans_9 (by decide) (fun c9 => ?_) (fun c9 => ?_)
  · refine lv_iload_n hx hb dX10_leans_14 rfl (lv_at hl 3 rfl) ?_
    rcases ((z_X10_leans_1 p2.toInt) : (¬ p2.toInt = 0 ∧ ¬ p2.toInt = 1) ∨ (p2.toInt = 0) ∨ (p2.toInt = 1)) with c15 | c15 | c15
    · refine lv_lookup (off := 61) (tgt := 76) hx hb dX10_leans_15 (by decide) (by first | (simp only [Op.lookupswitch.offset_cons, Op.lookupswitch.offset_nil]; (repeat' split) <;> omega) | (simp [Op.lookupswitch.offset]; (repeat' split) <;> omega) | (simp [Op.lookupswitch.offset]; omega)) (by decide) ?_
      refine lv_iconst (v := (-1)) hx hb dX10_leans_76 (by decide) ?_
      exact x_ri hx hb hr hlk hQ (Nat.le_of_ble_eq_true rfl) (Nat.le_of_ble_eq_true rfl) hS dX10_leans_77 G ⟨_, rfl, XFr.rf, (by rw [((by decide) : Int32.toInt (-1) = (-1 : Int))] <;> exact (v_X10_leans_77_2 (K := K) (F := F) a G p0 p1 x6 p2 ha sb z5 t6 c9 c15))⟩ hT
    · refine lv_lookup (off := 25) (tgt := 40) hx hb dX10_leans_15 (by decide) (by rw [c15]; rfl) (by decide) ?_
      refine lv_aload_n hx hb dX10_leans_40 rfl (lv_at hl 0 rfl) ?_
      refine gX10_13 S hK hT ha kf_X10_84 dX10_leans_41 (fun _ _ => ?_)
      refine lv_aload_n hx hb dX10_leans_44 rfl (lv_at hl 0 rfl) ?_
      refine gX10_3 S hK hT ha kf_X10_37 dX10_leans_45 (fun _ _ => ?_)
      refine lv_aload_n hx hb dX10_leans_48 rfl (lv_at hl 0 rfl) ?_
      refine gX10_2 S hK hT ha kf_X10_30 dX10_leans_49 (fun _ _ => ?_)
      refine lv_iload_n hx hb dX10_leans_52 rfl (lv_at hl 1 rfl) ?_
      refine lv_iload_n hx hb dX10_leans_53 rfl (lv_at hl 2 rfl) ?_
      refine x_cl0 (x_runV (b := (F a 13)) (As := [.ref (F a 3), .ref (F a 2), .int p0, .int p1]) (rest := []) S (c_X3_straight l E K F G (F a 13) (F a 3) (F a 2) p0 p1 hk9999 hk9999f hk9999d (sb) (v_X10_leans_54_3 (K := K) (F := F) a G bko)) mv_X3_straight km_X10_358 rfl rfl ⟨Nat.le_of_ble_eq_true rfl, Nat.le_of_ble_eq_true rfl⟩ (rc_5 hK hT hk9999) hK (fun _ => XP.blind) (fun U hU hW => XP.at hK hz hS hT hU hW) rfl hl.1 (Nat.le_of_ble_eq_true rfl) dX10_leans_54 ⟨Nat.le_of_ble_eq_true rfl, Nat.le_of_ble_eq_true rfl⟩) hS ?_
      rintro _ G54 H locs ⟨x54, rfl, hF54, oq54⟩ hT hS
      exact x_ri hx hb hr hlk hQ (Nat.le_of_ble_eq_true rfl) (Nat.le_of_ble_eq_true rfl) hS dX10_leans_57 G54 ⟨_, rfl, (XFr.call XFr.rf hF54 (xm1 0 rfl xm0) (xm1 0 rfl (xm1 1 rfl (xm1 2 rfl xm0))) xm0), (v_X10_leans_57_4 (K := K) (F := F) a G x54 p0 p1 x6 p2 ha oq54 sb z5 t6 c9 c15)⟩ hT
    · refine lv_lookup (off := 43) (tgt := 58) hx hb dX10_leans_15 (by decide) (by rw [c15]; rfl) (by decide) ?_
      refine lv_aload_n hx hb dX10_leans_58 rfl (lv_at hl 0 rfl) ?_
      refine gX10_13 S hK hT ha kf_X10_84 dX10_leans_59 (fun _ _ => ?_)
      refine lv_aload_n hx hb dX10_leans_62 rfl (lv_at hl 0 rfl) ?_
      refine gX10_3 S hK hT ha kf_X10_37 dX10_leans_63 (fun _ _ => ?_)
      refine lv_aload_n hx hb dX10_leans_66 rfl (lv_at hl 0 rfl) ?_
      refine gX10_2 S hK hT ha kf_X10_30 dX10_leans_67 (fun _ _ => ?_)
      refine lv_iload_n hx hb dX10_leans_70 rfl (lv_at hl 1 rfl) ?_
      refine lv_iload_n hx hb dX10_leans_71 rfl (lv_at hl 2 rfl) ?_
      refine x_cl0 (x_runV (b := (F a 13)) (As := [.ref (F a 3), .ref (F a 2), .int p0, .int p1]) (rest := []) S (c_X3_straightOrNot l E K F G (F a 13) (F a 3) (F a 2) p0 p1 hk9999 hk9999f hk9999d (sb) (z_X10_leans_4 p0.toInt p1.toInt x6.toInt (cel (vw (G.2.1 (F (F a 3) 0))) (p0.toInt) (p1.toInt) 0) z5 t6 c9) (v_X10_leans_72_5 (K := K) (F := F) a G bko)) mv_X3_straightOrNot km_X10_362 rfl rfl ⟨Nat.le_of_ble_eq_true rfl, Nat.le_of_ble_eq_true rfl⟩ (rc_5 hK hT hk9999) hK (fun _ => XP.blind) (fun U hU hW => XP.at hK hz hS hT hU hW) rfl hl.1 (Nat.le_of_ble_eq_true rfl) dX10_leans_72 ⟨Nat.le_of_ble_eq_true rfl, Nat.le_of_ble_eq_true rfl⟩) hS ?_
      rintro _ G72 H locs ⟨x72, rfl, hF72, oq72⟩ hT hS
      exact x_ri hx hb hr hlk hQ (Nat.le_of_ble_eq_true rfl) (Nat.le_of_ble_eq_true rfl) hS dX10_leans_75 G72 ⟨_, rfl, (XFr.call XFr.rf hF72 (xm1 0 rfl xm0) (xm1 0 rfl (xm1 1 rfl (xm1 2 rfl xm0))) xm0), (v_X10_leans_75_6 (K := K) (F := F) a G x72 p0 p1 x6 p2 ha oq72 sb z5 t6 c9 c15)⟩ hT
  · refine lv_iconst (v := (-1)) hx hb dX10_leans_12 (by decide) ?_
    exact x_ri hx hb hr hlk hQ (Nat.le_of_ble_eq_true rfl) (Nat.le_of_ble_eq_true rfl) hS dX10_leans_13 G ⟨_, rfl, XFr.rf, (by rw [((by decide) : Int32.toInt (-1) = (-1 : Int))] <;> exact (v_X10_leans_13_7 (K := K) (F := F) a G p0 p1 x6 p2 ha sb z5 t6 c9))⟩ hT

